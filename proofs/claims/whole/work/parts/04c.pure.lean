def k_ThumbCore_poke_32 (q_memory_size : Int32) : Nat → (Nat → Int32) → Int32 → Int32 → Int32 → Int32 → Bool × (Nat → Int32)
  | 0, c_memory_words, y1, y2, y3, y4 => (false, c_memory_words)
  | n + 1, c_memory_words, y1, y2, y3, y4 =>
  if y3 ≤ y4 then ((true, c_memory_words))
  else bd (f_Memory_write c_memory_words (y1 + y4) (o_iushr y2 (8 * y4)) 1 : Nat → Int32) (fun s1 =>
  k_ThumbCore_poke_32 q_memory_size n s1 y1 y2 y3 (y4 + 1))
def k_ThumbCore_poke_15 (q_memory_size : Int32) (c_memory_words : Nat → Int32) (y1 : Int32) (y2 : Int32) (y3 : Int32) : Bool × (Nat → Int32) :=
  bd (f_Memory_holds q_memory_size y1 y3 : Bool) (fun v1 =>
  if ¬ (bI v1) = 0 then (k_ThumbCore_poke_32 q_memory_size ((Int32.toInt y3).toNat.succ) c_memory_words y1 y2 y3 0)
  else (false, c_memory_words))
def f_ThumbCore_poke (q_memory_size : Int32) (c_memory_words : Nat → Int32) (x1 : Int32) (x2 : Int32) (x3 : Int32) : Bool × (Nat → Int32) :=
  if x3 = 1 then (k_ThumbCore_poke_15 q_memory_size c_memory_words x1 x2 x3)
  else if x3 = 2 then (k_ThumbCore_poke_15 q_memory_size c_memory_words x1 x2 x3)
  else if ¬ x3 = 4 then ((false, c_memory_words))
  else k_ThumbCore_poke_15 q_memory_size c_memory_words x1 x2 x3
def f_ThumbCore_peek (q_memory_size : Int32) (c_memory_words : Nat → Int32) (x1 : Int32) : Int32 :=
  bd (f_Memory_holds q_memory_size x1 1 : Bool) (fun v1 =>
  if (bI v1) = 0 then ((-1))
  else bd (f_Memory_read c_memory_words x1 1 : Int32) (fun v2 =>
  v2))
def k_ThumbCore_reset_2 (c_memory_words : Nat → Int32) : Nat → Bool → Bool → (Nat → Int32) → Bool → Bool → Bool → Bool → Int32 → Int32 → Int32 → Bool → Int32 → Int32 → Bool → Int32 → Bool × Bool × (Nat → Int32) × Bool × Bool × Bool × Bool × Int32 × Int32 × Int32 × Bool × Int32 × Int32 × Bool
  | 0, c_asleep, c_locked, c_registers, c_flags_negative, c_flags_zero, c_flags_carry, c_flags_overflow, c_exceptions_pending, c_exceptions_active, c_exceptions_current, c_exceptions_masked, c_counter_number, c_counter_reload, c_counter_on, y1 => (c_asleep, c_locked, c_registers, c_flags_negative, c_flags_zero, c_flags_carry, c_flags_overflow, c_exceptions_pending, c_exceptions_active, c_exceptions_current, c_exceptions_masked, c_counter_number, c_counter_reload, c_counter_on)
  | n + 1, c_asleep, c_locked, c_registers, c_flags_negative, c_flags_zero, c_flags_carry, c_flags_overflow, c_exceptions_pending, c_exceptions_active, c_exceptions_current, c_exceptions_masked, c_counter_number, c_counter_reload, c_counter_on, y1 =>
  if 13 ≤ y1 then (bd (f_Memory_word c_memory_words 0 : Int32) (fun v1 =>
    bd (f_Memory_word c_memory_words 4 : Int32) (fun v2 =>
    un4 (f_Flags_take c_flags_negative c_flags_zero c_flags_carry c_flags_overflow 0) (fun s3 s4 s5 s6 =>
    un4 (f_Exceptions_clear c_exceptions_pending c_exceptions_active c_exceptions_current c_exceptions_masked) (fun s7 s8 s9 s10 =>
    un3 (f_Counter_begin c_counter_number c_counter_reload c_counter_on 0 false) (fun s11 s12 s13 =>
    (false, false, (upd (upd (upd c_registers (13 : Int32).toNatClampNeg (v1 &&& (-4))) (14 : Int32).toNatClampNeg (-1)) (15 : Int32).toNatClampNeg (v2 &&& (-2))), s3, s4, s5, s6, s7, s8, s9, s10, s11, s12, s13)))))))
  else k_ThumbCore_reset_2 c_memory_words n c_asleep c_locked (upd c_registers y1.toNatClampNeg 0) c_flags_negative c_flags_zero c_flags_carry c_flags_overflow c_exceptions_pending c_exceptions_active c_exceptions_current c_exceptions_masked c_counter_number c_counter_reload c_counter_on (y1 + 1)
def f_ThumbCore_reset (c_memory_words : Nat → Int32) (c_asleep : Bool) (c_locked : Bool) (c_registers : Nat → Int32) (c_flags_negative : Bool) (c_flags_zero : Bool) (c_flags_carry : Bool) (c_flags_overflow : Bool) (c_exceptions_pending : Int32) (c_exceptions_active : Int32) (c_exceptions_current : Int32) (c_exceptions_masked : Bool) (c_counter_number : Int32) (c_counter_reload : Int32) (c_counter_on : Bool) : Bool × Bool × (Nat → Int32) × Bool × Bool × Bool × Bool × Int32 × Int32 × Int32 × Bool × Int32 × Int32 × Bool :=
  k_ThumbCore_reset_2 c_memory_words 14 c_asleep c_locked c_registers c_flags_negative c_flags_zero c_flags_carry c_flags_overflow c_exceptions_pending c_exceptions_active c_exceptions_current c_exceptions_masked c_counter_number c_counter_reload c_counter_on 0
def f_ThumbCore_status (c_flags_negative : Bool) (c_flags_zero : Bool) (c_flags_carry : Bool) (c_flags_overflow : Bool) (c_exceptions_current : Int32) : Int32 :=
  bd (f_Flags_bits c_flags_negative c_flags_zero c_flags_carry c_flags_overflow : Int32) (fun v1 =>
  ((v1 ||| 16777216) ||| c_exceptions_current))
def k_ThumbCore_enter_57 (q_memory_size : Int32) (c_flags_negative : Bool) (c_flags_zero : Bool) (c_flags_carry : Bool) (c_flags_overflow : Bool) (c_locked : Bool) (c_memory_words : Nat → Int32) (c_registers : Nat → Int32) (c_exceptions_pending : Int32) (c_exceptions_active : Int32) (c_exceptions_current : Int32) : Bool × (Nat → Int32) × (Nat → Int32) × Int32 × Int32 × Int32 :=
  (true, c_memory_words, c_registers, c_exceptions_pending, c_exceptions_active, c_exceptions_current)
def k_ThumbCore_enter_179 (q_memory_size : Int32) (c_flags_negative : Bool) (c_flags_zero : Bool) (c_flags_carry : Bool) (c_flags_overflow : Bool) (c_locked : Bool) (c_memory_words : Nat → Int32) (c_registers : Nat → Int32) (c_exceptions_pending : Int32) (c_exceptions_active : Int32) (c_exceptions_current : Int32) (y1 : Int32) (y5 : Int32) (z2 : Int32) : Bool × (Nat → Int32) × (Nat → Int32) × Int32 × Int32 × Int32 :=
  un3 (f_Exceptions_begin c_exceptions_pending c_exceptions_active c_exceptions_current y1) (fun s1 s2 s3 =>
  (c_locked, c_memory_words, (upd (upd c_registers (14 : Int32).toNatClampNeg z2) (15 : Int32).toNatClampNeg (y5 &&& (-2))), s1, s2, s3))
def k_ThumbCore_enter_143 (q_memory_size : Int32) (c_flags_negative : Bool) (c_flags_zero : Bool) (c_flags_carry : Bool) (c_flags_overflow : Bool) (c_locked : Bool) (c_memory_words : Nat → Int32) (c_registers : Nat → Int32) (c_exceptions_pending : Int32) (c_exceptions_active : Int32) (c_exceptions_current : Int32) (y1 : Int32) (y4 : Int32) (y5 : Int32) (z1 : Int32) (z2 : Int32) (z3 : Int32) : Bool × (Nat → Int32) × (Nat → Int32) × Int32 × Int32 × Int32 :=
  bd (f_Memory_putWord c_memory_words z1 (z2 ||| z3) : Nat → Int32) (fun s1 =>
  if ¬ c_exceptions_active = 0 then (k_ThumbCore_enter_179 q_memory_size c_flags_negative c_flags_zero c_flags_carry c_flags_overflow c_locked s1 (upd c_registers (13 : Int32).toNatClampNeg y4) c_exceptions_pending c_exceptions_active c_exceptions_current y1 y5 (-15))
  else k_ThumbCore_enter_179 q_memory_size c_flags_negative c_flags_zero c_flags_carry c_flags_overflow c_locked s1 (upd c_registers (13 : Int32).toNatClampNeg y4) c_exceptions_pending c_exceptions_active c_exceptions_current y1 y5 (-7))
def k_ThumbCore_enter_66 (q_memory_size : Int32) (c_flags_negative : Bool) (c_flags_zero : Bool) (c_flags_carry : Bool) (c_flags_overflow : Bool) : Nat → Bool → (Nat → Int32) → (Nat → Int32) → Int32 → Int32 → Int32 → Int32 → Int32 → Int32 → Int32 → Int32 → Int32 → Bool × (Nat → Int32) × (Nat → Int32) × Int32 × Int32 × Int32
  | 0, c_locked, c_memory_words, c_registers, c_exceptions_pending, c_exceptions_active, c_exceptions_current, y1, y2, y3, y4, y5, y6 => (c_locked, c_memory_words, c_registers, c_exceptions_pending, c_exceptions_active, c_exceptions_current)
  | n + 1, c_locked, c_memory_words, c_registers, c_exceptions_pending, c_exceptions_active, c_exceptions_current, y1, y2, y3, y4, y5, y6 =>
  if 6 ≤ y6 then (bd (f_Memory_putWord c_memory_words (y4 + 24) y2 : Nat → Int32) (fun s1 =>
    bd (f_ThumbCore_status c_flags_negative c_flags_zero c_flags_carry c_flags_overflow c_exceptions_current : Int32) (fun v2 =>
    if y3 = 0 then (k_ThumbCore_enter_143 q_memory_size c_flags_negative c_flags_zero c_flags_carry c_flags_overflow c_locked s1 c_registers c_exceptions_pending c_exceptions_active c_exceptions_current y1 y4 y5 (y4 + 28) v2 0)
    else k_ThumbCore_enter_143 q_memory_size c_flags_negative c_flags_zero c_flags_carry c_flags_overflow c_locked s1 c_registers c_exceptions_pending c_exceptions_active c_exceptions_current y1 y4 y5 (y4 + 28) v2 512)))
  else bd (f_Memory_putWord c_memory_words (y4 + (4 * y6)) (c_registers (laid y6.toNatClampNeg).toNatClampNeg) : Nat → Int32) (fun s3 =>
  k_ThumbCore_enter_66 q_memory_size c_flags_negative c_flags_zero c_flags_carry c_flags_overflow n c_locked s3 c_registers c_exceptions_pending c_exceptions_active c_exceptions_current y1 y2 y3 y4 y5 (y6 + 1))
def f_ThumbCore_enter (q_memory_size : Int32) (c_flags_negative : Bool) (c_flags_zero : Bool) (c_flags_carry : Bool) (c_flags_overflow : Bool) (c_locked : Bool) (c_memory_words : Nat → Int32) (c_registers : Nat → Int32) (c_exceptions_pending : Int32) (c_exceptions_active : Int32) (c_exceptions_current : Int32) (x1 : Int32) (x2 : Int32) : Bool × (Nat → Int32) × (Nat → Int32) × Int32 × Int32 × Int32 :=
  bd (((c_registers (13 : Int32).toNatClampNeg) &&& 4) : Int32) (fun v1 =>
  bd ((((c_registers (13 : Int32).toNatClampNeg) - 32) - v1) : Int32) (fun v2 =>
  bd (f_Memory_word c_memory_words (4 * x1) : Int32) (fun v3 =>
  bd (f_Memory_areThere q_memory_size v2 8 : Bool) (fun v4 =>
  if (bI v4) = 0 then (k_ThumbCore_enter_57 q_memory_size c_flags_negative c_flags_zero c_flags_carry c_flags_overflow c_locked c_memory_words c_registers c_exceptions_pending c_exceptions_active c_exceptions_current)
  else if ¬ (v3 &&& 1) = 0 then (k_ThumbCore_enter_66 q_memory_size c_flags_negative c_flags_zero c_flags_carry c_flags_overflow 7 c_locked c_memory_words c_registers c_exceptions_pending c_exceptions_active c_exceptions_current x1 x2 v1 v2 v3 0)
  else k_ThumbCore_enter_57 q_memory_size c_flags_negative c_flags_zero c_flags_carry c_flags_overflow c_locked c_memory_words c_registers c_exceptions_pending c_exceptions_active c_exceptions_current))))
def k_ThumbCore_moveByConstant_96 (c_registers : Nat → Int32) (c_flags_negative : Bool) (c_flags_zero : Bool) (c_flags_carry : Bool) (z1 : Int32) (z3 : Int32) (z4 : Int32) : Bool × (Nat → Int32) × Bool × Bool × Bool :=
  un4 (f_Flags_moveDown c_flags_negative c_flags_zero c_flags_carry z3 z4) (fun r1 s2 s3 s4 =>
  (true, (upd c_registers z1.toNatClampNeg r1), s2, s3, s4))
def k_ThumbCore_moveByConstant_124 (c_registers : Nat → Int32) (c_flags_negative : Bool) (c_flags_zero : Bool) (c_flags_carry : Bool) (z1 : Int32) (z3 : Int32) (z4 : Int32) : Bool × (Nat → Int32) × Bool × Bool × Bool :=
  un4 (f_Flags_moveDownSigned c_flags_negative c_flags_zero c_flags_carry z3 z4) (fun r1 s2 s3 s4 =>
  (true, (upd c_registers z1.toNatClampNeg r1), s2, s3, s4))
def f_ThumbCore_moveByConstant (c_registers : Nat → Int32) (c_flags_negative : Bool) (c_flags_zero : Bool) (c_flags_carry : Bool) (x1 : Int32) : Bool × (Nat → Int32) × Bool × Bool × Bool :=
  bd ((x1 &&& 7) : Int32) (fun v1 =>
  bd ((c_registers ((o_iushr x1 3) &&& 7).toNatClampNeg) : Int32) (fun v2 =>
  bd (((o_iushr x1 6) &&& 31) : Int32) (fun v3 =>
  if (o_iushr x1 11) = 0 then (un4 (f_Flags_moveUp c_flags_negative c_flags_zero c_flags_carry v2 v3) (fun r4 s5 s6 s7 =>
    (true, (upd c_registers v1.toNatClampNeg r4), s5, s6, s7)))
  else if (o_iushr x1 11) = 1 then (if ¬ v3 = 0 then (k_ThumbCore_moveByConstant_96 c_registers c_flags_negative c_flags_zero c_flags_carry v1 v2 v3)
    else k_ThumbCore_moveByConstant_96 c_registers c_flags_negative c_flags_zero c_flags_carry v1 v2 32)
  else if ¬ v3 = 0 then (k_ThumbCore_moveByConstant_124 c_registers c_flags_negative c_flags_zero c_flags_carry v1 v2 v3)
  else k_ThumbCore_moveByConstant_124 c_registers c_flags_negative c_flags_zero c_flags_carry v1 v2 32)))
def k_ThumbCore_addThree_112 (c_registers : Nat → Int32) (c_flags_negative : Bool) (c_flags_zero : Bool) (c_flags_carry : Bool) (c_flags_overflow : Bool) (z1 : Int32) (z2 : Int32) : Bool × (Nat → Int32) × Bool × Bool × Bool × Bool :=
  (true, (upd c_registers z1.toNatClampNeg z2), c_flags_negative, c_flags_zero, c_flags_carry, c_flags_overflow)
def k_ThumbCore_addThree_68 (c_registers : Nat → Int32) (c_flags_negative : Bool) (c_flags_zero : Bool) (c_flags_carry : Bool) (c_flags_overflow : Bool) (y1 : Int32) (y4 : Bool) (y5 : Int32) (z0 : Int32) : Bool × (Nat → Int32) × Bool × Bool × Bool × Bool :=
  if (bI y4) = 0 then (un5 (f_Flags_add c_flags_negative c_flags_zero c_flags_carry c_flags_overflow y5 z0 0) (fun r1 s2 s3 s4 s5 =>
    k_ThumbCore_addThree_112 c_registers s2 s3 s4 s5 (y1 &&& 7) r1))
  else un5 (f_Flags_add c_flags_negative c_flags_zero c_flags_carry c_flags_overflow y5 (z0 ^^^ (-1)) 1) (fun r6 s7 s8 s9 s10 =>
  k_ThumbCore_addThree_112 c_registers s7 s8 s9 s10 (y1 &&& 7) r6)
def k_ThumbCore_addThree_39 (c_registers : Nat → Int32) (c_flags_negative : Bool) (c_flags_zero : Bool) (c_flags_carry : Bool) (c_flags_overflow : Bool) (y1 : Int32) (y2 : Int32) (y3 : Bool) (z0 : Bool) : Bool × (Nat → Int32) × Bool × Bool × Bool × Bool :=
  bd ((c_registers ((o_iushr y1 3) &&& 7).toNatClampNeg) : Int32) (fun v1 =>
  if (bI y3) = 0 then (k_ThumbCore_addThree_68 c_registers c_flags_negative c_flags_zero c_flags_carry c_flags_overflow y1 z0 v1 (c_registers y2.toNatClampNeg))
  else k_ThumbCore_addThree_68 c_registers c_flags_negative c_flags_zero c_flags_carry c_flags_overflow y1 z0 v1 y2)
def k_ThumbCore_addThree_23 (c_registers : Nat → Int32) (c_flags_negative : Bool) (c_flags_zero : Bool) (c_flags_carry : Bool) (c_flags_overflow : Bool) (y1 : Int32) (y2 : Int32) (z0 : Bool) : Bool × (Nat → Int32) × Bool × Bool × Bool × Bool :=
  if ¬ ((o_iushr y1 9) &&& 1) = 1 then (k_ThumbCore_addThree_39 c_registers c_flags_negative c_flags_zero c_flags_carry c_flags_overflow y1 y2 z0 false)
  else k_ThumbCore_addThree_39 c_registers c_flags_negative c_flags_zero c_flags_carry c_flags_overflow y1 y2 z0 true
def f_ThumbCore_addThree (c_registers : Nat → Int32) (c_flags_negative : Bool) (c_flags_zero : Bool) (c_flags_carry : Bool) (c_flags_overflow : Bool) (x1 : Int32) : Bool × (Nat → Int32) × Bool × Bool × Bool × Bool :=
  bd (((o_iushr x1 6) &&& 7) : Int32) (fun v1 =>
  if ¬ ((o_iushr x1 10) &&& 1) = 1 then (k_ThumbCore_addThree_23 c_registers c_flags_negative c_flags_zero c_flags_carry c_flags_overflow x1 v1 false)
  else k_ThumbCore_addThree_23 c_registers c_flags_negative c_flags_zero c_flags_carry c_flags_overflow x1 v1 true)
def f_ThumbCore_withByte (c_registers : Nat → Int32) (c_flags_negative : Bool) (c_flags_zero : Bool) (c_flags_carry : Bool) (c_flags_overflow : Bool) (x1 : Int32) : Bool × (Nat → Int32) × Bool × Bool × Bool × Bool :=
  bd (((o_iushr x1 8) &&& 7) : Int32) (fun v1 =>
  bd ((x1 &&& 255) : Int32) (fun v2 =>
  if (o_iushr x1 11) = 4 then (un3 (f_Flags_mark c_flags_negative c_flags_zero v2) (fun r3 s4 s5 =>
    (true, (upd c_registers v1.toNatClampNeg r3), s4, s5, c_flags_carry, c_flags_overflow)))
  else if (o_iushr x1 11) = 5 then (un5 (f_Flags_add c_flags_negative c_flags_zero c_flags_carry c_flags_overflow (c_registers v1.toNatClampNeg) (v2 ^^^ (-1)) 1) (fun r6 s7 s8 s9 s10 =>
    (true, c_registers, s7, s8, s9, s10)))
  else if (o_iushr x1 11) = 6 then (un5 (f_Flags_add c_flags_negative c_flags_zero c_flags_carry c_flags_overflow (c_registers v1.toNatClampNeg) v2 0) (fun r11 s12 s13 s14 s15 =>
    (true, (upd c_registers v1.toNatClampNeg r11), s12, s13, s14, s15)))
  else un5 (f_Flags_add c_flags_negative c_flags_zero c_flags_carry c_flags_overflow (c_registers v1.toNatClampNeg) (v2 ^^^ (-1)) 1) (fun r16 s17 s18 s19 s20 =>
  (true, (upd c_registers v1.toNatClampNeg r16), s17, s18, s19, s20))))
def k_ThumbCore_combined_161 (c_flags_negative : Bool) (c_flags_zero : Bool) (c_flags_carry : Bool) (c_flags_overflow : Bool) (z1 : Int32) (z2 : Int32) (z3 : Bool) : Int32 × Bool × Bool × Bool × Bool :=
  un5 (f_Flags_add c_flags_negative c_flags_zero c_flags_carry c_flags_overflow z1 z2 (bI z3)) (fun r1 s2 s3 s4 s5 =>
  (r1, s2, s3, s4, s5))
def k_ThumbCore_combined_188 (c_flags_negative : Bool) (c_flags_zero : Bool) (c_flags_carry : Bool) (c_flags_overflow : Bool) (z1 : Int32) (z2 : Int32) (z3 : Bool) : Int32 × Bool × Bool × Bool × Bool :=
  un5 (f_Flags_add c_flags_negative c_flags_zero c_flags_carry c_flags_overflow z1 z2 (bI z3)) (fun r1 s2 s3 s4 s5 =>
  (r1, s2, s3, s4, s5))
def f_ThumbCore_combined (c_flags_negative : Bool) (c_flags_zero : Bool) (c_flags_carry : Bool) (c_flags_overflow : Bool) (x1 : Int32) (x2 : Int32) (x3 : Int32) : Int32 × Bool × Bool × Bool × Bool :=
  if x1 = 0 then (un3 (f_Flags_mark c_flags_negative c_flags_zero (x2 &&& x3)) (fun r1 s2 s3 =>
    (r1, s2, s3, c_flags_carry, c_flags_overflow)))
  else if x1 = 1 then (un3 (f_Flags_mark c_flags_negative c_flags_zero (x2 ^^^ x3)) (fun r4 s5 s6 =>
    (r4, s5, s6, c_flags_carry, c_flags_overflow)))
  else if x1 = 2 then (un4 (f_Flags_moveUp c_flags_negative c_flags_zero c_flags_carry x2 (x3 &&& 255)) (fun r7 s8 s9 s10 =>
    (r7, s8, s9, s10, c_flags_overflow)))
  else if x1 = 3 then (un4 (f_Flags_moveDown c_flags_negative c_flags_zero c_flags_carry x2 (x3 &&& 255)) (fun r11 s12 s13 s14 =>
    (r11, s12, s13, s14, c_flags_overflow)))
  else if x1 = 4 then (un4 (f_Flags_moveDownSigned c_flags_negative c_flags_zero c_flags_carry x2 (x3 &&& 255)) (fun r15 s16 s17 s18 =>
    (r15, s16, s17, s18, c_flags_overflow)))
  else if x1 = 5 then (if (bI c_flags_carry) = 0 then (k_ThumbCore_combined_161 c_flags_negative c_flags_zero c_flags_carry c_flags_overflow x2 x3 false)
    else k_ThumbCore_combined_161 c_flags_negative c_flags_zero c_flags_carry c_flags_overflow x2 x3 true)
  else if x1 = 6 then (if (bI c_flags_carry) = 0 then (k_ThumbCore_combined_188 c_flags_negative c_flags_zero c_flags_carry c_flags_overflow x2 (x3 ^^^ (-1)) false)
    else k_ThumbCore_combined_188 c_flags_negative c_flags_zero c_flags_carry c_flags_overflow x2 (x3 ^^^ (-1)) true)
  else if x1 = 7 then (un4 (f_Flags_turnRound c_flags_negative c_flags_zero c_flags_carry x2 (x3 &&& 255)) (fun r19 s20 s21 s22 =>
    (r19, s20, s21, s22, c_flags_overflow)))
  else if x1 = 8 then (un3 (f_Flags_mark c_flags_negative c_flags_zero (x2 &&& x3)) (fun r23 s24 s25 =>
    (r23, s24, s25, c_flags_carry, c_flags_overflow)))
  else if x1 = 9 then (un5 (f_Flags_add c_flags_negative c_flags_zero c_flags_carry c_flags_overflow (x3 ^^^ (-1)) 0 1) (fun r26 s27 s28 s29 s30 =>
    (r26, s27, s28, s29, s30)))
  else if x1 = 10 then (un5 (f_Flags_add c_flags_negative c_flags_zero c_flags_carry c_flags_overflow x2 (x3 ^^^ (-1)) 1) (fun r31 s32 s33 s34 s35 =>
    (r31, s32, s33, s34, s35)))
  else if x1 = 11 then (un5 (f_Flags_add c_flags_negative c_flags_zero c_flags_carry c_flags_overflow x2 x3 0) (fun r36 s37 s38 s39 s40 =>
    (r36, s37, s38, s39, s40)))
  else if x1 = 12 then (un3 (f_Flags_mark c_flags_negative c_flags_zero (x2 ||| x3)) (fun r41 s42 s43 =>
    (r41, s42, s43, c_flags_carry, c_flags_overflow)))
  else if x1 = 13 then (un3 (f_Flags_mark c_flags_negative c_flags_zero (x2 * x3)) (fun r44 s45 s46 =>
    (r44, s45, s46, c_flags_carry, c_flags_overflow)))
  else if x1 = 14 then (un3 (f_Flags_mark c_flags_negative c_flags_zero (x2 &&& (x3 ^^^ (-1)))) (fun r47 s48 s49 =>
    (r47, s48, s49, c_flags_carry, c_flags_overflow)))
  else un3 (f_Flags_mark c_flags_negative c_flags_zero (x3 ^^^ (-1))) (fun r50 s51 s52 =>
  (r50, s51, s52, c_flags_carry, c_flags_overflow))
def k_ThumbCore_combine_60 (c_registers : Nat → Int32) (c_flags_negative : Bool) (c_flags_zero : Bool) (c_flags_carry : Bool) (c_flags_overflow : Bool) (y2 : Int32) (y4 : Int32) (z0 : Bool) : Bool × (Nat → Int32) × Bool × Bool × Bool × Bool :=
  if ¬ (bI z0) = 0 then ((true, c_registers, c_flags_negative, c_flags_zero, c_flags_carry, c_flags_overflow))
  else (true, (upd c_registers y2.toNatClampNeg y4), c_flags_negative, c_flags_zero, c_flags_carry, c_flags_overflow)
def k_ThumbCore_combine_55 (c_registers : Nat → Int32) (c_flags_negative : Bool) (c_flags_zero : Bool) (c_flags_carry : Bool) (c_flags_overflow : Bool) (y2 : Int32) (y4 : Int32) : Bool × (Nat → Int32) × Bool × Bool × Bool × Bool :=
  k_ThumbCore_combine_60 c_registers c_flags_negative c_flags_zero c_flags_carry c_flags_overflow y2 y4 true
def f_ThumbCore_combine (c_registers : Nat → Int32) (c_flags_negative : Bool) (c_flags_zero : Bool) (c_flags_carry : Bool) (c_flags_overflow : Bool) (x1 : Int32) : Bool × (Nat → Int32) × Bool × Bool × Bool × Bool :=
  bd ((x1 &&& 7) : Int32) (fun v1 =>
  bd (((o_iushr x1 6) &&& 15) : Int32) (fun v2 =>
  un5 (f_ThumbCore_combined c_flags_negative c_flags_zero c_flags_carry c_flags_overflow v2 (c_registers v1.toNatClampNeg) (c_registers ((o_iushr x1 3) &&& 7).toNatClampNeg)) (fun r3 s4 s5 s6 s7 =>
  if v2 = 8 then (k_ThumbCore_combine_55 c_registers s4 s5 s6 s7 v1 r3)
  else if v2 = 10 then (k_ThumbCore_combine_55 c_registers s4 s5 s6 s7 v1 r3)
  else if ¬ v2 = 11 then (k_ThumbCore_combine_60 c_registers s4 s5 s6 s7 v1 r3 false)
  else k_ThumbCore_combine_55 c_registers s4 s5 s6 s7 v1 r3)))
def f_ThumbCore_here (c_registers : Nat → Int32) : Int32 :=
  ((c_registers (15 : Int32).toNatClampNeg) + 4)
def f_ThumbCore_readHigh (c_registers : Nat → Int32) (x1 : Int32) : Int32 :=
  if ¬ x1 = 15 then ((c_registers x1.toNatClampNeg))
  else bd (f_ThumbCore_here c_registers : Int32) (fun v1 =>
  v1)
def f_ThumbCore_fitting (x1 : Int32) (x2 : Int32) : Int32 :=
  if ¬ x1 = 13 then (if ¬ x1 = 15 then (x2)
    else (x2 &&& (-2)))
  else (x2 &&& (-4))
def f_ThumbCore_put (c_next : Int32) (c_registers : Nat → Int32) (x1 : Int32) (x2 : Int32) : Int32 × (Nat → Int32) :=
  if ¬ x1 = 15 then (bd (f_ThumbCore_fitting x1 x2 : Int32) (fun v1 =>
    (c_next, (upd c_registers x1.toNatClampNeg v1))))
  else bd (f_ThumbCore_fitting 15 x2 : Int32) (fun v2 =>
  (v2, c_registers))
def f_ThumbCore_isReturn (c_exceptions_active : Int32) (x1 : Int32) : Bool :=
  if c_exceptions_active = 0 then (false)
  else if x1 = (-7) then (true)
  else if ¬ x1 = (-15) then (false)
  else true
def f_ThumbCore_mayGoTo (q_memory_size : Int32) (c_memory_words : Nat → Int32) (c_exceptions_active : Int32) (c_exceptions_current : Int32) (x1 : Int32) (x2 : Int32) : Bool :=
  bd (f_ThumbCore_isReturn c_exceptions_active x1 : Bool) (fun v1 =>
  if ¬ (bI v1) = 0 then (bd (f_Memory_areThere q_memory_size x2 8 : Bool) (fun v2 =>
    if ¬ (bI v2) = 0 then (bd (f_Memory_word c_memory_words (x2 + 28) : Int32) (fun v3 =>
      bd ((v3 &&& 63) : Int32) (fun v4 =>
      if ¬ x1 = (-7) then (bd (f_Exceptions_mayEndFor c_exceptions_active c_exceptions_current v4 : Bool) (fun v5 =>
        v5))
      else bd (f_Exceptions_mayEndLast c_exceptions_active v4 : Bool) (fun v6 =>
      v6))))
    else false))
  else if ¬ (x1 &&& 1) = 1 then (false)
  else true)
theorem tc_mayT {q a cu v sp : Int32} {n : Nat} {w : Nat → Int32} (hm : tc_mem q n) (h : f_ThumbCore_mayGoTo q w a cu v sp = true) (hr : f_ThumbCore_isReturn a v = true) : tc_fit q sp 32 := by
  unfold f_ThumbCore_mayGoTo at h
  simp only [bd, hr] at h
  rw [if_pos (by decide)] at h
  by_cases g : ¬ bI (f_Memory_areThere q sp 8) = 0
  · exact tc_aT8 hm (tc_bT rfl g)
  · rw [if_neg g] at h
    cases h
theorem tc_fitU {q v : Int32} {r : Nat → Int32} (h : tc_fit q (r (13 : Int32).toNatClampNeg) 32) : tc_fit q (upd r (14 : Int32).toNatClampNeg v (13 : Int32).toNatClampNeg) 32 := by
  have e : upd r (14 : Int32).toNatClampNeg v (13 : Int32).toNatClampNeg = r (13 : Int32).toNatClampNeg := if_neg (by decide)
  rw [e]
  exact h
def k_ThumbCore_goTo_121 (c_memory_words : Nat → Int32) (c_next : Int32) (c_registers : Nat → Int32) (c_flags_negative : Bool) (c_flags_zero : Bool) (c_flags_carry : Bool) (c_flags_overflow : Bool) (c_exceptions_active : Int32) (c_exceptions_current : Int32) (y3 : Int32) (z2 : Int32) (z3 : Int32) : Int32 × (Nat → Int32) × Bool × Bool × Bool × Bool × Int32 × Int32 :=
  un4 (f_Flags_take c_flags_negative c_flags_zero c_flags_carry c_flags_overflow y3) (fun s1 s2 s3 s4 =>
  un2 (f_Exceptions_endFor c_exceptions_active c_exceptions_current (y3 &&& 63)) (fun s5 s6 =>
  (c_next, (upd c_registers (13 : Int32).toNatClampNeg (z2 + z3)), s1, s2, s3, s4, s5, s6)))
def k_ThumbCore_goTo_39 (c_memory_words : Nat → Int32) : Nat → Int32 → (Nat → Int32) → Bool → Bool → Bool → Bool → Int32 → Int32 → Int32 → Int32 → Int32 → Int32 × (Nat → Int32) × Bool × Bool × Bool × Bool × Int32 × Int32
  | 0, c_next, c_registers, c_flags_negative, c_flags_zero, c_flags_carry, c_flags_overflow, c_exceptions_active, c_exceptions_current, y2, y3, y4 => (c_next, c_registers, c_flags_negative, c_flags_zero, c_flags_carry, c_flags_overflow, c_exceptions_active, c_exceptions_current)
  | n + 1, c_next, c_registers, c_flags_negative, c_flags_zero, c_flags_carry, c_flags_overflow, c_exceptions_active, c_exceptions_current, y2, y3, y4 =>
  if 6 ≤ y4 then (bd (f_Memory_word c_memory_words (y2 + 24) : Int32) (fun v1 =>
    if ¬ ((o_iushr y3 9) &&& 1) = 1 then (k_ThumbCore_goTo_121 c_memory_words (v1 &&& (-2)) c_registers c_flags_negative c_flags_zero c_flags_carry c_flags_overflow c_exceptions_active c_exceptions_current y3 (y2 + 32) 0)
    else k_ThumbCore_goTo_121 c_memory_words (v1 &&& (-2)) c_registers c_flags_negative c_flags_zero c_flags_carry c_flags_overflow c_exceptions_active c_exceptions_current y3 (y2 + 32) 4))
  else bd (f_Memory_word c_memory_words (y2 + (4 * y4)) : Int32) (fun v2 =>
  k_ThumbCore_goTo_39 c_memory_words n c_next (upd c_registers (laid y4.toNatClampNeg).toNatClampNeg v2) c_flags_negative c_flags_zero c_flags_carry c_flags_overflow c_exceptions_active c_exceptions_current y2 y3 (y4 + 1))
def f_ThumbCore_goTo (c_memory_words : Nat → Int32) (c_next : Int32) (c_registers : Nat → Int32) (c_flags_negative : Bool) (c_flags_zero : Bool) (c_flags_carry : Bool) (c_flags_overflow : Bool) (c_exceptions_active : Int32) (c_exceptions_current : Int32) (x1 : Int32) : Int32 × (Nat → Int32) × Bool × Bool × Bool × Bool × Int32 × Int32 :=
  bd (f_ThumbCore_isReturn c_exceptions_active x1 : Bool) (fun v1 =>
  if ¬ (bI v1) = 0 then (bd ((c_registers (13 : Int32).toNatClampNeg) : Int32) (fun v2 =>
    bd (f_Memory_word c_memory_words (v2 + 28) : Int32) (fun v3 =>
    k_ThumbCore_goTo_39 c_memory_words 7 c_next c_registers c_flags_negative c_flags_zero c_flags_carry c_flags_overflow c_exceptions_active c_exceptions_current v2 v3 0)))
  else ((x1 - 1), c_registers, c_flags_negative, c_flags_zero, c_flags_carry, c_flags_overflow, c_exceptions_active, c_exceptions_current))
def k_ThumbCore_branchTo_42 (q_memory_size : Int32) (c_memory_words : Nat → Int32) (c_next : Int32) (c_registers : Nat → Int32) (c_flags_negative : Bool) (c_flags_zero : Bool) (c_flags_carry : Bool) (c_flags_overflow : Bool) (c_exceptions_active : Int32) (c_exceptions_current : Int32) (y1 : Int32) : Bool × Int32 × (Nat → Int32) × Bool × Bool × Bool × Bool × Int32 × Int32 :=
  un8 (f_ThumbCore_goTo c_memory_words c_next c_registers c_flags_negative c_flags_zero c_flags_carry c_flags_overflow c_exceptions_active c_exceptions_current y1) (fun s1 s2 s3 s4 s5 s6 s7 s8 =>
  (true, s1, s2, s3, s4, s5, s6, s7, s8))
def f_ThumbCore_branchTo (q_memory_size : Int32) (c_memory_words : Nat → Int32) (c_next : Int32) (c_registers : Nat → Int32) (c_flags_negative : Bool) (c_flags_zero : Bool) (c_flags_carry : Bool) (c_flags_overflow : Bool) (c_exceptions_active : Int32) (c_exceptions_current : Int32) (x1 : Int32) (x2 : Bool) : Bool × Int32 × (Nat → Int32) × Bool × Bool × Bool × Bool × Int32 × Int32 :=
  bd (f_ThumbCore_mayGoTo q_memory_size c_memory_words c_exceptions_active c_exceptions_current x1 (c_registers (13 : Int32).toNatClampNeg) : Bool) (fun v1 =>
  if ¬ (bI v1) = 0 then (if (bI x2) = 0 then (k_ThumbCore_branchTo_42 q_memory_size c_memory_words c_next c_registers c_flags_negative c_flags_zero c_flags_carry c_flags_overflow c_exceptions_active c_exceptions_current x1)
    else bd (f_ThumbCore_isReturn c_exceptions_active x1 : Bool) (fun v2 =>
    if ¬ (bI v2) = 0 then (k_ThumbCore_branchTo_42 q_memory_size c_memory_words c_next c_registers c_flags_negative c_flags_zero c_flags_carry c_flags_overflow c_exceptions_active c_exceptions_current x1)
    else k_ThumbCore_branchTo_42 q_memory_size c_memory_words c_next (upd c_registers (14 : Int32).toNatClampNeg (c_next + 1)) c_flags_negative c_flags_zero c_flags_carry c_flags_overflow c_exceptions_active c_exceptions_current x1))
  else (false, c_next, c_registers, c_flags_negative, c_flags_zero, c_flags_carry, c_flags_overflow, c_exceptions_active, c_exceptions_current))
def k_ThumbCore_withHigh_82 (q_memory_size : Int32) (c_memory_words : Nat → Int32) (c_next : Int32) (c_registers : Nat → Int32) (c_flags_negative : Bool) (c_flags_zero : Bool) (c_flags_carry : Bool) (c_flags_overflow : Bool) (c_exceptions_active : Int32) (c_exceptions_current : Int32) (y2 : Int32) (y3 : Int32) : Bool × Int32 × (Nat → Int32) × Bool × Bool × Bool × Bool × Int32 × Int32 :=
  if y2 = 15 then ((false, c_next, c_registers, c_flags_negative, c_flags_zero, c_flags_carry, c_flags_overflow, c_exceptions_active, c_exceptions_current))
  else if ¬ y3 = 15 then (un5 (f_Flags_add c_flags_negative c_flags_zero c_flags_carry c_flags_overflow (c_registers y2.toNatClampNeg) ((c_registers y3.toNatClampNeg) ^^^ (-1)) 1) (fun r1 s2 s3 s4 s5 =>
    (true, c_next, c_registers, s2, s3, s4, s5, c_exceptions_active, c_exceptions_current)))
  else (false, c_next, c_registers, c_flags_negative, c_flags_zero, c_flags_carry, c_flags_overflow, c_exceptions_active, c_exceptions_current)
def k_ThumbCore_withHigh_170 (q_memory_size : Int32) (c_memory_words : Nat → Int32) (c_next : Int32) (c_registers : Nat → Int32) (c_flags_negative : Bool) (c_flags_zero : Bool) (c_flags_carry : Bool) (c_flags_overflow : Bool) (c_exceptions_active : Int32) (c_exceptions_current : Int32) (z1 : Int32) (z2 : Bool) : Bool × Int32 × (Nat → Int32) × Bool × Bool × Bool × Bool × Int32 × Int32 :=
  un9 (f_ThumbCore_branchTo q_memory_size c_memory_words c_next c_registers c_flags_negative c_flags_zero c_flags_carry c_flags_overflow c_exceptions_active c_exceptions_current z1 z2) (fun r1 s2 s3 s4 s5 s6 s7 s8 s9 =>
  (r1, s2, s3, s4, s5, s6, s7, s8, s9))
def f_ThumbCore_withHigh (q_memory_size : Int32) (c_memory_words : Nat → Int32) (c_next : Int32) (c_registers : Nat → Int32) (c_flags_negative : Bool) (c_flags_zero : Bool) (c_flags_carry : Bool) (c_flags_overflow : Bool) (c_exceptions_active : Int32) (c_exceptions_current : Int32) (x1 : Int32) : Bool × Int32 × (Nat → Int32) × Bool × Bool × Bool × Bool × Int32 × Int32 :=
  bd (((x1 &&& 7) ||| ((o_iushr x1 4) &&& 8)) : Int32) (fun v1 =>
  bd (((o_iushr x1 3) &&& 15) : Int32) (fun v2 =>
  if ((o_iushr x1 8) &&& 3) = 0 then (bd (f_ThumbCore_readHigh c_registers v1 : Int32) (fun v3 =>
    bd (f_ThumbCore_readHigh c_registers v2 : Int32) (fun v4 =>
    un2 (f_ThumbCore_put c_next c_registers v1 (v3 + v4)) (fun s5 s6 =>
    (true, s5, s6, c_flags_negative, c_flags_zero, c_flags_carry, c_flags_overflow, c_exceptions_active, c_exceptions_current)))))
  else if ((o_iushr x1 8) &&& 3) = 1 then (if 8 ≤ v1 then (k_ThumbCore_withHigh_82 q_memory_size c_memory_words c_next c_registers c_flags_negative c_flags_zero c_flags_carry c_flags_overflow c_exceptions_active c_exceptions_current v1 v2)
    else if v2 < 8 then ((false, c_next, c_registers, c_flags_negative, c_flags_zero, c_flags_carry, c_flags_overflow, c_exceptions_active, c_exceptions_current))
    else k_ThumbCore_withHigh_82 q_memory_size c_memory_words c_next c_registers c_flags_negative c_flags_zero c_flags_carry c_flags_overflow c_exceptions_active c_exceptions_current v1 v2)
  else if ((o_iushr x1 8) &&& 3) = 2 then (bd (f_ThumbCore_readHigh c_registers v2 : Int32) (fun v7 =>
    un2 (f_ThumbCore_put c_next c_registers v1 v7) (fun s8 s9 =>
    (true, s8, s9, c_flags_negative, c_flags_zero, c_flags_carry, c_flags_overflow, c_exceptions_active, c_exceptions_current))))
  else if ¬ (x1 &&& 7) = 0 then ((false, c_next, c_registers, c_flags_negative, c_flags_zero, c_flags_carry, c_flags_overflow, c_exceptions_active, c_exceptions_current))
  else if ¬ v2 = 15 then (if ¬ ((o_iushr x1 7) &&& 1) = 1 then (k_ThumbCore_withHigh_170 q_memory_size c_memory_words c_next c_registers c_flags_negative c_flags_zero c_flags_carry c_flags_overflow c_exceptions_active c_exceptions_current (c_registers v2.toNatClampNeg) false)
    else k_ThumbCore_withHigh_170 q_memory_size c_memory_words c_next c_registers c_flags_negative c_flags_zero c_flags_carry c_flags_overflow c_exceptions_active c_exceptions_current (c_registers v2.toNatClampNeg) true)
  else (false, c_next, c_registers, c_flags_negative, c_flags_zero, c_flags_carry, c_flags_overflow, c_exceptions_active, c_exceptions_current)))
def f_ThumbCore_load (q_memory_size : Int32) (c_memory_words : Nat → Int32) (c_registers : Nat → Int32) (x1 : Int32) (x2 : Int32) (x3 : Int32) : Bool × (Nat → Int32) :=
  bd (f_Memory_isThere q_memory_size x2 x3 : Bool) (fun v1 =>
  if ¬ (bI v1) = 0 then (bd (f_Memory_read c_memory_words x2 x3 : Int32) (fun v2 =>
    (true, (upd c_registers x1.toNatClampNeg v2))))
  else (false, c_registers))
def f_ThumbCore_store (q_memory_size : Int32) (c_registers : Nat → Int32) (c_memory_words : Nat → Int32) (x1 : Int32) (x2 : Int32) (x3 : Int32) : Bool × (Nat → Int32) :=
  bd (f_Memory_isThere q_memory_size x2 x3 : Bool) (fun v1 =>
  if ¬ (bI v1) = 0 then (bd (f_Memory_write c_memory_words x2 (c_registers x1.toNatClampNeg) x3 : Nat → Int32) (fun s2 =>
    (true, s2)))
  else (false, c_memory_words))
def f_ThumbCore_fromBase (q_memory_size : Int32) (c_memory_words : Nat → Int32) (c_registers : Nat → Int32) (x1 : Int32) : Bool × (Nat → Int32) × (Nat → Int32) :=
  bd (((o_iushr x1 8) &&& 7) : Int32) (fun v1 =>
  bd ((4 * (x1 &&& 255)) : Int32) (fun v2 =>
  bd (f_ThumbCore_here c_registers : Int32) (fun v3 =>
  bd ((v3 &&& (-4)) : Int32) (fun v4 =>
  if (o_iushr x1 11) = 9 then (un2 (f_ThumbCore_load q_memory_size c_memory_words c_registers v1 (v4 + v2) 4) (fun r5 s6 =>
    (r5, c_memory_words, s6)))
  else if (o_iushr x1 11) = 18 then (un2 (f_ThumbCore_store q_memory_size c_registers c_memory_words v1 ((c_registers (13 : Int32).toNatClampNeg) + v2) 4) (fun r7 s8 =>
    (r7, s8, c_registers)))
  else if (o_iushr x1 11) = 19 then (un2 (f_ThumbCore_load q_memory_size c_memory_words c_registers v1 ((c_registers (13 : Int32).toNatClampNeg) + v2) 4) (fun r9 s10 =>
    (r9, c_memory_words, s10)))
  else if (o_iushr x1 11) = 20 then ((true, c_memory_words, (upd c_registers v1.toNatClampNeg (v4 + v2))))
  else (true, c_memory_words, (upd c_registers v1.toNatClampNeg ((c_registers (13 : Int32).toNatClampNeg) + v2)))))))
def k_ThumbCore_loadSigned_44 (q_memory_size : Int32) (c_memory_words : Nat → Int32) (c_registers : Nat → Int32) (z1 : Int32) (z2 : Int32) : Bool × (Nat → Int32) :=
  (true, (upd c_registers z1.toNatClampNeg z2))
def f_ThumbCore_loadSigned (q_memory_size : Int32) (c_memory_words : Nat → Int32) (c_registers : Nat → Int32) (x1 : Int32) (x2 : Int32) (x3 : Int32) : Bool × (Nat → Int32) :=
  bd (f_Memory_isThere q_memory_size x2 x3 : Bool) (fun v1 =>
  if ¬ (bI v1) = 0 then (bd (f_Memory_read c_memory_words x2 x3 : Int32) (fun v2 =>
    if ¬ x3 = 1 then (k_ThumbCore_loadSigned_44 q_memory_size c_memory_words c_registers x1 v2.toInt16.toInt32)
    else k_ThumbCore_loadSigned_44 q_memory_size c_memory_words c_registers x1 v2.toInt8.toInt32))
  else (false, c_registers))
def f_ThumbCore_atSum (q_memory_size : Int32) (c_memory_words : Nat → Int32) (c_registers : Nat → Int32) (x1 : Int32) : Bool × (Nat → Int32) × (Nat → Int32) :=
  bd ((x1 &&& 7) : Int32) (fun v1 =>
  bd (((c_registers ((o_iushr x1 3) &&& 7).toNatClampNeg) + (c_registers ((o_iushr x1 6) &&& 7).toNatClampNeg)) : Int32) (fun v2 =>
  if ((o_iushr x1 9) &&& 7) = 0 then (un2 (f_ThumbCore_store q_memory_size c_registers c_memory_words v1 v2 4) (fun r3 s4 =>
    (r3, s4, c_registers)))
  else if ((o_iushr x1 9) &&& 7) = 1 then (un2 (f_ThumbCore_store q_memory_size c_registers c_memory_words v1 v2 2) (fun r5 s6 =>
    (r5, s6, c_registers)))
  else if ((o_iushr x1 9) &&& 7) = 2 then (un2 (f_ThumbCore_store q_memory_size c_registers c_memory_words v1 v2 1) (fun r7 s8 =>
    (r7, s8, c_registers)))
  else if ((o_iushr x1 9) &&& 7) = 3 then (un2 (f_ThumbCore_loadSigned q_memory_size c_memory_words c_registers v1 v2 1) (fun r9 s10 =>
    (r9, c_memory_words, s10)))
  else if ((o_iushr x1 9) &&& 7) = 4 then (un2 (f_ThumbCore_load q_memory_size c_memory_words c_registers v1 v2 4) (fun r11 s12 =>
    (r11, c_memory_words, s12)))
  else if ((o_iushr x1 9) &&& 7) = 5 then (un2 (f_ThumbCore_load q_memory_size c_memory_words c_registers v1 v2 2) (fun r13 s14 =>
    (r13, c_memory_words, s14)))
  else if ((o_iushr x1 9) &&& 7) = 6 then (un2 (f_ThumbCore_load q_memory_size c_memory_words c_registers v1 v2 1) (fun r15 s16 =>
    (r15, c_memory_words, s16)))
  else un2 (f_ThumbCore_loadSigned q_memory_size c_memory_words c_registers v1 v2 2) (fun r17 s18 =>
  (r17, c_memory_words, s18))))
def f_ThumbCore_atOffset (q_memory_size : Int32) (c_memory_words : Nat → Int32) (c_registers : Nat → Int32) (x1 : Int32) : Bool × (Nat → Int32) × (Nat → Int32) :=
  bd ((x1 &&& 7) : Int32) (fun v1 =>
  bd ((c_registers ((o_iushr x1 3) &&& 7).toNatClampNeg) : Int32) (fun v2 =>
  bd (((o_iushr x1 6) &&& 31) : Int32) (fun v3 =>
  if (o_iushr x1 11) = 12 then (un2 (f_ThumbCore_store q_memory_size c_registers c_memory_words v1 (v2 + (4 * v3)) 4) (fun r4 s5 =>
    (r4, s5, c_registers)))
  else if (o_iushr x1 11) = 13 then (un2 (f_ThumbCore_load q_memory_size c_memory_words c_registers v1 (v2 + (4 * v3)) 4) (fun r6 s7 =>
    (r6, c_memory_words, s7)))
  else if (o_iushr x1 11) = 14 then (un2 (f_ThumbCore_store q_memory_size c_registers c_memory_words v1 (v2 + v3) 1) (fun r8 s9 =>
    (r8, s9, c_registers)))
  else if (o_iushr x1 11) = 15 then (un2 (f_ThumbCore_load q_memory_size c_memory_words c_registers v1 (v2 + v3) 1) (fun r10 s11 =>
    (r10, c_memory_words, s11)))
  else if (o_iushr x1 11) = 16 then (un2 (f_ThumbCore_store q_memory_size c_registers c_memory_words v1 (v2 + (2 * v3)) 2) (fun r12 s13 =>
    (r12, s13, c_registers)))
  else un2 (f_ThumbCore_load q_memory_size c_memory_words c_registers v1 (v2 + (2 * v3)) 2) (fun r14 s15 =>
  (r14, c_memory_words, s15)))))
def k_ThumbCore_moveStack_31 (c_registers : Nat → Int32) (z2 : Int32) (z3 : Int32) : (Nat → Int32) :=
  (upd c_registers (13 : Int32).toNatClampNeg (z2 + z3))
def f_ThumbCore_moveStack (c_registers : Nat → Int32) (x1 : Int32) : (Nat → Int32) :=
  bd ((4 * (x1 &&& 127)) : Int32) (fun v1 =>
  if ¬ ((o_iushr x1 7) &&& 1) = 1 then (k_ThumbCore_moveStack_31 c_registers (c_registers (13 : Int32).toNatClampNeg) v1)
  else k_ThumbCore_moveStack_31 c_registers (c_registers (13 : Int32).toNatClampNeg) (-v1))
def f_ThumbCore_extended (x1 : Int32) (x2 : Int32) : Int32 :=
  if x1 = 0 then (x2.toInt16.toInt32)
  else if x1 = 1 then (x2.toInt8.toInt32)
  else if x1 = 2 then ((x2 &&& 65535))
  else (x2 &&& 255)
def f_ThumbCore_areThere (q_memory_size : Int32) (x1 : Int32) (x2 : Int32) : Bool :=
  if x1 = 0 then (false)
  else bd (f_Integer_bitCount x1 : Int32) (fun v1 =>
  bd (f_Memory_areThere q_memory_size x2 v1 : Bool) (fun v2 =>
  if (bI v2) = 0 then (false)
  else true))
theorem tc_lT {q l a : Int32} {n : Nat} (hm : tc_mem q n) (hc : tc_cl l) (h : f_ThumbCore_areThere q l a = true) : tc_run q a l 0 := by
  unfold f_ThumbCore_areThere at h
  simp only [bd] at h
  by_cases g : l = 0
  · rw [if_pos g] at h
    cases h
  · rw [if_neg g] at h
    by_cases g2 : bI (f_Memory_areThere q a (f_Integer_bitCount l)) = 0
    · rw [if_pos g2] at h
      cases h
    · exact tc_runE hc (tc_areT hm ⟨(tc_bc l).1, Int.le_trans (tc_bc l).2 (by decide)⟩ (tc_bT rfl g2))
def k_ThumbCore_writeList_40 (c_registers : Nat → Int32) (K_5 : (Nat → Int32) → Int32 → Int32 → Int32 → (Nat → Int32)) (c_memory_words : Nat → Int32) (y1 : Int32) (y3 : Int32) (y4 : Int32) : (Nat → Int32) :=
  K_5 c_memory_words y1 y3 (y4 + 1)
def k_ThumbCore_writeList_5 (c_registers : Nat → Int32) : Nat → (Nat → Int32) → Int32 → Int32 → Int32 → (Nat → Int32)
  | 0, c_memory_words, y1, y3, y4 => c_memory_words
  | n + 1, c_memory_words, y1, y3, y4 =>
  if 15 ≤ y4 then (c_memory_words)
  else if ¬ ((o_iushr y1 y4) &&& 1) = 1 then (k_ThumbCore_writeList_40 c_registers (k_ThumbCore_writeList_5 c_registers n) c_memory_words y1 y3 y4)
  else bd (f_Memory_putWord c_memory_words y3 (c_registers y4.toNatClampNeg) : Nat → Int32) (fun s1 =>
  k_ThumbCore_writeList_40 c_registers (k_ThumbCore_writeList_5 c_registers n) s1 y1 (y3 + 4) y4)
def f_ThumbCore_writeList (c_registers : Nat → Int32) (c_memory_words : Nat → Int32) (x1 : Int32) (x2 : Int32) : (Nat → Int32) :=
  k_ThumbCore_writeList_5 c_registers 16 c_memory_words x1 x2 0
def f_ThumbCore_push (q_memory_size : Int32) (c_memory_words : Nat → Int32) (c_registers : Nat → Int32) (x1 : Int32) : Bool × (Nat → Int32) × (Nat → Int32) :=
  bd (f_Integer_bitCount x1 : Int32) (fun v1 =>
  bd (((c_registers (13 : Int32).toNatClampNeg) - (4 * v1)) : Int32) (fun v2 =>
  bd (f_ThumbCore_areThere q_memory_size x1 v2 : Bool) (fun v3 =>
  if ¬ (bI v3) = 0 then (bd (f_ThumbCore_writeList c_registers c_memory_words x1 v2 : Nat → Int32) (fun s4 =>
    (true, s4, (upd c_registers (13 : Int32).toNatClampNeg v2))))
  else (false, c_memory_words, c_registers))))
def k_ThumbCore_changeMask_32 (c_exceptions_masked : Bool) (z1 : Bool) : Bool × Bool :=
  (true, z1)
def k_ThumbCore_changeMask_16 (c_exceptions_masked : Bool) (y1 : Int32) : Bool × Bool :=
  if ¬ y1 = 46706 then (k_ThumbCore_changeMask_32 c_exceptions_masked false)
  else k_ThumbCore_changeMask_32 c_exceptions_masked true
def f_ThumbCore_changeMask (c_exceptions_masked : Bool) (x1 : Int32) : Bool × Bool :=
  if x1 = 46690 then (k_ThumbCore_changeMask_16 c_exceptions_masked x1)
  else if x1 = 46706 then (k_ThumbCore_changeMask_16 c_exceptions_masked x1)
  else (false, c_exceptions_masked)
def f_ThumbCore_swapBytes (c_registers : Nat → Int32) (x1 : Int32) : Bool × (Nat → Int32) :=
  bd ((x1 &&& 7) : Int32) (fun v1 =>
  bd ((c_registers ((o_iushr x1 3) &&& 7).toNatClampNeg) : Int32) (fun v2 =>
  bd (((o_ishl (v2 &&& 16711935) 8) ||| ((o_iushr v2 8) &&& 16711935)) : Int32) (fun v3 =>
  if ((o_iushr x1 6) &&& 3) = 0 then ((true, (upd c_registers v1.toNatClampNeg ((o_ishl v3 16) ||| (o_iushr v3 16)))))
  else if ((o_iushr x1 6) &&& 3) = 1 then ((true, (upd c_registers v1.toNatClampNeg v3)))
  else if ((o_iushr x1 6) &&& 3) = 3 then ((true, (upd c_registers v1.toNatClampNeg v3.toInt16.toInt32)))
  else (false, c_registers))))
def k_ThumbCore_readList_40 (c_memory_words : Nat → Int32) (K_5 : (Nat → Int32) → Int32 → Int32 → Int32 → (Nat → Int32)) (c_registers : Nat → Int32) (y1 : Int32) (y3 : Int32) (y4 : Int32) : (Nat → Int32) :=
  K_5 c_registers y1 y3 (y4 + 1)
def k_ThumbCore_readList_5 (c_memory_words : Nat → Int32) : Nat → (Nat → Int32) → Int32 → Int32 → Int32 → (Nat → Int32)
  | 0, c_registers, y1, y3, y4 => c_registers
  | n + 1, c_registers, y1, y3, y4 =>
  if 15 ≤ y4 then (c_registers)
  else if ¬ ((o_iushr y1 y4) &&& 1) = 1 then (k_ThumbCore_readList_40 c_memory_words (k_ThumbCore_readList_5 c_memory_words n) c_registers y1 y3 y4)
  else bd (f_Memory_word c_memory_words y3 : Int32) (fun v1 =>
  k_ThumbCore_readList_40 c_memory_words (k_ThumbCore_readList_5 c_memory_words n) (upd c_registers y4.toNatClampNeg v1) y1 (y3 + 4) y4)
def f_ThumbCore_readList (c_memory_words : Nat → Int32) (c_registers : Nat → Int32) (x1 : Int32) (x2 : Int32) : (Nat → Int32) :=
  k_ThumbCore_readList_5 c_memory_words 16 c_registers x1 x2 0
def f_ThumbCore_behind (x1 : Int32) (x2 : Int32) : Int32 :=
  bd (f_Integer_bitCount x1 : Int32) (fun v1 =>
  (x2 + (4 * v1)))
theorem tc_lT1 {q l a v : Int32} {n : Nat} (hm : tc_mem q n) (hc : tc_cl l) (e : v = f_Integer_bitCount l) (h : f_Memory_areThere q a (v + 1) = true) : tc_run q a l 0 := by
  subst e
  have hb := tc_bc l
  have h1 : (f_Integer_bitCount l + 1).toInt = (f_Integer_bitCount l).toInt + 1 := tc_inc hb.1 (by omega)
  have h2 := tc_areT (c := f_Integer_bitCount l + 1) hm (by rw [h1]; omega) h
  refine tc_runE hc ?_
  obtain ⟨h3, h4⟩ := h2
  rw [h1] at h4
  exact ⟨h3, by omega⟩
theorem tc_behT {q l a v z : Int32} {n : Nat} (hm : tc_mem q n) (e : v = f_Integer_bitCount l) (ez : z = f_ThumbCore_behind l a) (h : f_Memory_areThere q a (v + 1) = true) : tc_ok q z := by
  subst e
  subst ez
  have hb := tc_bc l
  have h1 : (f_Integer_bitCount l + 1).toInt = (f_Integer_bitCount l).toInt + 1 := tc_inc hb.1 (by omega)
  obtain ⟨h3, h4⟩ := tc_areT (c := f_Integer_bitCount l + 1) hm (by rw [h1]; omega) h
  rw [h1] at h4
  obtain ⟨m1, m2, m3⟩ := hm
  have h5 : (4 * f_Integer_bitCount l).toInt = 4 * (f_Integer_bitCount l).toInt := tc_mul4 hb.1 (by omega)
  show tc_ok q (a + 4 * f_Integer_bitCount l)
  unfold tc_ok
  rw [tc_add (by rw [h5]; omega) (by rw [h5]; omega), h5]
  omega
def f_ThumbCore_pop (q_memory_size : Int32) (c_memory_words : Nat → Int32) (c_registers : Nat → Int32) (x1 : Int32) : Bool × (Nat → Int32) :=
  bd ((c_registers (13 : Int32).toNatClampNeg) : Int32) (fun v1 =>
  bd (f_ThumbCore_areThere q_memory_size x1 v1 : Bool) (fun v2 =>
  if ¬ (bI v2) = 0 then (bd (f_ThumbCore_readList c_memory_words c_registers x1 v1 : Nat → Int32) (fun s3 =>
    bd (f_ThumbCore_behind x1 v1 : Int32) (fun v4 =>
    (true, (upd s3 (13 : Int32).toNatClampNeg v4)))))
  else (false, c_registers)))
def f_ThumbCore_popAndGo (q_memory_size : Int32) (c_memory_words : Nat → Int32) (c_next : Int32) (c_registers : Nat → Int32) (c_flags_negative : Bool) (c_flags_zero : Bool) (c_flags_carry : Bool) (c_flags_overflow : Bool) (c_exceptions_active : Int32) (c_exceptions_current : Int32) (x1 : Int32) : Bool × Int32 × (Nat → Int32) × Bool × Bool × Bool × Bool × Int32 × Int32 :=
  bd ((c_registers (13 : Int32).toNatClampNeg) : Int32) (fun v1 =>
  bd (f_ThumbCore_behind x1 v1 : Int32) (fun v2 =>
  bd (f_Integer_bitCount x1 : Int32) (fun v3 =>
  bd (f_Memory_areThere q_memory_size v1 (v3 + 1) : Bool) (fun v4 =>
  if ¬ (bI v4) = 0 then (bd (f_Memory_word c_memory_words v2 : Int32) (fun v5 =>
    bd (f_ThumbCore_mayGoTo q_memory_size c_memory_words c_exceptions_active c_exceptions_current v5 (v2 + 4) : Bool) (fun v6 =>
    if ¬ (bI v6) = 0 then (bd (f_ThumbCore_readList c_memory_words c_registers x1 v1 : Nat → Int32) (fun s7 =>
      un8 (f_ThumbCore_goTo c_memory_words c_next (upd s7 (13 : Int32).toNatClampNeg (v2 + 4)) c_flags_negative c_flags_zero c_flags_carry c_flags_overflow c_exceptions_active c_exceptions_current v5) (fun s8 s9 s10 s11 s12 s13 s14 s15 =>
      (true, s8, s9, s10, s11, s12, s13, s14, s15))))
    else (false, c_next, c_registers, c_flags_negative, c_flags_zero, c_flags_carry, c_flags_overflow, c_exceptions_active, c_exceptions_current))))
  else (false, c_next, c_registers, c_flags_negative, c_flags_zero, c_flags_carry, c_flags_overflow, c_exceptions_active, c_exceptions_current)))))
def k_ThumbCore_hint_22 (c_asleep : Bool) (z1 : Bool) : Bool × Bool :=
  (true, z1)
def f_ThumbCore_hint (c_asleep : Bool) (x1 : Int32) : Bool × Bool :=
  if (x1 &&& 15) = 0 then (if ¬ x1 = 48944 then (k_ThumbCore_hint_22 c_asleep false)
    else k_ThumbCore_hint_22 c_asleep true)
  else (false, c_asleep)
def f_ThumbCore_miscellaneous (q_memory_size : Int32) (c_asleep : Bool) (c_next : Int32) (c_memory_words : Nat → Int32) (c_registers : Nat → Int32) (c_flags_negative : Bool) (c_flags_zero : Bool) (c_flags_carry : Bool) (c_flags_overflow : Bool) (c_exceptions_active : Int32) (c_exceptions_current : Int32) (c_exceptions_masked : Bool) (x1 : Int32) : Bool × Bool × Int32 × (Nat → Int32) × (Nat → Int32) × Bool × Bool × Bool × Bool × Int32 × Int32 × Bool :=
  if ((o_iushr x1 8) &&& 15) = 0 then (bd (f_ThumbCore_moveStack c_registers x1 : Nat → Int32) (fun s1 =>
    (true, c_asleep, c_next, c_memory_words, s1, c_flags_negative, c_flags_zero, c_flags_carry, c_flags_overflow, c_exceptions_active, c_exceptions_current, c_exceptions_masked)))
  else if ((o_iushr x1 8) &&& 15) = 2 then (bd (f_ThumbCore_extended ((o_iushr x1 6) &&& 3) (c_registers ((o_iushr x1 3) &&& 7).toNatClampNeg) : Int32) (fun v2 =>
    (true, c_asleep, c_next, c_memory_words, (upd c_registers (x1 &&& 7).toNatClampNeg v2), c_flags_negative, c_flags_zero, c_flags_carry, c_flags_overflow, c_exceptions_active, c_exceptions_current, c_exceptions_masked)))
  else if ((o_iushr x1 8) &&& 15) = 4 then (un3 (f_ThumbCore_push q_memory_size c_memory_words c_registers (x1 &&& 255)) (fun r3 s4 s5 =>
    (r3, c_asleep, c_next, s4, s5, c_flags_negative, c_flags_zero, c_flags_carry, c_flags_overflow, c_exceptions_active, c_exceptions_current, c_exceptions_masked)))
  else if ((o_iushr x1 8) &&& 15) = 5 then (un3 (f_ThumbCore_push q_memory_size c_memory_words c_registers ((x1 &&& 255) ||| 16384)) (fun r6 s7 s8 =>
    (r6, c_asleep, c_next, s7, s8, c_flags_negative, c_flags_zero, c_flags_carry, c_flags_overflow, c_exceptions_active, c_exceptions_current, c_exceptions_masked)))
  else if ((o_iushr x1 8) &&& 15) = 6 then (un2 (f_ThumbCore_changeMask c_exceptions_masked x1) (fun r9 s10 =>
    (r9, c_asleep, c_next, c_memory_words, c_registers, c_flags_negative, c_flags_zero, c_flags_carry, c_flags_overflow, c_exceptions_active, c_exceptions_current, s10)))
  else if ((o_iushr x1 8) &&& 15) = 10 then (un2 (f_ThumbCore_swapBytes c_registers x1) (fun r11 s12 =>
    (r11, c_asleep, c_next, c_memory_words, s12, c_flags_negative, c_flags_zero, c_flags_carry, c_flags_overflow, c_exceptions_active, c_exceptions_current, c_exceptions_masked)))
  else if ((o_iushr x1 8) &&& 15) = 12 then (un2 (f_ThumbCore_pop q_memory_size c_memory_words c_registers (x1 &&& 255)) (fun r13 s14 =>
    (r13, c_asleep, c_next, c_memory_words, s14, c_flags_negative, c_flags_zero, c_flags_carry, c_flags_overflow, c_exceptions_active, c_exceptions_current, c_exceptions_masked)))
  else if ((o_iushr x1 8) &&& 15) = 13 then (un9 (f_ThumbCore_popAndGo q_memory_size c_memory_words c_next c_registers c_flags_negative c_flags_zero c_flags_carry c_flags_overflow c_exceptions_active c_exceptions_current (x1 &&& 255)) (fun r15 s16 s17 s18 s19 s20 s21 s22 s23 =>
    (r15, c_asleep, s16, c_memory_words, s17, s18, s19, s20, s21, s22, s23, c_exceptions_masked)))
  else if ((o_iushr x1 8) &&& 15) = 15 then (un2 (f_ThumbCore_hint c_asleep x1) (fun r24 s25 =>
    (r24, s25, c_next, c_memory_words, c_registers, c_flags_negative, c_flags_zero, c_flags_carry, c_flags_overflow, c_exceptions_active, c_exceptions_current, c_exceptions_masked)))
  else (false, c_asleep, c_next, c_memory_words, c_registers, c_flags_negative, c_flags_zero, c_flags_carry, c_flags_overflow, c_exceptions_active, c_exceptions_current, c_exceptions_masked)
def k_ThumbCore_storeMany_50 (q_memory_size : Int32) (c_memory_words : Nat → Int32) (c_registers : Nat → Int32) (y1 : Int32) (y2 : Int32) (y3 : Int32) : Bool × (Nat → Int32) × (Nat → Int32) :=
  bd (f_ThumbCore_areThere q_memory_size y2 y3 : Bool) (fun v1 =>
  if ¬ (bI v1) = 0 then (bd (f_ThumbCore_writeList c_registers c_memory_words y2 y3 : Nat → Int32) (fun s2 =>
    bd (f_ThumbCore_behind y2 y3 : Int32) (fun v3 =>
    (true, s2, (upd c_registers y1.toNatClampNeg v3)))))
  else (false, c_memory_words, c_registers))
def k_ThumbCore_storeMany_38 (q_memory_size : Int32) (c_memory_words : Nat → Int32) (c_registers : Nat → Int32) (y1 : Int32) (y2 : Int32) (y3 : Int32) (y4 : Bool) (z0 : Bool) : Bool × (Nat → Int32) × (Nat → Int32) :=
  if (bI y4) = 0 then (k_ThumbCore_storeMany_50 q_memory_size c_memory_words c_registers y1 y2 y3)
  else if ¬ (bI z0) = 0 then ((false, c_memory_words, c_registers))
  else k_ThumbCore_storeMany_50 q_memory_size c_memory_words c_registers y1 y2 y3
def k_ThumbCore_storeMany_21 (q_memory_size : Int32) (c_memory_words : Nat → Int32) (c_registers : Nat → Int32) (y1 : Int32) (y2 : Int32) (y3 : Int32) (z0 : Bool) : Bool × (Nat → Int32) × (Nat → Int32) :=
  if (y2 &&& ((o_ishl 1 y1) - 1)) = 0 then (k_ThumbCore_storeMany_38 q_memory_size c_memory_words c_registers y1 y2 y3 z0 false)
  else k_ThumbCore_storeMany_38 q_memory_size c_memory_words c_registers y1 y2 y3 z0 true
def f_ThumbCore_storeMany (q_memory_size : Int32) (c_memory_words : Nat → Int32) (c_registers : Nat → Int32) (x1 : Int32) (x2 : Int32) : Bool × (Nat → Int32) × (Nat → Int32) :=
  bd ((c_registers x1.toNatClampNeg) : Int32) (fun v1 =>
  if ¬ ((o_iushr x2 x1) &&& 1) = 1 then (k_ThumbCore_storeMany_21 q_memory_size c_memory_words c_registers x1 x2 v1 false)
  else k_ThumbCore_storeMany_21 q_memory_size c_memory_words c_registers x1 x2 v1 true)
def f_ThumbCore_loadMany (q_memory_size : Int32) (c_memory_words : Nat → Int32) (c_registers : Nat → Int32) (x1 : Int32) (x2 : Int32) : Bool × (Nat → Int32) :=
  bd ((c_registers x1.toNatClampNeg) : Int32) (fun v1 =>
  bd (f_ThumbCore_areThere q_memory_size x2 v1 : Bool) (fun v2 =>
  if ¬ (bI v2) = 0 then (bd (f_ThumbCore_behind x2 v1 : Int32) (fun v3 =>
    bd (f_ThumbCore_readList c_memory_words (upd c_registers x1.toNatClampNeg v3) x2 v1 : Nat → Int32) (fun s4 =>
    (true, s4))))
  else (false, c_registers)))
def f_ThumbCore_call (q_memory_size : Int32) (c_flags_negative : Bool) (c_flags_zero : Bool) (c_flags_carry : Bool) (c_flags_overflow : Bool) (c_exceptions_masked : Bool) (c_exceptions_priorities : Nat → Int32) (c_locked : Bool) (c_next : Int32) (c_memory_words : Nat → Int32) (c_registers : Nat → Int32) (c_exceptions_pending : Int32) (c_exceptions_active : Int32) (c_exceptions_current : Int32) : Bool × Bool × Int32 × (Nat → Int32) × (Nat → Int32) × Int32 × Int32 × Int32 :=
  bd (f_Exceptions_present c_exceptions_active c_exceptions_masked c_exceptions_priorities : Int32) (fun v1 =>
  if (c_exceptions_priorities (11 : Int32).toNatClampNeg) < v1 then (un6 (f_ThumbCore_enter q_memory_size c_flags_negative c_flags_zero c_flags_carry c_flags_overflow c_locked c_memory_words c_registers c_exceptions_pending c_exceptions_active c_exceptions_current 11 c_next) (fun s2 s3 s4 s5 s6 s7 =>
    bd ((s4 (15 : Int32).toNatClampNeg) : Int32) (fun v8 =>
    (true, s2, v8, s3, s4, s5, s6, s7))))
  else (false, c_locked, c_next, c_memory_words, c_registers, c_exceptions_pending, c_exceptions_active, c_exceptions_current))
def f_ThumbCore_branchOrCall (q_memory_size : Int32) (c_flags_negative : Bool) (c_flags_zero : Bool) (c_flags_carry : Bool) (c_flags_overflow : Bool) (c_exceptions_masked : Bool) (c_exceptions_priorities : Nat → Int32) (c_locked : Bool) (c_next : Int32) (c_memory_words : Nat → Int32) (c_registers : Nat → Int32) (c_exceptions_pending : Int32) (c_exceptions_active : Int32) (c_exceptions_current : Int32) (x1 : Int32) (x2 : Int32) : Bool × Bool × Int32 × (Nat → Int32) × (Nat → Int32) × Int32 × Int32 × Int32 :=
  if ¬ x1 = 14 then (if ¬ x1 = 15 then (bd (f_Flags_meet c_flags_negative c_flags_zero c_flags_carry c_flags_overflow x1 : Bool) (fun v1 =>
      if (bI v1) = 0 then ((true, c_locked, c_next, c_memory_words, c_registers, c_exceptions_pending, c_exceptions_active, c_exceptions_current))
      else bd (f_ThumbCore_here c_registers : Int32) (fun v2 =>
      (true, c_locked, (v2 + (2 * x2)), c_memory_words, c_registers, c_exceptions_pending, c_exceptions_active, c_exceptions_current))))
    else un8 (f_ThumbCore_call q_memory_size c_flags_negative c_flags_zero c_flags_carry c_flags_overflow c_exceptions_masked c_exceptions_priorities c_locked c_next c_memory_words c_registers c_exceptions_pending c_exceptions_active c_exceptions_current) (fun r3 s4 s5 s6 s7 s8 s9 s10 =>
    (r3, s4, s5, s6, s7, s8, s9, s10)))
  else (false, c_locked, c_next, c_memory_words, c_registers, c_exceptions_pending, c_exceptions_active, c_exceptions_current)
def k_ThumbCore_farOffset_38 (y0 : Int32) (y1 : Int32) (y2 : Int32) (y3 : Bool) (z0 : Bool) : Int32 :=
  (((((o_ishl (-y2) 24) ||| (o_ishl (bI y3) 23)) ||| (o_ishl (bI z0) 22)) ||| (o_ishl (y0 &&& 1023) 12)) ||| (o_ishl (y1 &&& 2047) 1))
def k_ThumbCore_farOffset_22 (y0 : Int32) (y1 : Int32) (y2 : Int32) (z0 : Bool) : Int32 :=
  if ¬ ((o_iushr y1 11) &&& 1) = y2 then (k_ThumbCore_farOffset_38 y0 y1 y2 z0 false)
  else k_ThumbCore_farOffset_38 y0 y1 y2 z0 true
def f_ThumbCore_farOffset (x1 : Int32) (x2 : Int32) : Int32 :=
  bd (((o_iushr x1 10) &&& 1) : Int32) (fun v1 =>
  if ¬ ((o_iushr x2 13) &&& 1) = v1 then (k_ThumbCore_farOffset_22 x1 x2 v1 false)
  else k_ThumbCore_farOffset_22 x1 x2 v1 true)
def f_ThumbCore_branchFar (q_memory_size : Int32) (c_memory_words : Nat → Int32) (c_next : Int32) (c_registers : Nat → Int32) (x1 : Int32) : Bool × Int32 × (Nat → Int32) :=
  bd ((c_registers (15 : Int32).toNatClampNeg) : Int32) (fun v1 =>
  bd (f_Memory_isThere q_memory_size (v1 + 2) 2 : Bool) (fun v2 =>
  if ¬ (bI v2) = 0 then (bd (f_Memory_read c_memory_words (v1 + 2) 2 : Int32) (fun v3 =>
    if v3 < 49152 then ((false, c_next, c_registers))
    else if ¬ ((o_iushr v3 12) &&& 1) = 0 then (bd (f_ThumbCore_here (upd c_registers (14 : Int32).toNatClampNeg (v1 + 5)) : Int32) (fun v4 =>
      bd (f_ThumbCore_farOffset x1 v3 : Int32) (fun v5 =>
      (true, (v4 + v5), (upd c_registers (14 : Int32).toNatClampNeg (v1 + 5))))))
    else (false, c_next, c_registers)))
  else (false, c_next, c_registers)))
def f_ThumbCore_perform (q_memory_size : Int32) (c_exceptions_priorities : Nat → Int32) (c_asleep : Bool) (c_locked : Bool) (c_next : Int32) (c_memory_words : Nat → Int32) (c_registers : Nat → Int32) (c_flags_negative : Bool) (c_flags_zero : Bool) (c_flags_carry : Bool) (c_flags_overflow : Bool) (c_exceptions_pending : Int32) (c_exceptions_active : Int32) (c_exceptions_current : Int32) (c_exceptions_masked : Bool) : Bool × Bool × Bool × Int32 × (Nat → Int32) × (Nat → Int32) × Bool × Bool × Bool × Bool × Int32 × Int32 × Int32 × Bool :=
  bd (((c_registers (15 : Int32).toNatClampNeg) + 2) : Int32) (fun v1 =>
  bd (f_Memory_isThere q_memory_size (c_registers (15 : Int32).toNatClampNeg) 2 : Bool) (fun v2 =>
  if ¬ (bI v2) = 0 then (bd (f_Memory_read c_memory_words (c_registers (15 : Int32).toNatClampNeg) 2 : Int32) (fun v3 =>
    if (o_iushr v3 11) = 0 then (un5 (f_ThumbCore_moveByConstant c_registers c_flags_negative c_flags_zero c_flags_carry v3) (fun r4 s5 s6 s7 s8 =>
      (r4, c_asleep, c_locked, v1, c_memory_words, s5, s6, s7, s8, c_flags_overflow, c_exceptions_pending, c_exceptions_active, c_exceptions_current, c_exceptions_masked)))
    else if (o_iushr v3 11) = 1 then (un5 (f_ThumbCore_moveByConstant c_registers c_flags_negative c_flags_zero c_flags_carry v3) (fun r9 s10 s11 s12 s13 =>
      (r9, c_asleep, c_locked, v1, c_memory_words, s10, s11, s12, s13, c_flags_overflow, c_exceptions_pending, c_exceptions_active, c_exceptions_current, c_exceptions_masked)))
    else if (o_iushr v3 11) = 2 then (un5 (f_ThumbCore_moveByConstant c_registers c_flags_negative c_flags_zero c_flags_carry v3) (fun r14 s15 s16 s17 s18 =>
      (r14, c_asleep, c_locked, v1, c_memory_words, s15, s16, s17, s18, c_flags_overflow, c_exceptions_pending, c_exceptions_active, c_exceptions_current, c_exceptions_masked)))
    else if (o_iushr v3 11) = 3 then (un6 (f_ThumbCore_addThree c_registers c_flags_negative c_flags_zero c_flags_carry c_flags_overflow v3) (fun r19 s20 s21 s22 s23 s24 =>
      (r19, c_asleep, c_locked, v1, c_memory_words, s20, s21, s22, s23, s24, c_exceptions_pending, c_exceptions_active, c_exceptions_current, c_exceptions_masked)))
    else if (o_iushr v3 11) = 4 then (un6 (f_ThumbCore_withByte c_registers c_flags_negative c_flags_zero c_flags_carry c_flags_overflow v3) (fun r25 s26 s27 s28 s29 s30 =>
      (r25, c_asleep, c_locked, v1, c_memory_words, s26, s27, s28, s29, s30, c_exceptions_pending, c_exceptions_active, c_exceptions_current, c_exceptions_masked)))
    else if (o_iushr v3 11) = 5 then (un6 (f_ThumbCore_withByte c_registers c_flags_negative c_flags_zero c_flags_carry c_flags_overflow v3) (fun r31 s32 s33 s34 s35 s36 =>
      (r31, c_asleep, c_locked, v1, c_memory_words, s32, s33, s34, s35, s36, c_exceptions_pending, c_exceptions_active, c_exceptions_current, c_exceptions_masked)))
    else if (o_iushr v3 11) = 6 then (un6 (f_ThumbCore_withByte c_registers c_flags_negative c_flags_zero c_flags_carry c_flags_overflow v3) (fun r37 s38 s39 s40 s41 s42 =>
      (r37, c_asleep, c_locked, v1, c_memory_words, s38, s39, s40, s41, s42, c_exceptions_pending, c_exceptions_active, c_exceptions_current, c_exceptions_masked)))
    else if (o_iushr v3 11) = 7 then (un6 (f_ThumbCore_withByte c_registers c_flags_negative c_flags_zero c_flags_carry c_flags_overflow v3) (fun r43 s44 s45 s46 s47 s48 =>
      (r43, c_asleep, c_locked, v1, c_memory_words, s44, s45, s46, s47, s48, c_exceptions_pending, c_exceptions_active, c_exceptions_current, c_exceptions_masked)))
    else if (o_iushr v3 11) = 8 then (if ¬ (o_iushr v3 10) = 16 then (un9 (f_ThumbCore_withHigh q_memory_size c_memory_words v1 c_registers c_flags_negative c_flags_zero c_flags_carry c_flags_overflow c_exceptions_active c_exceptions_current v3) (fun r49 s50 s51 s52 s53 s54 s55 s56 s57 =>
        (r49, c_asleep, c_locked, s50, c_memory_words, s51, s52, s53, s54, s55, c_exceptions_pending, s56, s57, c_exceptions_masked)))
      else un6 (f_ThumbCore_combine c_registers c_flags_negative c_flags_zero c_flags_carry c_flags_overflow v3) (fun r58 s59 s60 s61 s62 s63 =>
      (r58, c_asleep, c_locked, v1, c_memory_words, s59, s60, s61, s62, s63, c_exceptions_pending, c_exceptions_active, c_exceptions_current, c_exceptions_masked)))
    else if (o_iushr v3 11) = 9 then (un3 (f_ThumbCore_fromBase q_memory_size c_memory_words c_registers v3) (fun r64 s65 s66 =>
      (r64, c_asleep, c_locked, v1, s65, s66, c_flags_negative, c_flags_zero, c_flags_carry, c_flags_overflow, c_exceptions_pending, c_exceptions_active, c_exceptions_current, c_exceptions_masked)))
    else if (o_iushr v3 11) = 10 then (un3 (f_ThumbCore_atSum q_memory_size c_memory_words c_registers v3) (fun r67 s68 s69 =>
      (r67, c_asleep, c_locked, v1, s68, s69, c_flags_negative, c_flags_zero, c_flags_carry, c_flags_overflow, c_exceptions_pending, c_exceptions_active, c_exceptions_current, c_exceptions_masked)))
    else if (o_iushr v3 11) = 11 then (un3 (f_ThumbCore_atSum q_memory_size c_memory_words c_registers v3) (fun r70 s71 s72 =>
      (r70, c_asleep, c_locked, v1, s71, s72, c_flags_negative, c_flags_zero, c_flags_carry, c_flags_overflow, c_exceptions_pending, c_exceptions_active, c_exceptions_current, c_exceptions_masked)))
    else if (o_iushr v3 11) = 12 then (un3 (f_ThumbCore_atOffset q_memory_size c_memory_words c_registers v3) (fun r73 s74 s75 =>
      (r73, c_asleep, c_locked, v1, s74, s75, c_flags_negative, c_flags_zero, c_flags_carry, c_flags_overflow, c_exceptions_pending, c_exceptions_active, c_exceptions_current, c_exceptions_masked)))
    else if (o_iushr v3 11) = 13 then (un3 (f_ThumbCore_atOffset q_memory_size c_memory_words c_registers v3) (fun r76 s77 s78 =>
      (r76, c_asleep, c_locked, v1, s77, s78, c_flags_negative, c_flags_zero, c_flags_carry, c_flags_overflow, c_exceptions_pending, c_exceptions_active, c_exceptions_current, c_exceptions_masked)))
    else if (o_iushr v3 11) = 14 then (un3 (f_ThumbCore_atOffset q_memory_size c_memory_words c_registers v3) (fun r79 s80 s81 =>
      (r79, c_asleep, c_locked, v1, s80, s81, c_flags_negative, c_flags_zero, c_flags_carry, c_flags_overflow, c_exceptions_pending, c_exceptions_active, c_exceptions_current, c_exceptions_masked)))
    else if (o_iushr v3 11) = 15 then (un3 (f_ThumbCore_atOffset q_memory_size c_memory_words c_registers v3) (fun r82 s83 s84 =>
      (r82, c_asleep, c_locked, v1, s83, s84, c_flags_negative, c_flags_zero, c_flags_carry, c_flags_overflow, c_exceptions_pending, c_exceptions_active, c_exceptions_current, c_exceptions_masked)))
    else if (o_iushr v3 11) = 16 then (un3 (f_ThumbCore_atOffset q_memory_size c_memory_words c_registers v3) (fun r85 s86 s87 =>
      (r85, c_asleep, c_locked, v1, s86, s87, c_flags_negative, c_flags_zero, c_flags_carry, c_flags_overflow, c_exceptions_pending, c_exceptions_active, c_exceptions_current, c_exceptions_masked)))
    else if (o_iushr v3 11) = 17 then (un3 (f_ThumbCore_atOffset q_memory_size c_memory_words c_registers v3) (fun r88 s89 s90 =>
      (r88, c_asleep, c_locked, v1, s89, s90, c_flags_negative, c_flags_zero, c_flags_carry, c_flags_overflow, c_exceptions_pending, c_exceptions_active, c_exceptions_current, c_exceptions_masked)))
    else if (o_iushr v3 11) = 18 then (un3 (f_ThumbCore_fromBase q_memory_size c_memory_words c_registers v3) (fun r91 s92 s93 =>
      (r91, c_asleep, c_locked, v1, s92, s93, c_flags_negative, c_flags_zero, c_flags_carry, c_flags_overflow, c_exceptions_pending, c_exceptions_active, c_exceptions_current, c_exceptions_masked)))
    else if (o_iushr v3 11) = 19 then (un3 (f_ThumbCore_fromBase q_memory_size c_memory_words c_registers v3) (fun r94 s95 s96 =>
      (r94, c_asleep, c_locked, v1, s95, s96, c_flags_negative, c_flags_zero, c_flags_carry, c_flags_overflow, c_exceptions_pending, c_exceptions_active, c_exceptions_current, c_exceptions_masked)))
    else if (o_iushr v3 11) = 20 then (un3 (f_ThumbCore_fromBase q_memory_size c_memory_words c_registers v3) (fun r97 s98 s99 =>
      (r97, c_asleep, c_locked, v1, s98, s99, c_flags_negative, c_flags_zero, c_flags_carry, c_flags_overflow, c_exceptions_pending, c_exceptions_active, c_exceptions_current, c_exceptions_masked)))
    else if (o_iushr v3 11) = 21 then (un3 (f_ThumbCore_fromBase q_memory_size c_memory_words c_registers v3) (fun r100 s101 s102 =>
      (r100, c_asleep, c_locked, v1, s101, s102, c_flags_negative, c_flags_zero, c_flags_carry, c_flags_overflow, c_exceptions_pending, c_exceptions_active, c_exceptions_current, c_exceptions_masked)))
    else if (o_iushr v3 11) = 22 then (un12 (f_ThumbCore_miscellaneous q_memory_size c_asleep v1 c_memory_words c_registers c_flags_negative c_flags_zero c_flags_carry c_flags_overflow c_exceptions_active c_exceptions_current c_exceptions_masked v3) (fun r103 s104 s105 s106 s107 s108 s109 s110 s111 s112 s113 s114 =>
      (r103, s104, c_locked, s105, s106, s107, s108, s109, s110, s111, c_exceptions_pending, s112, s113, s114)))
    else if (o_iushr v3 11) = 23 then (un12 (f_ThumbCore_miscellaneous q_memory_size c_asleep v1 c_memory_words c_registers c_flags_negative c_flags_zero c_flags_carry c_flags_overflow c_exceptions_active c_exceptions_current c_exceptions_masked v3) (fun r115 s116 s117 s118 s119 s120 s121 s122 s123 s124 s125 s126 =>
      (r115, s116, c_locked, s117, s118, s119, s120, s121, s122, s123, c_exceptions_pending, s124, s125, s126)))
    else if (o_iushr v3 11) = 24 then (un3 (f_ThumbCore_storeMany q_memory_size c_memory_words c_registers ((o_iushr v3 8) &&& 7) (v3 &&& 255)) (fun r127 s128 s129 =>
      (r127, c_asleep, c_locked, v1, s128, s129, c_flags_negative, c_flags_zero, c_flags_carry, c_flags_overflow, c_exceptions_pending, c_exceptions_active, c_exceptions_current, c_exceptions_masked)))
    else if (o_iushr v3 11) = 25 then (un2 (f_ThumbCore_loadMany q_memory_size c_memory_words c_registers ((o_iushr v3 8) &&& 7) (v3 &&& 255)) (fun r130 s131 =>
      (r130, c_asleep, c_locked, v1, c_memory_words, s131, c_flags_negative, c_flags_zero, c_flags_carry, c_flags_overflow, c_exceptions_pending, c_exceptions_active, c_exceptions_current, c_exceptions_masked)))
    else if (o_iushr v3 11) = 26 then (un8 (f_ThumbCore_branchOrCall q_memory_size c_flags_negative c_flags_zero c_flags_carry c_flags_overflow c_exceptions_masked c_exceptions_priorities c_locked v1 c_memory_words c_registers c_exceptions_pending c_exceptions_active c_exceptions_current ((o_iushr v3 8) &&& 15) v3.toInt8.toInt32) (fun r132 s133 s134 s135 s136 s137 s138 s139 =>
      (r132, c_asleep, s133, s134, s135, s136, c_flags_negative, c_flags_zero, c_flags_carry, c_flags_overflow, s137, s138, s139, c_exceptions_masked)))
    else if (o_iushr v3 11) = 27 then (un8 (f_ThumbCore_branchOrCall q_memory_size c_flags_negative c_flags_zero c_flags_carry c_flags_overflow c_exceptions_masked c_exceptions_priorities c_locked v1 c_memory_words c_registers c_exceptions_pending c_exceptions_active c_exceptions_current ((o_iushr v3 8) &&& 15) v3.toInt8.toInt32) (fun r140 s141 s142 s143 s144 s145 s146 s147 =>
      (r140, c_asleep, s141, s142, s143, s144, c_flags_negative, c_flags_zero, c_flags_carry, c_flags_overflow, s145, s146, s147, c_exceptions_masked)))
    else if (o_iushr v3 11) = 28 then (bd (f_ThumbCore_here c_registers : Int32) (fun v148 =>
      bd ((v148 + (o_ishr (o_ishl v3 21) 20)) : Int32) (fun v149 =>
      (true, c_asleep, c_locked, v149, c_memory_words, c_registers, c_flags_negative, c_flags_zero, c_flags_carry, c_flags_overflow, c_exceptions_pending, c_exceptions_active, c_exceptions_current, c_exceptions_masked))))
    else if (o_iushr v3 11) = 30 then (un3 (f_ThumbCore_branchFar q_memory_size c_memory_words v1 c_registers v3) (fun r150 s151 s152 =>
      (r150, c_asleep, c_locked, s151, c_memory_words, s152, c_flags_negative, c_flags_zero, c_flags_carry, c_flags_overflow, c_exceptions_pending, c_exceptions_active, c_exceptions_current, c_exceptions_masked)))
    else (false, c_asleep, c_locked, v1, c_memory_words, c_registers, c_flags_negative, c_flags_zero, c_flags_carry, c_flags_overflow, c_exceptions_pending, c_exceptions_active, c_exceptions_current, c_exceptions_masked)))
  else (false, c_asleep, c_locked, v1, c_memory_words, c_registers, c_flags_negative, c_flags_zero, c_flags_carry, c_flags_overflow, c_exceptions_pending, c_exceptions_active, c_exceptions_current, c_exceptions_masked)))
def f_ThumbCore_fault (q_memory_size : Int32) (c_flags_negative : Bool) (c_flags_zero : Bool) (c_flags_carry : Bool) (c_flags_overflow : Bool) (c_exceptions_masked : Bool) (c_exceptions_priorities : Nat → Int32) (c_locked : Bool) (c_memory_words : Nat → Int32) (c_registers : Nat → Int32) (c_exceptions_pending : Int32) (c_exceptions_active : Int32) (c_exceptions_current : Int32) : Bool × (Nat → Int32) × (Nat → Int32) × Int32 × Int32 × Int32 :=
  bd (f_Exceptions_present c_exceptions_active c_exceptions_masked c_exceptions_priorities : Int32) (fun v1 =>
  if 0 ≤ v1 then (un6 (f_ThumbCore_enter q_memory_size c_flags_negative c_flags_zero c_flags_carry c_flags_overflow c_locked c_memory_words c_registers c_exceptions_pending c_exceptions_active c_exceptions_current 3 (c_registers (15 : Int32).toNatClampNeg)) (fun s2 s3 s4 s5 s6 s7 =>
    (s2, s3, s4, s5, s6, s7)))
  else (true, c_memory_words, c_registers, c_exceptions_pending, c_exceptions_active, c_exceptions_current))
def k_ThumbCore_step_118 (q_memory_size : Int32) (c_exceptions_priorities : Nat → Int32) (c_counter_reload : Int32) (c_counter_on : Bool) (c_asleep : Bool) (c_locked : Bool) (c_next : Int32) (c_memory_words : Nat → Int32) (c_registers : Nat → Int32) (c_flags_negative : Bool) (c_flags_zero : Bool) (c_flags_carry : Bool) (c_flags_overflow : Bool) (c_exceptions_pending : Int32) (c_exceptions_active : Int32) (c_exceptions_current : Int32) (c_exceptions_masked : Bool) (c_counter_number : Int32) (y1 : Int32) : Int32 × Bool × Bool × Int32 × (Nat → Int32) × (Nat → Int32) × Bool × Bool × Bool × Bool × Int32 × Int32 × Int32 × Bool × Int32 :=
  if (bI c_locked) = 0 then (if y1 = 0 then ((0, c_asleep, c_locked, c_next, c_memory_words, c_registers, c_flags_negative, c_flags_zero, c_flags_carry, c_flags_overflow, c_exceptions_pending, c_exceptions_active, c_exceptions_current, c_exceptions_masked, c_counter_number))
    else (1, c_asleep, c_locked, c_next, c_memory_words, c_registers, c_flags_negative, c_flags_zero, c_flags_carry, c_flags_overflow, c_exceptions_pending, c_exceptions_active, c_exceptions_current, c_exceptions_masked, c_counter_number))
  else (3, c_asleep, c_locked, c_next, c_memory_words, c_registers, c_flags_negative, c_flags_zero, c_flags_carry, c_flags_overflow, c_exceptions_pending, c_exceptions_active, c_exceptions_current, c_exceptions_masked, c_counter_number)
def k_ThumbCore_step_54 (q_memory_size : Int32) (c_exceptions_priorities : Nat → Int32) (c_counter_reload : Int32) (c_counter_on : Bool) (c_asleep : Bool) (c_locked : Bool) (c_next : Int32) (c_memory_words : Nat → Int32) (c_registers : Nat → Int32) (c_flags_negative : Bool) (c_flags_zero : Bool) (c_flags_carry : Bool) (c_flags_overflow : Bool) (c_exceptions_pending : Int32) (c_exceptions_active : Int32) (c_exceptions_current : Int32) (c_exceptions_masked : Bool) (c_counter_number : Int32) : Int32 × Bool × Bool × Int32 × (Nat → Int32) × (Nat → Int32) × Bool × Bool × Bool × Bool × Int32 × Int32 × Int32 × Bool × Int32 :=
  bd (f_Exceptions_present c_exceptions_active c_exceptions_masked c_exceptions_priorities : Int32) (fun v1 =>
  bd (f_Exceptions_mostUrgent c_exceptions_pending c_exceptions_priorities v1 : Int32) (fun v2 =>
  if v2 = 0 then (un14 (f_ThumbCore_perform q_memory_size c_exceptions_priorities false c_locked c_next c_memory_words c_registers c_flags_negative c_flags_zero c_flags_carry c_flags_overflow c_exceptions_pending c_exceptions_active c_exceptions_current c_exceptions_masked) (fun r3 s4 s5 s6 s7 s8 s9 s10 s11 s12 s13 s14 s15 s16 =>
    if (bI r3) = 0 then (un6 (f_ThumbCore_fault q_memory_size s9 s10 s11 s12 s16 c_exceptions_priorities s5 s7 s8 s13 s14 s15) (fun s17 s18 s19 s20 s21 s22 =>
      k_ThumbCore_step_118 q_memory_size c_exceptions_priorities c_counter_reload c_counter_on s4 s17 s6 s18 s19 s9 s10 s11 s12 s20 s21 s22 s16 c_counter_number v2))
    else k_ThumbCore_step_118 q_memory_size c_exceptions_priorities c_counter_reload c_counter_on s4 s5 s6 s7 (upd s8 (15 : Int32).toNatClampNeg s6) s9 s10 s11 s12 s13 s14 s15 s16 c_counter_number v2))
  else un6 (f_ThumbCore_enter q_memory_size c_flags_negative c_flags_zero c_flags_carry c_flags_overflow c_locked c_memory_words c_registers c_exceptions_pending c_exceptions_active c_exceptions_current v2 (c_registers (15 : Int32).toNatClampNeg)) (fun s23 s24 s25 s26 s27 s28 =>
  k_ThumbCore_step_118 q_memory_size c_exceptions_priorities c_counter_reload c_counter_on false s23 c_next s24 s25 c_flags_negative c_flags_zero c_flags_carry c_flags_overflow s26 s27 s28 c_exceptions_masked c_counter_number v2)))
def k_ThumbCore_step_28 (q_memory_size : Int32) (c_exceptions_priorities : Nat → Int32) (c_counter_reload : Int32) (c_counter_on : Bool) (c_asleep : Bool) (c_locked : Bool) (c_next : Int32) (c_memory_words : Nat → Int32) (c_registers : Nat → Int32) (c_flags_negative : Bool) (c_flags_zero : Bool) (c_flags_carry : Bool) (c_flags_overflow : Bool) (c_exceptions_pending : Int32) (c_exceptions_active : Int32) (c_exceptions_current : Int32) (c_exceptions_masked : Bool) (c_counter_number : Int32) : Int32 × Bool × Bool × Int32 × (Nat → Int32) × (Nat → Int32) × Bool × Bool × Bool × Bool × Int32 × Int32 × Int32 × Bool × Int32 :=
  if (bI c_asleep) = 0 then (k_ThumbCore_step_54 q_memory_size c_exceptions_priorities c_counter_reload c_counter_on c_asleep c_locked c_next c_memory_words c_registers c_flags_negative c_flags_zero c_flags_carry c_flags_overflow c_exceptions_pending c_exceptions_active c_exceptions_current c_exceptions_masked c_counter_number)
  else bd (f_Exceptions_presentUnmasked c_exceptions_active c_exceptions_priorities : Int32) (fun v1 =>
  bd (f_Exceptions_mostUrgent c_exceptions_pending c_exceptions_priorities v1 : Int32) (fun v2 =>
  if ¬ v2 = 0 then (k_ThumbCore_step_54 q_memory_size c_exceptions_priorities c_counter_reload c_counter_on c_asleep c_locked c_next c_memory_words c_registers c_flags_negative c_flags_zero c_flags_carry c_flags_overflow c_exceptions_pending c_exceptions_active c_exceptions_current c_exceptions_masked c_counter_number)
  else (2, c_asleep, c_locked, c_next, c_memory_words, c_registers, c_flags_negative, c_flags_zero, c_flags_carry, c_flags_overflow, c_exceptions_pending, c_exceptions_active, c_exceptions_current, c_exceptions_masked, c_counter_number)))
def f_ThumbCore_step (q_memory_size : Int32) (c_exceptions_priorities : Nat → Int32) (c_counter_reload : Int32) (c_counter_on : Bool) (c_asleep : Bool) (c_locked : Bool) (c_next : Int32) (c_memory_words : Nat → Int32) (c_registers : Nat → Int32) (c_flags_negative : Bool) (c_flags_zero : Bool) (c_flags_carry : Bool) (c_flags_overflow : Bool) (c_exceptions_pending : Int32) (c_exceptions_active : Int32) (c_exceptions_current : Int32) (c_exceptions_masked : Bool) (c_counter_number : Int32) : Int32 × Bool × Bool × Int32 × (Nat → Int32) × (Nat → Int32) × Bool × Bool × Bool × Bool × Int32 × Int32 × Int32 × Bool × Int32 :=
  if (bI c_locked) = 0 then (un2 (f_Counter_moves c_counter_reload c_counter_on c_counter_number) (fun r1 s2 =>
    if (bI r1) = 0 then (k_ThumbCore_step_28 q_memory_size c_exceptions_priorities c_counter_reload c_counter_on c_asleep c_locked c_next c_memory_words c_registers c_flags_negative c_flags_zero c_flags_carry c_flags_overflow c_exceptions_pending c_exceptions_active c_exceptions_current c_exceptions_masked s2)
    else bd (f_Exceptions_await c_exceptions_pending 15 : Int32) (fun s3 =>
    k_ThumbCore_step_28 q_memory_size c_exceptions_priorities c_counter_reload c_counter_on c_asleep c_locked c_next c_memory_words c_registers c_flags_negative c_flags_zero c_flags_carry c_flags_overflow s3 c_exceptions_active c_exceptions_current c_exceptions_masked s2)))
  else (3, c_asleep, c_locked, c_next, c_memory_words, c_registers, c_flags_negative, c_flags_zero, c_flags_carry, c_flags_overflow, c_exceptions_pending, c_exceptions_active, c_exceptions_current, c_exceptions_masked, c_counter_number)
def k_ThumbCore_run_14 (q_memory_size : Int32) (c_exceptions_priorities : Nat → Int32) (c_counter_reload : Int32) (c_counter_on : Bool) : Nat → Bool → Bool → Int32 → (Nat → Int32) → (Nat → Int32) → Bool → Bool → Bool → Bool → Int32 → Int32 → Int32 → Bool → Int32 → Int32 → Int32 → Int32 × Bool × Bool × Int32 × (Nat → Int32) × (Nat → Int32) × Bool × Bool × Bool × Bool × Int32 × Int32 × Int32 × Bool × Int32
  | 0, c_asleep, c_locked, c_next, c_memory_words, c_registers, c_flags_negative, c_flags_zero, c_flags_carry, c_flags_overflow, c_exceptions_pending, c_exceptions_active, c_exceptions_current, c_exceptions_masked, c_counter_number, y1, y2 => (0, c_asleep, c_locked, c_next, c_memory_words, c_registers, c_flags_negative, c_flags_zero, c_flags_carry, c_flags_overflow, c_exceptions_pending, c_exceptions_active, c_exceptions_current, c_exceptions_masked, c_counter_number)
  | n + 1, c_asleep, c_locked, c_next, c_memory_words, c_registers, c_flags_negative, c_flags_zero, c_flags_carry, c_flags_overflow, c_exceptions_pending, c_exceptions_active, c_exceptions_current, c_exceptions_masked, c_counter_number, y1, y2 =>
  if y1 ≤ y2 then ((y1, c_asleep, c_locked, c_next, c_memory_words, c_registers, c_flags_negative, c_flags_zero, c_flags_carry, c_flags_overflow, c_exceptions_pending, c_exceptions_active, c_exceptions_current, c_exceptions_masked, c_counter_number))
  else un15 (f_ThumbCore_step q_memory_size c_exceptions_priorities c_counter_reload c_counter_on c_asleep c_locked c_next c_memory_words c_registers c_flags_negative c_flags_zero c_flags_carry c_flags_overflow c_exceptions_pending c_exceptions_active c_exceptions_current c_exceptions_masked c_counter_number) (fun r1 s2 s3 s4 s5 s6 s7 s8 s9 s10 s11 s12 s13 s14 s15 =>
  if r1 = 2 then ((y2, s2, s3, s4, s5, s6, s7, s8, s9, s10, s11, s12, s13, s14, s15))
  else if ¬ r1 = 3 then (k_ThumbCore_run_14 q_memory_size c_exceptions_priorities c_counter_reload c_counter_on n s2 s3 s4 s5 s6 s7 s8 s9 s10 s11 s12 s13 s14 s15 y1 (y2 + 1))
  else (y2, s2, s3, s4, s5, s6, s7, s8, s9, s10, s11, s12, s13, s14, s15))
def f_ThumbCore_run (q_memory_size : Int32) (c_exceptions_priorities : Nat → Int32) (c_counter_reload : Int32) (c_counter_on : Bool) (c_asleep : Bool) (c_locked : Bool) (c_next : Int32) (c_memory_words : Nat → Int32) (c_registers : Nat → Int32) (c_flags_negative : Bool) (c_flags_zero : Bool) (c_flags_carry : Bool) (c_flags_overflow : Bool) (c_exceptions_pending : Int32) (c_exceptions_active : Int32) (c_exceptions_current : Int32) (c_exceptions_masked : Bool) (c_counter_number : Int32) (x1 : Int32) : Int32 × Bool × Bool × Int32 × (Nat → Int32) × (Nat → Int32) × Bool × Bool × Bool × Bool × Int32 × Int32 × Int32 × Bool × Int32 :=
  if x1 < 0 then (((-1), c_asleep, c_locked, c_next, c_memory_words, c_registers, c_flags_negative, c_flags_zero, c_flags_carry, c_flags_overflow, c_exceptions_pending, c_exceptions_active, c_exceptions_current, c_exceptions_masked, c_counter_number))
  else if x1 ≤ 100 then (k_ThumbCore_run_14 q_memory_size c_exceptions_priorities c_counter_reload c_counter_on ((Int32.toInt x1).toNat.succ) c_asleep c_locked c_next c_memory_words c_registers c_flags_negative c_flags_zero c_flags_carry c_flags_overflow c_exceptions_pending c_exceptions_active c_exceptions_current c_exceptions_masked c_counter_number x1 0)
  else ((-1), c_asleep, c_locked, c_next, c_memory_words, c_registers, c_flags_negative, c_flags_zero, c_flags_carry, c_flags_overflow, c_exceptions_pending, c_exceptions_active, c_exceptions_current, c_exceptions_masked, c_counter_number)
def f_ThumbCore_register (c_registers : Nat → Int32) (x1 : Int32) : Int32 :=
  if x1 < 0 then (0)
  else if 15 < x1 then (0)
  else (c_registers x1.toNatClampNeg)
def f_ThumbCore_set (c_registers : Nat → Int32) (x1 : Int32) (x2 : Int32) : Bool × (Nat → Int32) :=
  if x1 < 0 then ((false, c_registers))
  else if x1 ≤ 15 then (bd (f_ThumbCore_fitting x1 x2 : Int32) (fun v1 =>
    (true, (upd c_registers x1.toNatClampNeg v1))))
  else (false, c_registers)
def f_ThumbCore_about (c_asleep : Bool) (c_locked : Bool) (c_exceptions_active : Int32) (c_exceptions_current : Int32) (c_exceptions_masked : Bool) (c_exceptions_priorities : Nat → Int32) (c_counter_number : Int32) (x1 : Int32) : Int32 :=
  if x1 = 0 then (c_exceptions_current)
  else if x1 = 1 then (bd (f_Integer_bitCount c_exceptions_active : Int32) (fun v1 =>
    v1))
  else if x1 = 2 then (if (bI c_exceptions_masked) = 0 then (0)
    else 1)
  else if x1 = 3 then (if (bI c_asleep) = 0 then (0)
    else 1)
  else if x1 = 4 then (if (bI c_locked) = 0 then (0)
    else 1)
  else if x1 = 5 then (c_counter_number)
  else if x1 = 6 then (bd (f_Exceptions_present c_exceptions_active c_exceptions_masked c_exceptions_priorities : Int32) (fun v2 =>
    v2))
  else (-1)
def k_ThumbCore_pend_19 (c_exceptions_pending : Int32) (y1 : Int32) : Bool × Int32 :=
  bd (f_Exceptions_await c_exceptions_pending y1 : Int32) (fun s1 =>
  (true, s1))
def f_ThumbCore_pend (c_exceptions_pending : Int32) (x1 : Int32) : Bool × Int32 :=
  if x1 = 2 then (k_ThumbCore_pend_19 c_exceptions_pending x1)
  else if x1 = 14 then (k_ThumbCore_pend_19 c_exceptions_pending x1)
  else if x1 = 15 then (k_ThumbCore_pend_19 c_exceptions_pending x1)
  else (false, c_exceptions_pending)
def k_ThumbCore_exception_16 (c_exceptions_pending : Int32) (c_exceptions_active : Int32) (y1 : Int32) (z0 : Bool) : Int32 :=
  bd (f_Exceptions_isActive c_exceptions_active y1 : Bool) (fun v1 =>
  if (bI v1) = 0 then (((bI z0) + 0))
  else ((bI z0) + 2))
def f_ThumbCore_exception (c_exceptions_pending : Int32) (c_exceptions_active : Int32) (x1 : Int32) : Int32 :=
  bd (f_Exceptions_isPending c_exceptions_pending x1 : Bool) (fun v1 =>
  if (bI v1) = 0 then (k_ThumbCore_exception_16 c_exceptions_pending c_exceptions_active x1 false)
  else k_ThumbCore_exception_16 c_exceptions_pending c_exceptions_active x1 true)
def k_ThumbCore_priority_23 (c_exceptions_priorities : Nat → Int32) (y1 : Int32) (y2 : Int32) (z0 : Bool) : Bool × (Nat → Int32) :=
  if (bI z0) = 0 then ((false, c_exceptions_priorities))
  else if y2 < 0 then ((false, c_exceptions_priorities))
  else if y2 ≤ 3 then ((true, (upd c_exceptions_priorities y1.toNatClampNeg y2)))
  else (false, c_exceptions_priorities)
def k_ThumbCore_priority_18 (c_exceptions_priorities : Nat → Int32) (y1 : Int32) (y2 : Int32) : Bool × (Nat → Int32) :=
  k_ThumbCore_priority_23 c_exceptions_priorities y1 y2 true
def f_ThumbCore_priority (c_exceptions_priorities : Nat → Int32) (x1 : Int32) (x2 : Int32) : Bool × (Nat → Int32) :=
  if x1 = 11 then (k_ThumbCore_priority_18 c_exceptions_priorities x1 x2)
  else if x1 = 14 then (k_ThumbCore_priority_18 c_exceptions_priorities x1 x2)
  else if ¬ x1 = 15 then (k_ThumbCore_priority_23 c_exceptions_priorities x1 x2 false)
  else k_ThumbCore_priority_18 c_exceptions_priorities x1 x2
def f_ThumbCore_tick (c_counter_number : Int32) (c_counter_reload : Int32) (c_counter_on : Bool) (x1 : Int32) (x2 : Bool) : Bool × Int32 × Int32 × Bool :=
  if x1 < 0 then ((false, c_counter_number, c_counter_reload, c_counter_on))
  else if x1 ≤ 1000 then (un3 (f_Counter_begin c_counter_number c_counter_reload c_counter_on x1 x2) (fun s1 s2 s3 =>
    (true, s1, s2, s3)))
  else (false, c_counter_number, c_counter_reload, c_counter_on)

/-! THE CLAIM OUT OF ONE WALK OF THE LAW'S BODY. Your part is whole_start (and what it stands on); all else here is the same for every law, but numbers. -/
def R_law : String := "ThumbCoreLaw"
def lw_P (b : Addr) (xs : List Int32) (args : Array Value) (s : State) : Prop := args = #[.ref b] ∧ s.IntsAt b xs ∧ xs.length ≤ 2049 ∧ (Jvm.Cond.and given_1 narrow_1).before args s = true
def lw_Q (_ : Array Value) (s : State) (o : Outcome) (t : State) : Prop := o = .returned (some (.int 1)) ∧ Framed s o t [] 600000 7302250
def lw_Z (below : List Frame) (a : Array Value) (s : State) : State → Prop := fun t => ∃ o, t.status = .running ∧ Ended t below o ∧ lw_Q a s o t
/-- the law's own end, with 1 on the stack, nothing written that was there before, its room as the claim has it -/
theorem lw_ret {p : Program} {l : Launch} {e : Env} {s : State} {m : MethodId} {below : List Frame} {meth : Method} {c : Code} {b : Nat} (hx : p.tables.exec = Jvm.exec) (hb : c.code = code) (hr : meth.sig.returnType = ret) (hlocks : meth.locks = false) {pc : Nat} {H : Heap} {ls : Array Slot} (hdg : decode code pc = .ok (.ireturn, 1)) : W p l e room_1 s m #[Value.ref b] below meth c H [] 600000 7302250 (lw_Z below #[Value.ref b] s) (F0 m pc ls [.int 1]) := by
  intro T hT X
  obtain ⟨fs, hret, hrun, hended, hW, hframe⟩ := X.leave (v := some (.int 1)) (hlocks := hlocks) (fun h => by rw [hr] at h; cases h)
  have hmeth' : T.vm.method? m = some meth := X.method'
  refine ⟨T.setFrames fs, ?_, .returned (some (.int 1)), hrun, hended, rfl, ⟨_, rfl⟩, hW, hframe⟩
  jvm_step X.here [X.here.top, hx, hb, hdg, hmeth', hr, ret, narrow_b1]
  (try refine ⟨rfl, ?_⟩); (try refine ⟨rfl, ?_⟩)
  first | (intro acts; rw [hret _ acts rfl rfl rfl]) | rw [hret _ _ rfl rfl rfl]
  exact Steps.refl _
/-- what holds at the law's entry: the machine, the code, the tables' words (any of lw_tbl by 'hts w (by decide +kernel)'), the script of L ints xs at the cell b, what the Statement gives of the start (any of its parts by flat_of_before) -/
def lw_At (p : Program) (s : State) (m : MethodId) (meth : Method) (c : Code) (b L : Nat) (xs : Nat → Int32) : Prop :=
  p.tables.exec = Jvm.exec ∧ c.code = code ∧ meth.sig.returnType = ret ∧ c.maxLocals = 4 ∧ s.vm.findClass R_law = some m.cls ∧ (∀ w ∈ lw_tbl, w.before #[Value.ref b] s = true) ∧ va_X b L xs s s.heap ∧ b < s.heap.size ∧ meth.locks = false ∧ (Jvm.Cond.and given_1 narrow_1).before #[Value.ref b] s = true

set_option maxHeartbeats 4000000 in
set_option maxRecDepth 100000 in
theorem whole_start {p : Program} {e : Env} {s : State} {m : MethodId} {below : List Frame} {meth : Method} {c : Code} (l : Launch) {b L : Nat} {xs : Nat → Int32} (hL : L ≤ 2049) (C0 : lw_At p s m meth c b L xs) : W p l e room_1 s m #[Value.ref b] below meth c s.heap [] 0 0 (lw_Z below #[Value.ref b] s) (entryFrame m ([Value.ref b] : List Value).toArray 4) := by
  obtain ⟨hx, hb, hr, hml, hown, hts0, hX, hbl, hlocks, hgv⟩ := C0
  have hts : ∀ w ∈ tcb, w.before #[Value.ref b] s = true := fun w h => hts0 w (List.mem_filter.mp h).1
  have hN : tc_NN s := tcn_all (va_Nw.of rfl (hts0 _ wT_0)) (va_Nw.of rfl (hts0 _ wT_1)) (va_Nw.of rfl (hts0 _ wT_2)) (va_Nw.of rfl (hts0 _ wT_3)) (va_Nw.of rfl (hts0 _ wT_4)) (va_Nw.of rfl (hts0 _ wT_5)) (va_Nw.of rfl (hts0 _ wT_6)) (va_Nw.of rfl (hts0 _ wT_7))
  obtain ⟨D, cI, cB, cZ, hK⟩ := lw_K hts
  have hA : ∀ r : Nat, s.heap.size ≤ r → (fun r : Nat => s.heap.size ≤ r) r := fun r h => h
  have hbA : ¬ (fun r : Nat => s.heap.size ≤ r) b := Nat.not_le.mpr hbl
  obtain ⟨tL, hZ⟩ := lw_laid hts0 hgv
  have hS : va_S (fun r : Nat => s.heap.size ≤ r) s.heap s.heap [] := va_S.rf
  have hP : va_P D tcl [] s.heap := fun k q h => by simp at h
  have hD : va_D (fun r : Nat => s.heap.size ≤ r) ([] : va_W) := ⟨fun i j p q h => by simp at h, fun k q h => by simp at h⟩
  have E : ∀ (H : Heap) (locs : List Loc) (ls : Array Slot), va_S (fun r : Nat => s.heap.size ≤ r) s.heap H locs → W p l e room_1 s m #[Value.ref b] below meth c H locs 15 2717 (lw_Z below #[Value.ref b] s) (F0 m 447 ls []) := by
    intro H locs ls hS
    refine lv_iconst (v := 1) hx hb d_law_447 (by decide) ?_
    refine va_forget (fun r h => hS.2.2 r h) ?_
    refine W.widen (k := 600000) (n := 7302250) (by decide) (by decide) ?_
    exact lw_ret hx hb hr hlocks d_law_448
  have hl := lv_entry ([Value.ref b]) (n := 4) (Nat.le_of_ble_eq_true rfl)
  rw [lg_entry_eq]
  generalize (lg_sl ([Value.ref b]) ++ List.replicate (4 - (lg_sl ([Value.ref b])).length) Slot.unset).toArray = ls at hl ⊢
  have hl : lv_has ls 4 [(0, .ref b)] := hl
  refine va_new (ci := 4) (fs := [.null, .null, .null, .null, .null, .int (bI false), .int (bI false), .int 0]) (C := R_ThumbCore) (T := F_ThumbCore) (N := 8) hx hb hts u_ThumbCore t_ThumbCore t_ThumbCore_ok hown (hts _ wz_ThumbCoreLaw_7) (hts _ wn_ThumbCore) (hts _ wi_ThumbCore) hK hP hD hS hA rfl (fun j hj => by rcases (show j = 0 ∨ j = 1 ∨ j = 2 ∨ j = 3 ∨ j = 4 ∨ j = 5 ∨ j = 6 ∨ j = 7 by omega) with rfl | rfl | rfl | rfl | rfl | rfl | rfl | rfl <;> rfl) (by decide) (by decide) d_law_0 (fun a1 H hP hD hS => ?_)
  have hP : va_P D tcl [(a1, .inr (4, [.null, .null, .null, .null, .null, .int (bI false), .int (bI false), .int 0]))] H := hP
  have hD : va_D (fun r : Nat => s.heap.size ≤ r) [(a1, .inr (4, [.null, .null, .null, .null, .null, .int (bI false), .int (bI false), .int 0]))] := hD
  refine lv_dup hx hb d_law_3 rfl ?_
  refine lv_aload_n hx hb d_law_4 rfl (lv_at hl 0 rfl) ?_
  refine lv_iconst (v := 0) hx hb d_law_5 (by decide) ?_
  refine tc_rd (va_runS (As := [.ref b, .int 0]) (rest := [.ref a1, .ref a1]) ⟨hx, hb, hml, hown, hts⟩ (c_cell l b L xs hL) (va_cwS 2 hts (tc_gS wl_ThumbCoreLaw_9 wt_ThumbCoreLaw_cell wi_ThumbCoreLaw wc_ThumbCoreLaw_cell) rfl rfl rfl (by decide +kernel) ⟨(Nat.le_of_ble_eq_true rfl), (Nat.le_of_ble_eq_true rfl)⟩) ⟨fun a U g mk q => ⟨q.1, va_X.moved (u := U) (U := U.calling g mk a) (Vm.Alike.refl U.vm) q.2⟩, fun U hU hW => ⟨rfl, by show va_X b L xs U U.heap; rw [hU]; exact va_X.moved hW.alike (hX.kept (hS.2.1 b hbl hbA))⟩⟩ rfl rfl hl.1 rfl (lv_room (Nat.le_of_ble_eq_true rfl)) d_law_6 (by decide)) ?_
  refine tc_mn (S := Nat × Nat × Nat × Nat × Nat × Nat × Nat) (wo := fun u => wd_ThumbCore cI cB cZ a1 u.1 u.2.1 u.2.2.1 u.2.2.2.1 u.2.2.2.2.1 u.2.2.2.2.2.1 u.2.2.2.2.2.2 (tsz (first L xs)) (tsn (first L xs)) rs0.1 rs0.2.1 0 (fun _ => 0) rs0.2.2.1 rs0.2.2.2.1 rs0.2.2.2.2.1 rs0.2.2.2.2.2.1 rs0.2.2.2.2.2.2.1 rs0.2.2.2.2.2.2.2.1 rs0.2.2.2.2.2.2.2.2.1 rs0.2.2.2.2.2.2.2.2.2.1 rs0.2.2.2.2.2.2.2.2.2.2.1 pr0 rs0.2.2.2.2.2.2.2.2.2.2.2.1 rs0.2.2.2.2.2.2.2.2.2.2.2.2.1 rs0.2.2.2.2.2.2.2.2.2.2.2.2.2) (va_runI (As := [.int (first L xs)]) (rest := [.ref a1]) ⟨hx, hb, hml, hown, hts⟩ (c_ThumbCore_init l D cI cB cZ a1 H.size (first L xs)) (cwI 1 hts (tc_gI wc_ThumbCore_init) rfl rfl rfl (hts _ wi_ThumbCore) (hts _ wl_ThumbCoreLaw_15) (hts _ wm_ThumbCore_init) rfl (by decide +kernel) ⟨(Nat.le_of_ble_eq_true rfl), (Nat.le_of_ble_eq_true rfl)⟩) (tc_preI hK hN hP hD [0] rfl (by decide)) rfl rfl hl.1 rfl (lv_room (Nat.le_of_ble_eq_true rfl)) d_law_9 (by decide)) hP hD hS hA [0] [] [0, 1, 2, 3, 4, 5, 6, 7] rfl rfl (by decide) (by decide) (by decide) (fun _ => rfl) (fun u H locs hP hD hS => ?_)
  obtain ⟨a2, a3, a4, a5, a6, a7, a8⟩ := u
  have hP : va_P D tcl (wd_ThumbCore cI cB cZ a1 a2 a3 a4 a5 a6 a7 a8 (tsz (first L xs)) (tsn (first L xs)) rs0.1 rs0.2.1 0 (fun _ => 0) rs0.2.2.1 rs0.2.2.2.1 rs0.2.2.2.2.1 rs0.2.2.2.2.2.1 rs0.2.2.2.2.2.2.1 rs0.2.2.2.2.2.2.2.1 rs0.2.2.2.2.2.2.2.2.1 rs0.2.2.2.2.2.2.2.2.2.1 rs0.2.2.2.2.2.2.2.2.2.2.1 pr0 rs0.2.2.2.2.2.2.2.2.2.2.2.1 rs0.2.2.2.2.2.2.2.2.2.2.2.2.1 rs0.2.2.2.2.2.2.2.2.2.2.2.2.2) H := hP
  have hD : va_D (fun r : Nat => s.heap.size ≤ r) (wd_ThumbCore cI cB cZ a1 a2 a3 a4 a5 a6 a7 a8 (tsz (first L xs)) (tsn (first L xs)) rs0.1 rs0.2.1 0 (fun _ => 0) rs0.2.2.1 rs0.2.2.2.1 rs0.2.2.2.2.1 rs0.2.2.2.2.2.1 rs0.2.2.2.2.2.2.1 rs0.2.2.2.2.2.2.2.1 rs0.2.2.2.2.2.2.2.2.1 rs0.2.2.2.2.2.2.2.2.2.1 rs0.2.2.2.2.2.2.2.2.2.2.1 pr0 rs0.2.2.2.2.2.2.2.2.2.2.2.1 rs0.2.2.2.2.2.2.2.2.2.2.2.2.1 rs0.2.2.2.2.2.2.2.2.2.2.2.2.2) := hD
  refine lv_astore_n (lv' := [(1, .ref a1), (0, .ref b)]) hx hb d_law_12 rfl hl (by decide) rfl (fun ls hl => ?_)
  refine va_new (ci := 5) (fs := [.int 0, .null, .null, .int (bI false), .int (bI false), .int (bI false), .int (bI false), .null, .int 0, .int (bI false), .int 0, .int 0, .int (bI false), .int (bI false), .int (bI false), .int (bI false), .int (bI false), .int 0, .int 0, .int 0, .null, .null, .null]) (C := R_ThumbCoreModel) (T := F_ThumbCoreModel) (N := 23) hx hb hts u_ThumbCoreModel t_ThumbCoreModel t_ThumbCoreModel_ok hown (hts _ wz_ThumbCoreLaw_18) (hts _ wn_ThumbCoreModel) (hts _ wi_ThumbCoreModel) hK hP hD hS hA rfl (fun j hj => by rcases (show j = 0 ∨ j = 1 ∨ j = 2 ∨ j = 3 ∨ j = 4 ∨ j = 5 ∨ j = 6 ∨ j = 7 ∨ j = 8 ∨ j = 9 ∨ j = 10 ∨ j = 11 ∨ j = 12 ∨ j = 13 ∨ j = 14 ∨ j = 15 ∨ j = 16 ∨ j = 17 ∨ j = 18 ∨ j = 19 ∨ j = 20 ∨ j = 21 ∨ j = 22 by omega) with rfl | rfl | rfl | rfl | rfl | rfl | rfl | rfl | rfl | rfl | rfl | rfl | rfl | rfl | rfl | rfl | rfl | rfl | rfl | rfl | rfl | rfl | rfl <;> rfl) (by decide) (by decide) d_law_13 (fun b1 H hP hD hS => ?_)
  have hP : va_P D tcl (wd_ThumbCore cI cB cZ a1 a2 a3 a4 a5 a6 a7 a8 (tsz (first L xs)) (tsn (first L xs)) rs0.1 rs0.2.1 0 (fun _ => 0) rs0.2.2.1 rs0.2.2.2.1 rs0.2.2.2.2.1 rs0.2.2.2.2.2.1 rs0.2.2.2.2.2.2.1 rs0.2.2.2.2.2.2.2.1 rs0.2.2.2.2.2.2.2.2.1 rs0.2.2.2.2.2.2.2.2.2.1 rs0.2.2.2.2.2.2.2.2.2.2.1 pr0 rs0.2.2.2.2.2.2.2.2.2.2.2.1 rs0.2.2.2.2.2.2.2.2.2.2.2.2.1 rs0.2.2.2.2.2.2.2.2.2.2.2.2.2 ++ [(b1, .inr (5, [.int 0, .null, .null, .int (bI false), .int (bI false), .int (bI false), .int (bI false), .null, .int 0, .int (bI false), .int 0, .int 0, .int (bI false), .int (bI false), .int (bI false), .int (bI false), .int (bI false), .int 0, .int 0, .int 0, .null, .null, .null]))]) H := hP
  have hD : va_D (fun r : Nat => s.heap.size ≤ r) (wd_ThumbCore cI cB cZ a1 a2 a3 a4 a5 a6 a7 a8 (tsz (first L xs)) (tsn (first L xs)) rs0.1 rs0.2.1 0 (fun _ => 0) rs0.2.2.1 rs0.2.2.2.1 rs0.2.2.2.2.1 rs0.2.2.2.2.2.1 rs0.2.2.2.2.2.2.1 rs0.2.2.2.2.2.2.2.1 rs0.2.2.2.2.2.2.2.2.1 rs0.2.2.2.2.2.2.2.2.2.1 rs0.2.2.2.2.2.2.2.2.2.2.1 pr0 rs0.2.2.2.2.2.2.2.2.2.2.2.1 rs0.2.2.2.2.2.2.2.2.2.2.2.2.1 rs0.2.2.2.2.2.2.2.2.2.2.2.2.2 ++ [(b1, .inr (5, [.int 0, .null, .null, .int (bI false), .int (bI false), .int (bI false), .int (bI false), .null, .int 0, .int (bI false), .int 0, .int 0, .int (bI false), .int (bI false), .int (bI false), .int (bI false), .int (bI false), .int 0, .int 0, .int 0, .null, .null, .null]))]) := hD
  refine lv_dup hx hb d_law_16 rfl ?_
  refine lv_aload_n hx hb d_law_17 rfl (lv_at hl 1 rfl) ?_
  refine lv_iconst (v := 0) hx hb d_law_18 (by decide) ?_
  refine tc_rd (va_runS (As := [.ref b, .int 0]) (rest := [.ref b1, .ref b1]) ⟨hx, hb, hml, hown, hts⟩ (c_cell l b L xs hL) (va_cwS 2 hts (tc_gS wl_ThumbCoreLaw_9 wt_ThumbCoreLaw_cell wi_ThumbCoreLaw wc_ThumbCoreLaw_cell) rfl rfl rfl (by decide +kernel) ⟨(Nat.le_of_ble_eq_true rfl), (Nat.le_of_ble_eq_true rfl)⟩) ⟨fun a U g mk q => ⟨q.1, va_X.moved (u := U) (U := U.calling g mk a) (Vm.Alike.refl U.vm) q.2⟩, fun U hU hW => ⟨rfl, by show va_X b L xs U U.heap; rw [hU]; exact va_X.moved hW.alike (hX.kept (hS.2.1 b hbl hbA))⟩⟩ rfl rfl hl.1 rfl (lv_room (Nat.le_of_ble_eq_true rfl)) d_law_19 (by decide)) ?_
  refine tc_mn (S := Nat × Nat × Nat × Nat × Nat × Nat) (wo := fun u => wd_ThumbCore cI cB cZ a1 a2 a3 a4 a5 a6 a7 a8 (tsz (first L xs)) (tsn (first L xs)) rs0.1 rs0.2.1 0 (fun _ => 0) rs0.2.2.1 rs0.2.2.2.1 rs0.2.2.2.2.1 rs0.2.2.2.2.2.1 rs0.2.2.2.2.2.2.1 rs0.2.2.2.2.2.2.2.1 rs0.2.2.2.2.2.2.2.2.1 rs0.2.2.2.2.2.2.2.2.2.1 rs0.2.2.2.2.2.2.2.2.2.2.1 pr0 rs0.2.2.2.2.2.2.2.2.2.2.2.1 rs0.2.2.2.2.2.2.2.2.2.2.2.2.1 rs0.2.2.2.2.2.2.2.2.2.2.2.2.2 ++ wd_ThumbCoreModel cI cB cZ b1 u.1 u.2.1 u.2.2.1 u.2.2.2.1 u.2.2.2.2.1 u.2.2.2.2.2 (tsz (first L xs)) (rsm0 (first L xs)).1 (rsm0 (first L xs)).2.1 (rsm0 (first L xs)).2.2.1 (rsm0 (first L xs)).2.2.2.1 0 (rsm0 (first L xs)).2.2.2.2.1 0 0 false (rsm0 (first L xs)).2.2.2.2.2.1 (rsm0 (first L xs)).2.2.2.2.2.2.1 (rsm0 (first L xs)).2.2.2.2.2.2.2.1 (rsm0 (first L xs)).2.2.2.2.2.2.2.2.1 (rsm0 (first L xs)).2.2.2.2.2.2.2.2.2.1 (rsm0 (first L xs)).2.2.2.2.2.2.2.2.2.2.1 (rsm0 (first L xs)).2.2.2.2.2.2.2.2.2.2.2.1 (fun _ => 0) (rsm0 (first L xs)).2.2.2.2.2.2.2.2.2.2.2.2.1 (fun _ => 0) (rsm0 (first L xs)).2.2.2.2.2.2.2.2.2.2.2.2.2.1 (rsm0 (first L xs)).2.2.2.2.2.2.2.2.2.2.2.2.2.2 pr0) (va_runI (As := [.int (first L xs)]) (rest := [.ref b1]) ⟨hx, hb, hml, hown, hts⟩ (c_ThumbCoreModel_init l D cI cB cZ b1 H.size (first L xs)) (cwI 1 hts (tc_gI wc_ThumbCoreModel_init) rfl rfl rfl (hts _ wi_ThumbCoreModel) (hts _ wl_ThumbCoreLaw_20) (hts _ wm_ThumbCoreModel_init) rfl (by decide +kernel) ⟨(Nat.le_of_ble_eq_true rfl), (Nat.le_of_ble_eq_true rfl)⟩) (tc_preI hK hN hP hD [8] rfl (by decide)) rfl rfl hl.1 rfl (lv_room (Nat.le_of_ble_eq_true rfl)) d_law_22 (by decide)) hP hD hS hA [8] [0, 1, 2, 3, 4, 5, 6, 7] [0, 1, 2, 3, 4, 5, 6, 7, 8, 9, 10, 11, 12, 13, 14] rfl rfl (by decide) (by decide) (by decide) (fun _ => rfl) (fun u H locs hP hD hS => ?_)
  obtain ⟨b2, b3, b4, b5, b6, b7⟩ := u
  refine lv_astore_n (lv' := [(2, .ref b1), (1, .ref a1), (0, .ref b)]) hx hb d_law_25 rfl hl (by decide) rfl (fun ls hl => ?_)
  refine lv_iconst (v := 1) hx hb d_law_26 (by decide) ?_
  refine lv_istore_n (lv' := [(3, .int 1), (2, .ref b1), (1, .ref a1), (0, .ref b)]) hx hb d_law_27 rfl hl (by decide) rfl (fun ls hl => ?_)
  rw [lw_rsm0] at hP hD
  have hP : va_P D tcl (wd_ThumbCore cI cB cZ a1 a2 a3 a4 a5 a6 a7 a8 (tsz (first L xs)) (tsn (first L xs)) rs0.1 rs0.2.1 0 (fun _ => 0) rs0.2.2.1 rs0.2.2.2.1 rs0.2.2.2.2.1 rs0.2.2.2.2.2.1 rs0.2.2.2.2.2.2.1 rs0.2.2.2.2.2.2.2.1 rs0.2.2.2.2.2.2.2.2.1 rs0.2.2.2.2.2.2.2.2.2.1 rs0.2.2.2.2.2.2.2.2.2.2.1 pr0 rs0.2.2.2.2.2.2.2.2.2.2.2.1 rs0.2.2.2.2.2.2.2.2.2.2.2.2.1 rs0.2.2.2.2.2.2.2.2.2.2.2.2.2 ++ wd_ThumbCoreModel cI cB cZ b1 b2 b3 b4 b5 b6 b7 (tsz (first L xs)) rs0.2.2.2.1 rs0.2.2.2.2.1 rs0.2.2.2.2.2.1 rs0.2.2.2.2.2.2.1 0 false 0 0 false rs0.2.2.2.2.2.2.2.2.2.2.1 rs0.1 rs0.2.1 rs0.2.2.2.2.2.2.2.2.2.2.2.2.2 rs0.2.2.2.2.2.2.2.2.2.2.2.1 rs0.2.2.2.2.2.2.2.2.2.2.2.2.1 rs0.2.2.2.2.2.2.2.2.2.1 (byt (fun _ => 0)) rs0.2.2.1 (fun _ => 0) (bt rs0.2.2.2.2.2.2.2.1) (bt rs0.2.2.2.2.2.2.2.2.1) pr0) H := by
    rw [lw_byt0]
    exact hP
  have hD : va_D (fun r : Nat => s.heap.size ≤ r) (wd_ThumbCore cI cB cZ a1 a2 a3 a4 a5 a6 a7 a8 (tsz (first L xs)) (tsn (first L xs)) rs0.1 rs0.2.1 0 (fun _ => 0) rs0.2.2.1 rs0.2.2.2.1 rs0.2.2.2.2.1 rs0.2.2.2.2.2.1 rs0.2.2.2.2.2.2.1 rs0.2.2.2.2.2.2.2.1 rs0.2.2.2.2.2.2.2.2.1 rs0.2.2.2.2.2.2.2.2.2.1 rs0.2.2.2.2.2.2.2.2.2.2.1 pr0 rs0.2.2.2.2.2.2.2.2.2.2.2.1 rs0.2.2.2.2.2.2.2.2.2.2.2.2.1 rs0.2.2.2.2.2.2.2.2.2.2.2.2.2 ++ wd_ThumbCoreModel cI cB cZ b1 b2 b3 b4 b5 b6 b7 (tsz (first L xs)) rs0.2.2.2.1 rs0.2.2.2.2.1 rs0.2.2.2.2.2.1 rs0.2.2.2.2.2.2.1 0 false 0 0 false rs0.2.2.2.2.2.2.2.2.2.2.1 rs0.1 rs0.2.1 rs0.2.2.2.2.2.2.2.2.2.2.2.2.2 rs0.2.2.2.2.2.2.2.2.2.2.2.1 rs0.2.2.2.2.2.2.2.2.2.2.2.2.1 rs0.2.2.2.2.2.2.2.2.2.1 (byt (fun _ => 0)) rs0.2.2.1 (fun _ => 0) (bt rs0.2.2.2.2.2.2.2.1) (bt rs0.2.2.2.2.2.2.2.2.1) pr0) := by
    rw [lw_byt0]
    exact hD
  exact lw_loop p l e s m below meth c _ b D cI cB cZ a1 a2 a3 a4 a5 a6 a7 a8 b1 b2 b3 b4 b5 b6 b7 (tsz (first L xs)) (tsn (first L xs)) hL ⟨hx, hb, hml, hown, hts, hX, hbl, hK, hN, hZ, tsz_mem _⟩ E 513 1 (by decide) (by omega) H locs ls _ _ _ _ _ _ _ _ _ _ _ _ _ _ _ _ _ _ _ _ _ _ _ hP hD hS (lv_sub hl [3, 2, 1, 0] rfl) (iv_reset _ _ _ _ _ _ _ _ _ _ _ _ _ _ _)
set_option maxHeartbeats 4000000 in
theorem lw_walk (l : Launch) (b : Addr) (xs : List Int32) : MetFree l x (headSpec (Jvm.Cond.code x code maxLocals ret :: tables_1) room_1) (lw_P b xs) (fun _ _ _ _ _ => True) lw_Q := by
  refine MetFree.of_bodyS (code := code) (maxLocals := maxLocals) (ret := ret) (by decide) ?_ ?_
  · intro args s m h hn
    obtain ⟨meth, c, h1, h2, h3, h4, h5, h6, -, -⟩ := Cond.code_spec hn (atoms_spec (ws := Jvm.Cond.code x code maxLocals ret :: tables_1) h _ List.mem_cons_self)
    exact ⟨meth, c, h1, h2, h3, h4, h5, h6⟩
  · intro p e s m args below meth c s₁ B hml0 hP _
    obtain ⟨rfl, hx, hbd, hgv⟩ := hP
    obtain ⟨scr, harrAt, hlist, hof, hsmall⟩ := hx
    obtain ⟨hcb, hkn, -, -⟩ := State.arrayAt?_spec harrAt
    have hown : s.vm.findClass R_law = some m.cls := findClass_of_methodNamed B.named
    have hts0 : ∀ c ∈ (Jvm.Cond.code x code maxLocals ret :: tables_1), c.before #[Value.ref b] s = true := atoms_spec (ws := Jvm.Cond.code x code maxLocals ret :: tables_1) B.pre
    have hts : ∀ w ∈ lw_tbl, w.before #[Value.ref b] s = true := k2_hts_sels lw_privs (fun w hw => hts0 w (List.mem_cons_of_mem _ hw)) lw_privs_ok
    have hml : c.maxLocals = 4 := B.maxLocals_eq (hts0 _ List.mem_cons_self)
    have X₀ : Stand p l e room_1 s m #[Value.ref b] below meth c s₁ [] 0 0 := Stand.of_body B
    have hh0 : s₁.heap = s.heap := by rw [B.state]; rfl
    have hsz : scr.slots.size = xs.length := by rw [← Array.length_toList, hlist, List.length_map]
    have hval : ∀ j : Nat, j < xs.length → scr.slots[j]? = some (.int (xs.getD j 0)) := fun j hj => by
      rw [← Array.getElem?_toList, hlist]
      simp [hj]
    have hbl : b < s.heap.size := (Array.getElem?_eq_some_iff.mp hcb).1
    have hX : va_X b xs.length (fun j => xs.getD j 0) s s.heap := ⟨scr, hcb, hof, hkn, hsz, hval⟩
    have K : W p l e room_1 s m #[Value.ref b] below meth c s₁.heap [] 0 0 (lw_Z below #[Value.ref b] s) (entryFrame m ([Value.ref b] : List Value).toArray 4) := by
      rw [hh0]
      exact whole_start l hbd ⟨B.exec, B.bytes, B.returns, hml, hown, hts, hX, hbl, B.notSynchronized, hgv⟩
    obtain ⟨t, a1, o, b1, b2, b3⟩ := K s₁ rfl X₀
    exact ⟨t, o, a1, b1, b2, b3⟩
theorem lw_pre_spec {args : Array Value} {s : State} (h : (Jvm.Cond.and given_1 narrow_1).before args s = true) (hr : rest_1_c.before args s = true) : ∃ (b : Addr) (xs : List Int32), lw_P b xs args s := by
  have hs := flat_of_before _ h
  have hq := flat_of_before _ hr
  have hc : (Cond.count 1).before args s = true := hs _ (by decide +kernel)
  have harr : (Cond.arrayOf (.arg 0) .int).before args s = true := hs _ (by decide +kernel)
  have hle : (Cond.le (.length (.arg 0)) (.int 2049)).before args s = true := hs _ (by decide +kernel)
  have hlen : (Cond.isInt (.length (.arg 0))).before args s = true := hq _ (by decide +kernel)
  have hall : (Cond.all (.arg 0) (.isInt (.elem (.arg 0) (.index 0)))).before args s = true := hq _ (by decide +kernel)
  obtain ⟨b, xs, hb, hx⟩ := State.ints_of_pre rfl harr hlen hall
  have hsm : xs.length < 2 ^ 31 := hx.choose_spec.2.2.2
  have hev : (Term.length (.arg 0)).eval args s none [] s = some (.int xs.length.toInt32) := hx.length_eval hb
  have hv := Cond.le_ints hev (show (Term.int 2049).eval args s none [] s = some (.int 2049) from rfl)
  have hd : xs.length.toInt32 ≤ 2049 := by
    simpa [Cond.before, Cond.holds, hv] using hle
  have hN : xs.length ≤ 2049 := (Int32.ofNat_le_ofNat hsm (by decide)).mp (show Int32.ofNat xs.length ≤ Int32.ofNat 2049 from hd)
  exact ⟨b, xs, Cond.one_arg hc (show args[0]? = some (.ref b) from hb), hx, hN, h⟩
theorem lw_comes (l : Launch) : Comes l x (Jvm.Cond.code x code maxLocals ret :: tables_1) room_1 (fun tb e args s => Calls_1 tb e args s ∧ rest_1 tb e args s ∧ Pre_1 tb e args s)
    (fun _ _ args s o t => lw_Q args s o t) := by
  intro p e ha hc hk s m args below hf hfit hheap happ hpre
  obtain ⟨b, xs, hP⟩ := lw_pre_spec hpre.2.2 hpre.2.1
  obtain ⟨k, o, h1, h2, h3, hQ⟩ := lw_walk l b xs p e ha hc hk s m args below hf ((Spec.applies_iff_loose hf).mp happ).1 hP trivial
  exact ⟨k, o, h1, h2, h3, hQ⟩
theorem lw_frame {s t : State} {o : Outcome} {args : Array Value} (h : Framed s o t [] 600000 7302250) :
    Framed s o t (fieldLocs frame_1_writes args s ++ arrayLocs frame_1_arrays args s ++ staticLocs frame_1_statics s) 600000 7302250 := h
theorem lw_limb (L : Cond) (hL : ∀ (args : Array Value) (s t : State), L.after args s (.returned (some (.int 1))) t = true) :
    ArmFor flags0 classFile x code maxLocals ret World_1 tables_1 room_1 Calls_1 rest_1 Pre_1
      (fun tb e a s o t => postC L tb e a s o t ∧ Framed s o t (fieldLocs frame_1_writes a s ++ arrayLocs frame_1_arrays a s ++ staticLocs frame_1_statics s) 600000 7302250) := by
  intro l _ _ _ p e ha hc hk s m args below hf hfit hheap happ hpre
  obtain ⟨k, o, h1, h2, h3, rfl, hF⟩ := lw_comes l p e ha hc hk s m args below hf hfit hheap happ hpre
  exact ⟨k, _, h1, h2, h3, hL args s _, lw_frame hF⟩
theorem i_vc : Claimed_1_1 ∧ Claimed_1_2 := ⟨lw_limb limb_1_1 (fun args s t => by simp [limb_1_1, Cond.after, Cond.holds, Cond.value]), lw_limb limb_1_2 (fun args s t => Cond.after_iff.mpr (by
  first | (rw [show limb_1_2 = Cond.eq .result (.int 1) from rfl, Cond.eq_ints (x := 1) (y := 1) rfl rfl]; simp; done) | (simp [limb_1_2, Cond.value, Term.eval]; done)))⟩


/-- what a constructor leaves: u names what it made -/
def tc_Qn {S : Type} (D : va_G) (cl : List vw_C) (ws : va_W) (sz : Nat) (wn : S → va_W) : Array Value → State → Outcome → State → Prop := va_Qv (fun _ : S => True) (fun u t => va_P D cl (wn u) t.heap ∧ va_D (va_A ws sz) (wn u)) (va_A ws sz)
theorem tc_mu_n {S : Type} {l : Launch} {y : MethodName} {cc : ByteArray} {maxL mc ms : Nat} {rm : Room} {D : va_G} {cl : List vw_C} {ty : List (ClassId × FieldType)} {ws : va_W} {sz : Nat} {av : List Value} {zl : Option Nat} {wn : S → va_W} (hy : plainName y.cls = true) (hlen : (lg_sl av).length ≤ maxL)
    (body : ∀ (p : Program) (e : Env) (s : State) (m : MethodId) (below : List Frame) (meth : Method) (c : Code) (A : Nat → Prop) (Q : State → Prop) (ls : Array Slot), p.tables.exec = Jvm.exec → c.code = cc → c.maxLocals = maxL → (∀ w ∈ tcb, w.before av.toArray s = true) → s.vm.findClass y.cls = some m.cls → meth.name = y.name → va_K D cl ty s → tc_NN s → va_P D cl ws s.heap → va_D A ws → (∀ q : Nat, s.heap.size ≤ q → A q) → tc_Z zl A s s.heap → lv_has ls maxL (lv_args 0 av) →
      (∀ (H : Heap) (locs : List Loc) (ls : Array Slot) (pc : Nat) (u : S), decode cc pc = .ok (.return_, 1) → va_P D cl (wn u) H → va_D A (wn u) → va_S A s.heap H locs → W p l e rm s m av.toArray below meth c H locs mc ms Q (F0 m pc ls [])) → W p l e rm s m av.toArray below meth c s.heap [] 0 0 Q (F0 m 0 ls [])) :
    Met l y (.code y cc maxL none :: tcb) rm (tc_Pw D cl ty ws sz av zl) (tc_Qn D cl ws sz wn) mc ms (va_A ws sz) := by
  refine Met.ofW (cc := cc) (maxL := maxL) (ret := none) hy rfl ?_
  intro p e s m args below meth c s₁ B hml hv
  obtain ⟨rfl, hsz, hP, hK, hD0, hN, hZ⟩ := hv
  subst hsz
  have hl := lv_entry av (n := maxL) hlen
  rw [lg_entry_eq]
  refine body p e s m below meth c (va_A ws s.heap.size) _ _ B.exec B.bytes hml (fun w h => atoms_spec (ws := .code y cc maxL none :: tcb) B.pre w (List.mem_cons_of_mem _ h)) (findClass_of_methodNamed B.named) (name_of_methodNamed B.named B.method).1 hK hN hP (hD0.self (sz := s.heap.size)) (fun q h => Or.inr h) hZ hl ?_
  intro H locs ls pc u hd hP hD hS
  exact W.vret B.exec B.bytes B.returns (fun t ht hW => ⟨⟨u, rfl, trivial, by rw [ht]; exact hP, hD⟩, hS.F ht⟩) hS.2.2 hd B.notSynchronized
theorem tc_preI {s : State} {H : Heap} {D : va_G} {cl : List vw_C} {ty : List (ClassId × FieldType)} {ws wc : va_W} {A : Nat → Prop} {av : List Value} (hK : va_K D cl ty s) (hN : tc_NN s) (hP : va_P D cl ws H) (hD : va_D A ws) (isC : List Nat) (hC : isC.map (fun i => ws[i]?) = wc.map some) (hn : va_nd isC = true) : PreS s H (tc_Pw D cl ty wc H.size av none) av :=
  ⟨tc_blind, fun U hU hW => ⟨rfl, by rw [hU], by rw [hU]; exact hP.sub isC (tc_fm isC hC), va_K.moved hW.alike hK, (hD.sub isC hn hC).weaken (fun _ _ _ _ => trivial), tc_NN.warm hW hN, trivial⟩⟩
theorem tc_gI {n : Nat} {y : MethodName} {b : ByteArray} {r : Option FieldType} (h5 : Cond.code y b n r ∈ tcb) : GoodIn tcb (.code y b n r :: tcb) := by
  intro w hw
  rcases List.mem_cons.mp hw with rfl | h
  · exact tc_gd _ h5
  · exact tc_gd _ h
section TCN
variable {p : Program} {l : Launch} {e : Env} {R : Room} {s : State} {m : MethodId} {args : Array Value} {below : List Frame} {meth : Method} {c : Code} {H : Heap} {locs : List Loc} {cells slots : Nat} {Q : State → Prop}
variable {pc : Nat} {ls : Array Slot} {rest st0 : List Value} {a : Array Value} {A : Nat → Prop} {H0 : Heap} {D : va_G} {cl : List vw_C} {cc : ByteArray}
/-- behind a constructor -/
theorem tc_mn {S : Type} {mc ms : Nat} {ws wc : va_W} {wn wo : S → va_W}
    (hr : va_Run p l e R s m args below meth c H locs cells slots mc ms (F0 m pc ls st0) rest (tc_Qn D cl wc H.size wn a) (va_A wc H.size))
    (hP : va_P D cl ws H) (hD : va_D A ws) (hS : va_S A H0 H locs) (hA : ∀ q : Nat, H0.size ≤ q → A q) (isC isR isO : List Nat)
    (hC : isC.map (fun i => ws[i]?) = wc.map some) (hR : isR.map (fun i => ws[i]?) = (isR.filterMap (fun i => ws[i]?)).map some) (hn : va_nd isR = true) (hdis : ∀ i ∈ isR, i ∉ isC)
    (hno : va_nd isO = true) (ho : ∀ u, isO.map (fun i => (isR.filterMap (fun i => ws[i]?) ++ wn u)[i]?) = (wo u).map some)
    (kk : ∀ (u : S) (H1 : Heap) (locs1 : List Loc), va_P D cl (wo u) H1 → va_D A (wo u) → va_S A H0 H1 locs1 → W p l e R s m args below meth c H1 locs1 (cells + mc) (slots + ms) Q (F0 m (pc + 3) ls rest)) : W p l e R s m args below meth c H locs cells slots Q (F0 m pc ls st0) := by
  have hFc := va_free (wc := wc) hD hS hA isC hC
  refine va_callv hr hS (fun q _ h => hFc q h) hFc (fun u t H1 locs1 ht hvm hw hB hz1 hk1 hS => ?_)
  obtain ⟨hP1, hD1⟩ := hB
  rw [ht] at hP1
  obtain ⟨hP2, hD2⟩ := va_join hP hD isC isR hC hR hn hdis hk1 hFc hP1 hD1
  exact kk u H1 locs1 (hP2.sub isO (tc_fm isO (ho u))) (hD2.sub isO hno (ho u)) hS
end TCN
theorem tc_arI {s : State} {D : va_G} {cl : List vw_C} {cI cB cZ cA : ClassId} (h : va_K D cl (tys cI cB cZ ++ [(cA, .int)]) s) : cA = cI := Option.some.inj ((va_nm_int (h.2 3 _ rfl).2).symm.trans (va_nm_int (h.2 0 _ rfl).2))
theorem tc_arB {s : State} {D : va_G} {cl : List vw_C} {cI cB cZ cA : ClassId} (h : va_K D cl (tys cI cB cZ ++ [(cA, .byte)]) s) : cA = cB := Option.some.inj ((va_nm_byte (h.2 3 _ rfl).2).symm.trans (va_nm_byte (h.2 1 _ rfl).2))
theorem tc_arZ {s : State} {D : va_G} {cl : List vw_C} {cI cB cZ cA : ClassId} (h : va_K D cl (tys cI cB cZ ++ [(cA, .boolean)]) s) : cA = cZ := Option.some.inj ((va_nm_boolean (h.2 3 _ rfl).2).symm.trans (va_nm_boolean (h.2 2 _ rfl).2))
theorem tc_div {x : Int32} {n : Nat} (h : tc_mem x n) : x / 4 = nI n := by
  obtain ⟨h1, h2, h3⟩ := h
  obtain ⟨j, hj, rfl⟩ := nI_of (x := x) (tc_nn (by omega))
  rw [nI_toInt hj] at h1
  have e : j = 4 * n := by omega
  subst e
  have all : ∀ n : Fin 513, nI (4 * n.val) / 4 = nI n.val := by decide +kernel
  exact all ⟨n, by omega⟩

abbrev rm_Flags_init : Room := { frames := 1, cells := 0, slots := 0, locals := 12 }
set_option maxHeartbeats 4000000 in
set_option maxRecDepth 100000 in
theorem c_Flags_init (l : Launch) (D : va_G) (cI cB cZ : ClassId) (h sz : Nat) : Met l y_Flags_init (.code y_Flags_init b_Flags_init 1 none :: tcb) rm_Flags_init (tc_Pw D tcl (tys cI cB cZ) (wd_Flags cI cB cZ h false false false false) sz ([.ref h] : List Value) none) (tc_Qn D tcl (wd_Flags cI cB cZ h false false false false) sz (fun u : Unit => (wd_Flags cI cB cZ h false false false false))) 0 0 (va_A (wd_Flags cI cB cZ h false false false false) sz) := by
  refine tc_mu_n (by decide) (Nat.le_of_ble_eq_true rfl) ?_
  intro p e s m below meth c A Q ls hx hb hml hts hown hin hK hN hP hD hA hZ hl RET
  have hS : va_S A s.heap s.heap [] := va_S.rf
  have hl : lv_has ls 1 [(0, .ref h)] := hl
  refine lv_aload_n hx hb d_Flags_init_0 rfl (lv_at hl 0 rfl) ?_
  refine W.objInit hx hb hown (hts _ wl_Flags_1) (hts _ wm_Object_init) (hts _ wc_Object_init) rfl (by rw [hml]; exact hl.1) rfl d_Flags_init_1 (Nat.le_of_ble_eq_true rfl) (Nat.le_of_ble_eq_true rfl) ?_
  refine W.eq (g2 := F0 m 4 ls []) rfl ?_
  exact RET _ _ _ 4 () d_Flags_init_4 hP hD hS
abbrev rm_Counter_init : Room := { frames := 1, cells := 0, slots := 0, locals := 12 }
set_option maxHeartbeats 4000000 in
set_option maxRecDepth 100000 in
theorem c_Counter_init (l : Launch) (D : va_G) (cI cB cZ : ClassId) (h sz : Nat) : Met l y_Counter_init (.code y_Counter_init b_Counter_init 1 none :: tcb) rm_Counter_init (tc_Pw D tcl (tys cI cB cZ) (wd_Counter cI cB cZ h 0 0 false) sz ([.ref h] : List Value) none) (tc_Qn D tcl (wd_Counter cI cB cZ h 0 0 false) sz (fun u : Unit => (wd_Counter cI cB cZ h 0 0 false))) 0 0 (va_A (wd_Counter cI cB cZ h 0 0 false) sz) := by
  refine tc_mu_n (by decide) (Nat.le_of_ble_eq_true rfl) ?_
  intro p e s m below meth c A Q ls hx hb hml hts hown hin hK hN hP hD hA hZ hl RET
  have hS : va_S A s.heap s.heap [] := va_S.rf
  have hl : lv_has ls 1 [(0, .ref h)] := hl
  refine lv_aload_n hx hb d_Counter_init_0 rfl (lv_at hl 0 rfl) ?_
  refine W.objInit hx hb hown (hts _ wl_Counter_1) (hts _ wm_Object_init) (hts _ wc_Object_init) rfl (by rw [hml]; exact hl.1) rfl d_Counter_init_1 (Nat.le_of_ble_eq_true rfl) (Nat.le_of_ble_eq_true rfl) ?_
  refine W.eq (g2 := F0 m 4 ls []) rfl ?_
  exact RET _ _ _ 4 () d_Counter_init_4 hP hD hS
abbrev rm_Memory_init : Room := { frames := 1, cells := 1, slots := 512, locals := 12 }
set_option maxHeartbeats 4000000 in
set_option maxRecDepth 100000 in
theorem c_Memory_init (l : Launch) (D : va_G) (cI cB cZ : ClassId) (h sz : Nat) (x : Int32) (nw : Nat) (hm : tc_mem x nw) : Met l y_Memory_init (.code y_Memory_init b_Memory_init 2 none :: tcb) rm_Memory_init (tc_Pw D tcl (tys cI cB cZ) [(h, .inr (3, [.int 0, .null]))] sz ([.ref h, .int x] : List Value) none) (tc_Qn D tcl [(h, .inr (3, [.int 0, .null]))] sz (fun u : Nat => (wd_Memory cI cB cZ h u x nw (fun _ => 0)))) 1 512 (va_A [(h, .inr (3, [.int 0, .null]))] sz) := by
  refine tc_mu_n (by decide) (Nat.le_of_ble_eq_true rfl) ?_
  intro p e s m below meth c A Q ls hx hb hml hts hown hin hK hN hP hD hA hZ hl RET
  have hS : va_S A s.heap s.heap [] := va_S.rf
  have hl : lv_has ls 2 [(0, .ref h), (1, .int x)] := hl
  have hn512 : nw ≤ 512 := hm.2.2
  refine lv_aload_n hx hb d_Memory_init_0 rfl (lv_at hl 0 rfl) ?_
  refine W.objInit hx hb hown (hts _ wl_Memory_1) (hts _ wm_Object_init) (hts _ wc_Object_init) rfl (by rw [hml]; exact hl.1) rfl d_Memory_init_1 (Nat.le_of_ble_eq_true rfl) (Nat.le_of_ble_eq_true rfl) ?_
  refine W.eq (g2 := F0 m 4 ls []) rfl ?_
  refine lv_aload_n hx hb d_Memory_init_4 rfl (lv_at hl 0 rfl) ?_
  refine lv_iload_n hx hb d_Memory_init_5 rfl (lv_at hl 1 rfl) ?_
  refine va_putF (D := D) (ci := 3) (v := .int x) (ty := .int) (C := R_Memory) (T := F_Memory) (N := 2) hx hb hts u_Memory t_Memory t_Memory_ok n_Memory hown hK hP hD hS 0 rfl rfl 0 (by decide) (hts _ wf_Memory_7) (fun _ h9 => h9) rfl hin rfl (by decide +kernel) rfl rfl (Nat.le_of_ble_eq_true rfl) d_Memory_init_6 (fun H locs hP hD hS => ?_)
  have hP : va_P D tcl [(h, .inr (3, [.int x, .null]))] H := hP
  have hD : va_D A [(h, .inr (3, [.int x, .null]))] := hD
  refine lv_aload_n hx hb d_Memory_init_9 rfl (lv_at hl 0 rfl) ?_
  refine lv_iload_n hx hb d_Memory_init_10 rfl (lv_at hl 1 rfl) ?_
  refine lv_iconst (v := 4) hx hb d_Memory_init_11 (by decide) ?_
  refine lv_idiv hx hb d_Memory_init_12 (by decide) ?_
  rw [tc_div hm]
  refine va_newa (atype := .int) (a0 := (nw, .inl (fun _ => 0))) hx hb (hts _ wa_int) rfl hK hP hD hS hA (fun _ => rfl) (nI_pos (by omega)) (nI_clamp (by omega)) (by show nw * 4 ≤ _; omega) (by decide) (by show 0 + nw ≤ 512; omega) d_Memory_init_13 (fun q cA H hK2 hP hD hS => ?_)
  rw [tc_arI hK2] at hP hD
  have hP : va_P D tcl [(h, .inr (3, [.int x, .null])), (q, .inl (cI, nw, .inl (fun _ => 0)))] H := hP
  have hD : va_D A [(h, .inr (3, [.int x, .null])), (q, .inl (cI, nw, .inl (fun _ => 0)))] := hD
  refine va_putF (D := D) (ci := 3) (v := .ref q) (ty := .array .int) (C := R_Memory) (T := F_Memory) (N := 2) hx hb hts u_Memory t_Memory t_Memory_ok n_Memory hown hK hP hD hS 0 rfl rfl 1 (by decide) (hts _ wf_Memory_13) (fun _ h9 => h9) rfl hin rfl (by decide +kernel) rfl rfl (Nat.le_of_ble_eq_true rfl) d_Memory_init_15 (fun H locs hP hD hS => ?_)
  have hP : va_P D tcl (wd_Memory cI cB cZ h q x nw (fun _ => 0)) H := hP
  have hD : va_D A (wd_Memory cI cB cZ h q x nw (fun _ => 0)) := hD
  refine W.widen (k := 1) (n := 512) (by omega) (by omega) ?_
  exact RET _ _ _ 18 q d_Memory_init_18 hP hD hS
/-- the priorities of a new object -/
def pr0 : Nat → Int32 := upd (upd (fun _ => 0) (2 : Int32).toNatClampNeg (-2)) (3 : Int32).toNatClampNeg (-1)
abbrev rm_Exceptions_init : Room := { frames := 1, cells := 1, slots := 16, locals := 12 }
set_option maxHeartbeats 4000000 in
set_option maxRecDepth 100000 in
theorem c_Exceptions_init (l : Launch) (D : va_G) (cI cB cZ : ClassId) (h sz : Nat) : Met l y_Exceptions_init (.code y_Exceptions_init b_Exceptions_init 1 none :: tcb) rm_Exceptions_init (tc_Pw D tcl (tys cI cB cZ) [(h, .inr (1, [.null, .int 0, .int 0, .int 0, .int (bI false)]))] sz ([.ref h] : List Value) none) (tc_Qn D tcl [(h, .inr (1, [.null, .int 0, .int 0, .int 0, .int (bI false)]))] sz (fun u : Nat => (wd_Exceptions cI cB cZ h u 0 0 0 false pr0))) 1 16 (va_A [(h, .inr (1, [.null, .int 0, .int 0, .int 0, .int (bI false)]))] sz) := by
  refine tc_mu_n (by decide) (Nat.le_of_ble_eq_true rfl) ?_
  intro p e s m below meth c A Q ls hx hb hml hts hown hin hK hN hP hD hA hZ hl RET
  have hS : va_S A s.heap s.heap [] := va_S.rf
  have hl : lv_has ls 1 [(0, .ref h)] := hl
  refine lv_aload_n hx hb d_Exceptions_init_0 rfl (lv_at hl 0 rfl) ?_
  refine W.objInit hx hb hown (hts _ wl_Exceptions_3) (hts _ wm_Object_init) (hts _ wc_Object_init) rfl (by rw [hml]; exact hl.1) rfl d_Exceptions_init_1 (Nat.le_of_ble_eq_true rfl) (Nat.le_of_ble_eq_true rfl) ?_
  refine W.eq (g2 := F0 m 4 ls []) rfl ?_
  refine lv_aload_n hx hb d_Exceptions_init_4 rfl (lv_at hl 0 rfl) ?_
  refine lv_bipush (v := 16) hx hb d_Exceptions_init_5 (by decide) ?_
  refine va_newa (atype := .int) (a0 := (16, .inl (fun _ => 0))) hx hb (hts _ wa_int) rfl hK hP hD hS hA (fun _ => rfl) (by decide) (by decide) (by decide) (by decide) (by decide) d_Exceptions_init_7 (fun q cA H hK2 hP hD hS => ?_)
  rw [tc_arI hK2] at hP hD
  have hP : va_P D tcl [(h, .inr (1, [.null, .int 0, .int 0, .int 0, .int (bI false)])), (q, .inl (cI, 16, .inl (fun _ => 0)))] H := hP
  have hD : va_D A [(h, .inr (1, [.null, .int 0, .int 0, .int 0, .int (bI false)])), (q, .inl (cI, 16, .inl (fun _ => 0)))] := hD
  refine va_putF (D := D) (ci := 1) (v := .ref q) (ty := .array .int) (C := R_Exceptions) (T := F_Exceptions) (N := 5) hx hb hts u_Exceptions t_Exceptions t_Exceptions_ok n_Exceptions hown hK hP hD hS 0 rfl rfl 0 (by decide) (hts _ wf_Exceptions_11) (fun _ h9 => h9) rfl hin rfl (by decide +kernel) rfl rfl (Nat.le_of_ble_eq_true rfl) d_Exceptions_init_9 (fun H locs hP hD hS => ?_)
  have hP : va_P D tcl (wd_Exceptions cI cB cZ h q 0 0 0 false (fun _ => 0)) H := hP
  have hD : va_D A (wd_Exceptions cI cB cZ h q 0 0 0 false (fun _ => 0)) := hD
  refine lv_aload_n hx hb d_Exceptions_init_12 rfl (lv_at hl 0 rfl) ?_
  refine va_get (D := D) (ci := 1) (v := .ref q) (C := R_Exceptions) (T := F_Exceptions) (N := 5) hx hb hts u_Exceptions hown hK hP 0 rfl rfl 0 (by decide) (hts _ wf_Exceptions_11) (fun _ h9 => h9) rfl d_Exceptions_init_13 ?_
  refine lv_iconst (v := 2) hx hb d_Exceptions_init_16 (by decide) ?_
  refine lv_bipush (v := (-2)) hx hb d_Exceptions_init_17 (by decide) ?_
  refine va_iast hx hb hK hP hD hS 1 0 rfl rfl (by show ¬ (_ ∨ _); decide) d_Exceptions_init_19 (fun H locs hP hD hS => ?_)
  have hP : va_P D tcl (wd_Exceptions cI cB cZ h q 0 0 0 false (upd (fun _ => 0) (2 : Int32).toNatClampNeg (-2))) H := hP
  have hD : va_D A (wd_Exceptions cI cB cZ h q 0 0 0 false (upd (fun _ => 0) (2 : Int32).toNatClampNeg (-2))) := hD
  refine lv_aload_n hx hb d_Exceptions_init_20 rfl (lv_at hl 0 rfl) ?_
  refine va_get (D := D) (ci := 1) (v := .ref q) (C := R_Exceptions) (T := F_Exceptions) (N := 5) hx hb hts u_Exceptions hown hK hP 0 rfl rfl 0 (by decide) (hts _ wf_Exceptions_11) (fun _ h9 => h9) rfl d_Exceptions_init_21 ?_
  refine lv_iconst (v := 3) hx hb d_Exceptions_init_24 (by decide) ?_
  refine lv_iconst (v := (-1)) hx hb d_Exceptions_init_25 (by decide) ?_
  refine va_iast hx hb hK hP hD hS 1 0 rfl rfl (by show ¬ (_ ∨ _); decide) d_Exceptions_init_26 (fun H locs hP hD hS => ?_)
  have hP : va_P D tcl (wd_Exceptions cI cB cZ h q 0 0 0 false pr0) H := hP
  have hD : va_D A (wd_Exceptions cI cB cZ h q 0 0 0 false pr0) := hD
  exact RET _ _ _ 27 q d_Exceptions_init_27 hP hD hS
/-- how many bytes there are -/
def tsz (x : Int32) : Int32 := if 128 < (if (x &&& (-4)) < 2048 then (x &&& (-4)) else 2048) then (if (x &&& (-4)) < 2048 then (x &&& (-4)) else 2048) else 128
def tsn (x : Int32) : Nat := (tsz x).toInt.toNat / 4
theorem tsz_mem (x : Int32) : tc_mem (tsz x) (tsn x) := by
  have h4 : ((x &&& (-4)) &&& 3) = 0 := m4_and (by decide)
  have e128 : (128 : Int32).toInt = 128 := by decide
  have e2048 : (2048 : Int32).toInt = 2048 := by decide
  have key : ∀ y : Int32, (y &&& 3) = 0 → 128 ≤ y.toInt → y.toInt ≤ 2048 → tc_mem y (y.toInt.toNat / 4) := by
    intro y hy h1 h2
    obtain ⟨j, hj, rfl⟩ := nI_of (x := y) (tc_nn (by omega))
    rw [nI_toInt hj] at h1 h2
    have e : j % 4 = 0 := by
      rw [m4_iff] at hy
      have e2 : (nI j).toBitVec.toNat = j := by
        show (BitVec.ofNat 32 j).toNat = j
        rw [BitVec.toNat_ofNat]
        omega
      rw [e2] at hy
      exact hy
    unfold tc_mem
    rw [nI_toInt hj]
    omega
  unfold tsn
  unfold tsz
  by_cases g : (x &&& (-4)) < 2048
  · rw [if_pos g]
    rw [Int32.lt_iff_toInt_lt, e2048] at g
    by_cases g2 : 128 < (x &&& (-4))
    · rw [if_pos g2]
      rw [Int32.lt_iff_toInt_lt, e128] at g2
      exact key _ h4 (by omega) (by omega)
    · rw [if_neg g2]
      exact key _ (by decide) (by decide) (by decide)
  · rw [if_neg g, if_pos (by decide)]
    exact key _ (by decide) (by decide) (by decide)

theorem tsz_a {x : Int32} (g : ¬ 128 ≤ (x &&& (-4))) : 128 = tsz x := by
  have e128 : (128 : Int32).toInt = 128 := by decide
  have e2048 : (2048 : Int32).toInt = 2048 := by decide
  rw [Int32.le_iff_toInt_le, e128] at g
  have h1 : (x &&& (-4)) < 2048 := by rw [Int32.lt_iff_toInt_lt, e2048]; omega
  have h2 : ¬ 128 < (x &&& (-4)) := by rw [Int32.lt_iff_toInt_lt, e128]; omega
  unfold tsz
  rw [if_pos h1, if_neg h2]
theorem tsz_b {x : Int32} (g : 128 ≤ (x &&& (-4))) (g2 : (x &&& (-4)) ≤ 2048) : (x &&& (-4)) = tsz x := by
  have e128 : (128 : Int32).toInt = 128 := by decide
  have e2048 : (2048 : Int32).toInt = 2048 := by decide
  unfold tsz
  by_cases h : (x &&& (-4)) < 2048
  · rw [if_pos h]
    by_cases h2 : 128 < (x &&& (-4))
    · rw [if_pos h2]
    · rw [if_neg h2]
      rw [Int32.le_iff_toInt_le, e128] at g
      rw [Int32.lt_iff_toInt_lt, e128] at h2
      rw [← Int32.toInt_inj, e128]
      omega
  · have e : (x &&& (-4)) = 2048 := by
      rw [Int32.le_iff_toInt_le, e2048] at g2
      rw [Int32.lt_iff_toInt_lt, e2048] at h
      rw [← Int32.toInt_inj, e2048]
      omega
    rw [if_neg h, if_pos (by decide), e]
theorem tsz_c {x : Int32} (g2 : ¬ (x &&& (-4)) ≤ 2048) : 2048 = tsz x := by
  have e2048 : (2048 : Int32).toInt = 2048 := by decide
  rw [Int32.le_iff_toInt_le, e2048] at g2
  have h : ¬ (x &&& (-4)) < 2048 := by rw [Int32.lt_iff_toInt_lt, e2048]; omega
  unfold tsz
  rw [if_neg h, if_pos (by decide)]
def rs0 : Bool × Bool × (Nat → Int32) × Bool × Bool × Bool × Bool × Int32 × Int32 × Int32 × Bool × Int32 × Int32 × Bool := f_ThumbCore_reset (fun _ => 0) false false (fun _ => 0) false false false false 0 0 0 false 0 0 false
abbrev rm_ThumbCore_init : Room := { frames := 3, cells := 7, slots := 558, locals := 67 }
set_option maxHeartbeats 4000000 in
set_option maxRecDepth 100000 in
theorem c_ThumbCore_init (l : Launch) (D : va_G) (cI cB cZ : ClassId) (h sz : Nat) (x : Int32) : Met l y_ThumbCore_init (.code y_ThumbCore_init b_ThumbCore_init 2 none :: tcb) rm_ThumbCore_init (tc_Pw D tcl (tys cI cB cZ) [(h, .inr (4, [.null, .null, .null, .null, .null, .int (bI false), .int (bI false), .int 0]))] sz ([.ref h, .int x] : List Value) none) (tc_Qn D tcl [(h, .inr (4, [.null, .null, .null, .null, .null, .int (bI false), .int (bI false), .int 0]))] sz (fun u : Nat × Nat × Nat × Nat × Nat × Nat × Nat => (wd_ThumbCore cI cB cZ h u.1 u.2.1 u.2.2.1 u.2.2.2.1 u.2.2.2.2.1 u.2.2.2.2.2.1 u.2.2.2.2.2.2 (tsz x) (tsn x) rs0.1 rs0.2.1 0 (fun _ => 0) rs0.2.2.1 rs0.2.2.2.1 rs0.2.2.2.2.1 rs0.2.2.2.2.2.1 rs0.2.2.2.2.2.2.1 rs0.2.2.2.2.2.2.2.1 rs0.2.2.2.2.2.2.2.2.1 rs0.2.2.2.2.2.2.2.2.2.1 rs0.2.2.2.2.2.2.2.2.2.2.1 pr0 rs0.2.2.2.2.2.2.2.2.2.2.2.1 rs0.2.2.2.2.2.2.2.2.2.2.2.2.1 rs0.2.2.2.2.2.2.2.2.2.2.2.2.2))) 7 558 (va_A [(h, .inr (4, [.null, .null, .null, .null, .null, .int (bI false), .int (bI false), .int 0]))] sz) := by
  refine tc_mu_n (by decide) (Nat.le_of_ble_eq_true rfl) ?_
  intro p e s m below meth c A Q ls hx hb hml hts hown hin hK hN hP hD hA hZ hl RET
  have hS : va_S A s.heap s.heap [] := va_S.rf
  have hm : tc_mem (tsz x) (tsn x) := tsz_mem x
  have hl : lv_has ls 2 [(0, .ref h), (1, .int x)] := hl
  refine lv_aload_n hx hb d_ThumbCore_init_0 rfl (lv_at hl 0 rfl) ?_
  refine W.objInit hx hb hown (hts _ wl_ThumbCore_1) (hts _ wm_Object_init) (hts _ wc_Object_init) rfl (by rw [hml]; exact hl.1) rfl d_ThumbCore_init_1 (Nat.le_of_ble_eq_true rfl) (Nat.le_of_ble_eq_true rfl) ?_
  refine W.eq (g2 := F0 m 4 ls []) rfl ?_
  refine lv_aload_n hx hb d_ThumbCore_init_4 rfl (lv_at hl 0 rfl) ?_
  refine va_new (ci := 3) (fs := [.int 0, .null]) (C := R_Memory) (T := F_Memory) (N := 2) hx hb hts u_Memory t_Memory t_Memory_ok hown (hts _ wz_ThumbCore_7) (hts _ wn_Memory) (hts _ wi_Memory) hK hP hD hS hA rfl (fun j hj => by rcases (show j = 0 ∨ j = 1 by omega) with rfl | rfl <;> rfl) (by decide) (by decide) d_ThumbCore_init_5 (fun hM H hP hD hS => ?_)
  have hP : va_P D tcl [(h, .inr (4, [.null, .null, .null, .null, .null, .int (bI false), .int (bI false), .int 0])), (hM, .inr (3, [.int 0, .null]))] H := hP
  have hD : va_D A [(h, .inr (4, [.null, .null, .null, .null, .null, .int (bI false), .int (bI false), .int 0])), (hM, .inr (3, [.int 0, .null]))] := hD
  refine lv_dup hx hb d_ThumbCore_init_8 rfl ?_
  refine lv_sipush (v := 128) hx hb d_ThumbCore_init_9 (by decide) ?_
  refine lv_sipush (v := 2048) hx hb d_ThumbCore_init_12 (by decide) ?_
  refine lv_iload_n hx hb d_ThumbCore_init_15 rfl (lv_at hl 1 rfl) ?_
  refine lv_bipush (v := (-4)) hx hb d_ThumbCore_init_16 (by decide) ?_
  refine lv_iand hx hb d_ThumbCore_init_18 ?_
  refine va_mmin hx hb (hml.trans hl.1.symm) hown (hts _ wl_ThumbCore_9) (hts _ wt_Math_min) (hts _ wi_Math) (hts _ wc_Math_min) (Nat.le_of_ble_eq_true rfl) (Nat.le_of_ble_eq_true rfl) (Nat.le_of_ble_eq_true rfl) (Nat.le_of_ble_eq_true rfl) d_ThumbCore_init_19 ?_
  refine va_mmax hx hb (hml.trans hl.1.symm) hown (hts _ wl_ThumbCore_15) (hts _ wt_Math_max) (hts _ wi_Math) (hts _ wc_Math_max) (Nat.le_of_ble_eq_true rfl) (Nat.le_of_ble_eq_true rfl) (Nat.le_of_ble_eq_true rfl) (Nat.le_of_ble_eq_true rfl) d_ThumbCore_init_22 ?_
  refine W.eq (g2 := F0 m 25 ls [.int (tsz x), .ref hM, .ref hM, .ref h]) rfl ?_
  refine tc_mn (S := Nat) (wo := fun qW => [(h, .inr (4, [.null, .null, .null, .null, .null, .int (bI false), .int (bI false), .int 0])), (hM, .inr (3, [.int (tsz x), .ref qW])), (qW, .inl (cI, tsn x, .inl (fun _ => 0)))]) (va_runI (As := [.int (tsz x)]) (rest := [.ref hM, .ref h]) ⟨hx, hb, hml, hown, hts⟩ (c_Memory_init l D cI cB cZ hM H.size (tsz x) (tsn x) hm) (cwI 1 hts (tc_gI wc_Memory_init) rfl rfl rfl (hts _ wi_Memory) (hts _ wl_ThumbCore_18) (hts _ wm_Memory_init) rfl (by decide +kernel) ⟨(Nat.le_of_ble_eq_true rfl), (Nat.le_of_ble_eq_true rfl)⟩) (tc_preI hK hN hP hD [1] rfl (by decide)) rfl rfl hl.1 rfl (lv_room (Nat.le_of_ble_eq_true rfl)) d_ThumbCore_init_25 (by decide)) hP hD hS hA [1] [0] [0, 1, 2] rfl rfl (by decide) (by decide) (by decide) (fun _ => rfl) (fun qW H locs hP hD hS => ?_)
  have hP : va_P D tcl [(h, .inr (4, [.null, .null, .null, .null, .null, .int (bI false), .int (bI false), .int 0])), (hM, .inr (3, [.int (tsz x), .ref qW])), (qW, .inl (cI, tsn x, .inl (fun _ => 0)))] H := hP
  have hD : va_D A [(h, .inr (4, [.null, .null, .null, .null, .null, .int (bI false), .int (bI false), .int 0])), (hM, .inr (3, [.int (tsz x), .ref qW])), (qW, .inl (cI, tsn x, .inl (fun _ => 0)))] := hD
  refine va_putF (D := D) (ci := 4) (v := .ref hM) (ty := .object "ThumbCore$Memory") (C := R_ThumbCore) (T := F_ThumbCore) (N := 8) hx hb hts u_ThumbCore t_ThumbCore t_ThumbCore_ok n_ThumbCore hown hK hP hD hS 0 rfl rfl 0 (by decide) (hts _ wf_ThumbCore_21) (fun _ h9 => h9) rfl hin rfl (by decide +kernel) rfl rfl (Nat.le_of_ble_eq_true rfl) d_ThumbCore_init_28 (fun H locs hP hD hS => ?_)
  have hP : va_P D tcl [(h, .inr (4, [.ref hM, .null, .null, .null, .null, .int (bI false), .int (bI false), .int 0])), (hM, .inr (3, [.int (tsz x), .ref qW])), (qW, .inl (cI, tsn x, .inl (fun _ => 0)))] H := hP
  have hD : va_D A [(h, .inr (4, [.ref hM, .null, .null, .null, .null, .int (bI false), .int (bI false), .int 0])), (hM, .inr (3, [.int (tsz x), .ref qW])), (qW, .inl (cI, tsn x, .inl (fun _ => 0)))] := hD
  refine lv_aload_n hx hb d_ThumbCore_init_31 rfl (lv_at hl 0 rfl) ?_
  refine lv_bipush (v := 16) hx hb d_ThumbCore_init_32 (by decide) ?_
  refine va_newa (atype := .int) (a0 := (16, .inl (fun _ => 0))) hx hb (hts _ wa_int) rfl hK hP hD hS hA (fun _ => rfl) (by decide) (by decide) (by decide) (by decide) (by decide) d_ThumbCore_init_34 (fun qR cA H hK2 hP hD hS => ?_)
  rw [tc_arI hK2] at hP hD
  have hP : va_P D tcl [(h, .inr (4, [.ref hM, .null, .null, .null, .null, .int (bI false), .int (bI false), .int 0])), (hM, .inr (3, [.int (tsz x), .ref qW])), (qW, .inl (cI, tsn x, .inl (fun _ => 0))), (qR, .inl (cI, 16, .inl (fun _ => 0)))] H := hP
  have hD : va_D A [(h, .inr (4, [.ref hM, .null, .null, .null, .null, .int (bI false), .int (bI false), .int 0])), (hM, .inr (3, [.int (tsz x), .ref qW])), (qW, .inl (cI, tsn x, .inl (fun _ => 0))), (qR, .inl (cI, 16, .inl (fun _ => 0)))] := hD
  refine va_putF (D := D) (ci := 4) (v := .ref qR) (ty := .array .int) (C := R_ThumbCore) (T := F_ThumbCore) (N := 8) hx hb hts u_ThumbCore t_ThumbCore t_ThumbCore_ok n_ThumbCore hown hK hP hD hS 0 rfl rfl 1 (by decide) (hts _ wf_ThumbCore_27) (fun _ h9 => h9) rfl hin rfl (by decide +kernel) rfl rfl (Nat.le_of_ble_eq_true rfl) d_ThumbCore_init_36 (fun H locs hP hD hS => ?_)
  have hP : va_P D tcl [(h, .inr (4, [.ref hM, .ref qR, .null, .null, .null, .int (bI false), .int (bI false), .int 0])), (hM, .inr (3, [.int (tsz x), .ref qW])), (qW, .inl (cI, tsn x, .inl (fun _ => 0))), (qR, .inl (cI, 16, .inl (fun _ => 0)))] H := hP
  have hD : va_D A [(h, .inr (4, [.ref hM, .ref qR, .null, .null, .null, .int (bI false), .int (bI false), .int 0])), (hM, .inr (3, [.int (tsz x), .ref qW])), (qW, .inl (cI, tsn x, .inl (fun _ => 0))), (qR, .inl (cI, 16, .inl (fun _ => 0)))] := hD
  refine lv_aload_n hx hb d_ThumbCore_init_39 rfl (lv_at hl 0 rfl) ?_
  refine va_new (ci := 2) (fs := [.int (bI false), .int (bI false), .int (bI false), .int (bI false)]) (C := R_Flags) (T := F_Flags) (N := 4) hx hb hts u_Flags t_Flags t_Flags_ok hown (hts _ wz_ThumbCore_31) (hts _ wn_Flags) (hts _ wi_Flags) hK hP hD hS hA rfl (fun j hj => by rcases (show j = 0 ∨ j = 1 ∨ j = 2 ∨ j = 3 by omega) with rfl | rfl | rfl | rfl <;> rfl) (by decide) (by decide) d_ThumbCore_init_40 (fun qF H hP hD hS => ?_)
  have hP : va_P D tcl [(h, .inr (4, [.ref hM, .ref qR, .null, .null, .null, .int (bI false), .int (bI false), .int 0])), (hM, .inr (3, [.int (tsz x), .ref qW])), (qW, .inl (cI, tsn x, .inl (fun _ => 0))), (qR, .inl (cI, 16, .inl (fun _ => 0))), (qF, .inr (2, [.int (bI false), .int (bI false), .int (bI false), .int (bI false)]))] H := hP
  have hD : va_D A [(h, .inr (4, [.ref hM, .ref qR, .null, .null, .null, .int (bI false), .int (bI false), .int 0])), (hM, .inr (3, [.int (tsz x), .ref qW])), (qW, .inl (cI, tsn x, .inl (fun _ => 0))), (qR, .inl (cI, 16, .inl (fun _ => 0))), (qF, .inr (2, [.int (bI false), .int (bI false), .int (bI false), .int (bI false)]))] := hD
  refine lv_dup hx hb d_ThumbCore_init_43 rfl ?_
  refine tc_mn (S := Unit) (wo := fun _ => [(h, .inr (4, [.ref hM, .ref qR, .null, .null, .null, .int (bI false), .int (bI false), .int 0])), (hM, .inr (3, [.int (tsz x), .ref qW])), (qW, .inl (cI, tsn x, .inl (fun _ => 0))), (qR, .inl (cI, 16, .inl (fun _ => 0))), (qF, .inr (2, [.int (bI false), .int (bI false), .int (bI false), .int (bI false)]))]) (va_runIN (As := []) (rest := [.ref qF, .ref h]) ⟨hx, hb, hml, hown, hts⟩ (c_Flags_init l D cI cB cZ qF H.size) ⟨va_cnB 0 hts (tc_gI wc_Flags_init) rfl rfl rfl (hN _ wl_ThumbCore_33) (hts _ wi_Flags) (by decide +kernel) ⟨(Nat.le_of_ble_eq_true rfl), (Nat.le_of_ble_eq_true rfl)⟩, rfl, hts _ wm_Flags_init⟩ (tc_preI hK hN hP hD [4] rfl (by decide)) rfl rfl hl.1 rfl (lv_room (Nat.le_of_ble_eq_true rfl)) d_ThumbCore_init_44 (by decide)) hP hD hS hA [4] [0, 1, 2, 3] [0, 1, 2, 3, 4] rfl rfl (by decide) (by decide) (by decide) (fun _ => rfl) (fun _ H locs hP hD hS => ?_)
  have hP : va_P D tcl [(h, .inr (4, [.ref hM, .ref qR, .null, .null, .null, .int (bI false), .int (bI false), .int 0])), (hM, .inr (3, [.int (tsz x), .ref qW])), (qW, .inl (cI, tsn x, .inl (fun _ => 0))), (qR, .inl (cI, 16, .inl (fun _ => 0))), (qF, .inr (2, [.int (bI false), .int (bI false), .int (bI false), .int (bI false)]))] H := hP
  have hD : va_D A [(h, .inr (4, [.ref hM, .ref qR, .null, .null, .null, .int (bI false), .int (bI false), .int 0])), (hM, .inr (3, [.int (tsz x), .ref qW])), (qW, .inl (cI, tsn x, .inl (fun _ => 0))), (qR, .inl (cI, 16, .inl (fun _ => 0))), (qF, .inr (2, [.int (bI false), .int (bI false), .int (bI false), .int (bI false)]))] := hD
  refine va_putF (D := D) (ci := 4) (v := .ref qF) (ty := .object "ThumbCore$Flags") (C := R_ThumbCore) (T := F_ThumbCore) (N := 8) hx hb hts u_ThumbCore t_ThumbCore t_ThumbCore_ok n_ThumbCore hown hK hP hD hS 0 rfl rfl 2 (by decide) (hts _ wf_ThumbCore_34) (fun _ h9 => h9) rfl hin rfl (by decide +kernel) rfl rfl (Nat.le_of_ble_eq_true rfl) d_ThumbCore_init_47 (fun H locs hP hD hS => ?_)
  have hP : va_P D tcl [(h, .inr (4, [.ref hM, .ref qR, .ref qF, .null, .null, .int (bI false), .int (bI false), .int 0])), (hM, .inr (3, [.int (tsz x), .ref qW])), (qW, .inl (cI, tsn x, .inl (fun _ => 0))), (qR, .inl (cI, 16, .inl (fun _ => 0))), (qF, .inr (2, [.int (bI false), .int (bI false), .int (bI false), .int (bI false)]))] H := hP
  have hD : va_D A [(h, .inr (4, [.ref hM, .ref qR, .ref qF, .null, .null, .int (bI false), .int (bI false), .int 0])), (hM, .inr (3, [.int (tsz x), .ref qW])), (qW, .inl (cI, tsn x, .inl (fun _ => 0))), (qR, .inl (cI, 16, .inl (fun _ => 0))), (qF, .inr (2, [.int (bI false), .int (bI false), .int (bI false), .int (bI false)]))] := hD
  refine lv_aload_n hx hb d_ThumbCore_init_50 rfl (lv_at hl 0 rfl) ?_
  refine va_new (ci := 1) (fs := [.null, .int 0, .int 0, .int 0, .int (bI false)]) (C := R_Exceptions) (T := F_Exceptions) (N := 5) hx hb hts u_Exceptions t_Exceptions t_Exceptions_ok hown (hts _ wz_ThumbCore_38) (hts _ wn_Exceptions) (hts _ wi_Exceptions) hK hP hD hS hA rfl (fun j hj => by rcases (show j = 0 ∨ j = 1 ∨ j = 2 ∨ j = 3 ∨ j = 4 by omega) with rfl | rfl | rfl | rfl | rfl <;> rfl) (by decide) (by decide) d_ThumbCore_init_51 (fun qE H hP hD hS => ?_)
  have hP : va_P D tcl [(h, .inr (4, [.ref hM, .ref qR, .ref qF, .null, .null, .int (bI false), .int (bI false), .int 0])), (hM, .inr (3, [.int (tsz x), .ref qW])), (qW, .inl (cI, tsn x, .inl (fun _ => 0))), (qR, .inl (cI, 16, .inl (fun _ => 0))), (qF, .inr (2, [.int (bI false), .int (bI false), .int (bI false), .int (bI false)])), (qE, .inr (1, [.null, .int 0, .int 0, .int 0, .int (bI false)]))] H := hP
  have hD : va_D A [(h, .inr (4, [.ref hM, .ref qR, .ref qF, .null, .null, .int (bI false), .int (bI false), .int 0])), (hM, .inr (3, [.int (tsz x), .ref qW])), (qW, .inl (cI, tsn x, .inl (fun _ => 0))), (qR, .inl (cI, 16, .inl (fun _ => 0))), (qF, .inr (2, [.int (bI false), .int (bI false), .int (bI false), .int (bI false)])), (qE, .inr (1, [.null, .int 0, .int 0, .int 0, .int (bI false)]))] := hD
  refine lv_dup hx hb d_ThumbCore_init_54 rfl ?_
  refine tc_mn (S := Nat) (wo := fun qP => [(h, .inr (4, [.ref hM, .ref qR, .ref qF, .null, .null, .int (bI false), .int (bI false), .int 0])), (hM, .inr (3, [.int (tsz x), .ref qW])), (qW, .inl (cI, tsn x, .inl (fun _ => 0))), (qR, .inl (cI, 16, .inl (fun _ => 0))), (qF, .inr (2, [.int (bI false), .int (bI false), .int (bI false), .int (bI false)])), (qE, .inr (1, [.ref qP, .int 0, .int 0, .int 0, .int (bI false)])), (qP, .inl (cI, 16, .inl pr0))]) (va_runI (As := []) (rest := [.ref qE, .ref h]) ⟨hx, hb, hml, hown, hts⟩ (c_Exceptions_init l D cI cB cZ qE H.size) (cwI 0 hts (tc_gI wc_Exceptions_init) rfl rfl rfl (hts _ wi_Exceptions) (hts _ wl_ThumbCore_40) (hts _ wm_Exceptions_init) rfl (by decide +kernel) ⟨(Nat.le_of_ble_eq_true rfl), (Nat.le_of_ble_eq_true rfl)⟩) (tc_preI hK hN hP hD [5] rfl (by decide)) rfl rfl hl.1 rfl (lv_room (Nat.le_of_ble_eq_true rfl)) d_ThumbCore_init_55 (by decide)) hP hD hS hA [5] [0, 1, 2, 3, 4] [0, 1, 2, 3, 4, 5, 6] rfl rfl (by decide) (by decide) (by decide) (fun _ => rfl) (fun qP H locs hP hD hS => ?_)
  have hP : va_P D tcl [(h, .inr (4, [.ref hM, .ref qR, .ref qF, .null, .null, .int (bI false), .int (bI false), .int 0])), (hM, .inr (3, [.int (tsz x), .ref qW])), (qW, .inl (cI, tsn x, .inl (fun _ => 0))), (qR, .inl (cI, 16, .inl (fun _ => 0))), (qF, .inr (2, [.int (bI false), .int (bI false), .int (bI false), .int (bI false)])), (qE, .inr (1, [.ref qP, .int 0, .int 0, .int 0, .int (bI false)])), (qP, .inl (cI, 16, .inl pr0))] H := hP
  have hD : va_D A [(h, .inr (4, [.ref hM, .ref qR, .ref qF, .null, .null, .int (bI false), .int (bI false), .int 0])), (hM, .inr (3, [.int (tsz x), .ref qW])), (qW, .inl (cI, tsn x, .inl (fun _ => 0))), (qR, .inl (cI, 16, .inl (fun _ => 0))), (qF, .inr (2, [.int (bI false), .int (bI false), .int (bI false), .int (bI false)])), (qE, .inr (1, [.ref qP, .int 0, .int 0, .int 0, .int (bI false)])), (qP, .inl (cI, 16, .inl pr0))] := hD
  refine va_putF (D := D) (ci := 4) (v := .ref qE) (ty := .object "ThumbCore$Exceptions") (C := R_ThumbCore) (T := F_ThumbCore) (N := 8) hx hb hts u_ThumbCore t_ThumbCore t_ThumbCore_ok n_ThumbCore hown hK hP hD hS 0 rfl rfl 3 (by decide) (hts _ wf_ThumbCore_41) (fun _ h9 => h9) rfl hin rfl (by decide +kernel) rfl rfl (Nat.le_of_ble_eq_true rfl) d_ThumbCore_init_58 (fun H locs hP hD hS => ?_)
  have hP : va_P D tcl [(h, .inr (4, [.ref hM, .ref qR, .ref qF, .ref qE, .null, .int (bI false), .int (bI false), .int 0])), (hM, .inr (3, [.int (tsz x), .ref qW])), (qW, .inl (cI, tsn x, .inl (fun _ => 0))), (qR, .inl (cI, 16, .inl (fun _ => 0))), (qF, .inr (2, [.int (bI false), .int (bI false), .int (bI false), .int (bI false)])), (qE, .inr (1, [.ref qP, .int 0, .int 0, .int 0, .int (bI false)])), (qP, .inl (cI, 16, .inl pr0))] H := hP
  have hD : va_D A [(h, .inr (4, [.ref hM, .ref qR, .ref qF, .ref qE, .null, .int (bI false), .int (bI false), .int 0])), (hM, .inr (3, [.int (tsz x), .ref qW])), (qW, .inl (cI, tsn x, .inl (fun _ => 0))), (qR, .inl (cI, 16, .inl (fun _ => 0))), (qF, .inr (2, [.int (bI false), .int (bI false), .int (bI false), .int (bI false)])), (qE, .inr (1, [.ref qP, .int 0, .int 0, .int 0, .int (bI false)])), (qP, .inl (cI, 16, .inl pr0))] := hD
  refine lv_aload_n hx hb d_ThumbCore_init_61 rfl (lv_at hl 0 rfl) ?_
  refine va_new (ci := 0) (fs := [.int 0, .int 0, .int (bI false)]) (C := R_Counter) (T := F_Counter) (N := 3) hx hb hts u_Counter t_Counter t_Counter_ok hown (hts _ wz_ThumbCore_45) (hts _ wn_Counter) (hts _ wi_Counter) hK hP hD hS hA rfl (fun j hj => by rcases (show j = 0 ∨ j = 1 ∨ j = 2 by omega) with rfl | rfl | rfl <;> rfl) (by decide) (by decide) d_ThumbCore_init_62 (fun qC H hP hD hS => ?_)
  have hP : va_P D tcl [(h, .inr (4, [.ref hM, .ref qR, .ref qF, .ref qE, .null, .int (bI false), .int (bI false), .int 0])), (hM, .inr (3, [.int (tsz x), .ref qW])), (qW, .inl (cI, tsn x, .inl (fun _ => 0))), (qR, .inl (cI, 16, .inl (fun _ => 0))), (qF, .inr (2, [.int (bI false), .int (bI false), .int (bI false), .int (bI false)])), (qE, .inr (1, [.ref qP, .int 0, .int 0, .int 0, .int (bI false)])), (qP, .inl (cI, 16, .inl pr0)), (qC, .inr (0, [.int 0, .int 0, .int (bI false)]))] H := hP
  have hD : va_D A [(h, .inr (4, [.ref hM, .ref qR, .ref qF, .ref qE, .null, .int (bI false), .int (bI false), .int 0])), (hM, .inr (3, [.int (tsz x), .ref qW])), (qW, .inl (cI, tsn x, .inl (fun _ => 0))), (qR, .inl (cI, 16, .inl (fun _ => 0))), (qF, .inr (2, [.int (bI false), .int (bI false), .int (bI false), .int (bI false)])), (qE, .inr (1, [.ref qP, .int 0, .int 0, .int 0, .int (bI false)])), (qP, .inl (cI, 16, .inl pr0)), (qC, .inr (0, [.int 0, .int 0, .int (bI false)]))] := hD
  refine lv_dup hx hb d_ThumbCore_init_65 rfl ?_
  refine tc_mn (S := Unit) (wo := fun _ => [(h, .inr (4, [.ref hM, .ref qR, .ref qF, .ref qE, .null, .int (bI false), .int (bI false), .int 0])), (hM, .inr (3, [.int (tsz x), .ref qW])), (qW, .inl (cI, tsn x, .inl (fun _ => 0))), (qR, .inl (cI, 16, .inl (fun _ => 0))), (qF, .inr (2, [.int (bI false), .int (bI false), .int (bI false), .int (bI false)])), (qE, .inr (1, [.ref qP, .int 0, .int 0, .int 0, .int (bI false)])), (qP, .inl (cI, 16, .inl pr0)), (qC, .inr (0, [.int 0, .int 0, .int (bI false)]))]) (va_runIN (As := []) (rest := [.ref qC, .ref h]) ⟨hx, hb, hml, hown, hts⟩ (c_Counter_init l D cI cB cZ qC H.size) ⟨va_cnB 0 hts (tc_gI wc_Counter_init) rfl rfl rfl (hN _ wl_ThumbCore_47) (hts _ wi_Counter) (by decide +kernel) ⟨(Nat.le_of_ble_eq_true rfl), (Nat.le_of_ble_eq_true rfl)⟩, rfl, hts _ wm_Counter_init⟩ (tc_preI hK hN hP hD [7] rfl (by decide)) rfl rfl hl.1 rfl (lv_room (Nat.le_of_ble_eq_true rfl)) d_ThumbCore_init_66 (by decide)) hP hD hS hA [7] [0, 1, 2, 3, 4, 5, 6] [0, 1, 2, 3, 4, 5, 6, 7] rfl rfl (by decide) (by decide) (by decide) (fun _ => rfl) (fun _ H locs hP hD hS => ?_)
  have hP : va_P D tcl [(h, .inr (4, [.ref hM, .ref qR, .ref qF, .ref qE, .null, .int (bI false), .int (bI false), .int 0])), (hM, .inr (3, [.int (tsz x), .ref qW])), (qW, .inl (cI, tsn x, .inl (fun _ => 0))), (qR, .inl (cI, 16, .inl (fun _ => 0))), (qF, .inr (2, [.int (bI false), .int (bI false), .int (bI false), .int (bI false)])), (qE, .inr (1, [.ref qP, .int 0, .int 0, .int 0, .int (bI false)])), (qP, .inl (cI, 16, .inl pr0)), (qC, .inr (0, [.int 0, .int 0, .int (bI false)]))] H := hP
  have hD : va_D A [(h, .inr (4, [.ref hM, .ref qR, .ref qF, .ref qE, .null, .int (bI false), .int (bI false), .int 0])), (hM, .inr (3, [.int (tsz x), .ref qW])), (qW, .inl (cI, tsn x, .inl (fun _ => 0))), (qR, .inl (cI, 16, .inl (fun _ => 0))), (qF, .inr (2, [.int (bI false), .int (bI false), .int (bI false), .int (bI false)])), (qE, .inr (1, [.ref qP, .int 0, .int 0, .int 0, .int (bI false)])), (qP, .inl (cI, 16, .inl pr0)), (qC, .inr (0, [.int 0, .int 0, .int (bI false)]))] := hD
  refine va_putF (D := D) (ci := 4) (v := .ref qC) (ty := .object "ThumbCore$Counter") (C := R_ThumbCore) (T := F_ThumbCore) (N := 8) hx hb hts u_ThumbCore t_ThumbCore t_ThumbCore_ok n_ThumbCore hown hK hP hD hS 0 rfl rfl 4 (by decide) (hts _ wf_ThumbCore_48) (fun _ h9 => h9) rfl hin rfl (by decide +kernel) rfl rfl (Nat.le_of_ble_eq_true rfl) d_ThumbCore_init_69 (fun H locs hP hD hS => ?_)
  have hP : va_P D tcl [(h, .inr (4, [.ref hM, .ref qR, .ref qF, .ref qE, .ref qC, .int (bI false), .int (bI false), .int 0])), (hM, .inr (3, [.int (tsz x), .ref qW])), (qW, .inl (cI, tsn x, .inl (fun _ => 0))), (qR, .inl (cI, 16, .inl (fun _ => 0))), (qF, .inr (2, [.int (bI false), .int (bI false), .int (bI false), .int (bI false)])), (qE, .inr (1, [.ref qP, .int 0, .int 0, .int 0, .int (bI false)])), (qP, .inl (cI, 16, .inl pr0)), (qC, .inr (0, [.int 0, .int 0, .int (bI false)]))] H := hP
  have hD : va_D A [(h, .inr (4, [.ref hM, .ref qR, .ref qF, .ref qE, .ref qC, .int (bI false), .int (bI false), .int 0])), (hM, .inr (3, [.int (tsz x), .ref qW])), (qW, .inl (cI, tsn x, .inl (fun _ => 0))), (qR, .inl (cI, 16, .inl (fun _ => 0))), (qF, .inr (2, [.int (bI false), .int (bI false), .int (bI false), .int (bI false)])), (qE, .inr (1, [.ref qP, .int 0, .int 0, .int 0, .int (bI false)])), (qP, .inl (cI, 16, .inl pr0)), (qC, .inr (0, [.int 0, .int 0, .int (bI false)]))] := hD
  refine lv_aload_n hx hb d_ThumbCore_init_72 rfl (lv_at hl 0 rfl) ?_
  have hP : va_P D tcl (wd_ThumbCore cI cB cZ h hM qW qR qF qE qP qC (tsz x) (tsn x) false false 0 (fun _ => 0) (fun _ => 0) false false false false 0 0 0 false pr0 0 0 false) H := hP
  have hD : va_D A (wd_ThumbCore cI cB cZ h hM qW qR qF qE qP qC (tsz x) (tsn x) false false 0 (fun _ => 0) (fun _ => 0) false false false false 0 0 0 false pr0 0 0 false) := hD
  refine tc_mv (wo := fun u : Bool × Bool × (Nat → Int32) × Bool × Bool × Bool × Bool × Int32 × Int32 × Int32 × Bool × Int32 × Int32 × Bool => wd_ThumbCore cI cB cZ h hM qW qR qF qE qP qC (tsz x) (tsn x) u.1 u.2.1 0 (fun _ => 0) u.2.2.1 u.2.2.2.1 u.2.2.2.2.1 u.2.2.2.2.2.1 u.2.2.2.2.2.2.1 u.2.2.2.2.2.2.2.1 u.2.2.2.2.2.2.2.2.1 u.2.2.2.2.2.2.2.2.2.1 u.2.2.2.2.2.2.2.2.2.2.1 pr0 u.2.2.2.2.2.2.2.2.2.2.2.1 u.2.2.2.2.2.2.2.2.2.2.2.2.1 u.2.2.2.2.2.2.2.2.2.2.2.2.2) (va_runV (As := []) (rest := []) ⟨hx, hb, hml, hown, hts⟩ (c_ThumbCore_reset l D cI cB cZ h hM qW qR qF qE qP qC H.size (tsz x) (tsn x) false false 0 (fun _ => 0) (fun _ => 0) false false false false 0 0 0 false pr0 0 0 false hm) (cwV 0 hts (tc_gV wl_ThumbCore_52 wm_ThumbCore_reset ws_ThumbCore_reset wi_ThumbCore wc_ThumbCore_reset) rfl rfl rfl (by decide +kernel) ⟨(Nat.le_of_ble_eq_true rfl), (Nat.le_of_ble_eq_true rfl)⟩) (tc_preV hK hN hP hD [0, 1, 2, 3, 4, 5, 6, 7] rfl (by decide) (q0 := 0) rfl rfl) rfl rfl hl.1 rfl (lv_room (Nat.le_of_ble_eq_true rfl)) d_ThumbCore_init_73 (by decide)) hP hD hS hA [0, 1, 2, 3, 4, 5, 6, 7] [] [0, 1, 2, 3, 4, 5, 6, 7] rfl rfl (by decide) (by decide) (by decide) (fun _ => rfl) (fun u H locs hu hP hD hS => ?_)
  subst hu
  exact RET _ _ _ 76 (hM, qW, qR, qF, qE, qP, qC) d_ThumbCore_init_76 hP hD hS
def rsm0 (x : Int32) : Bool × Bool × Bool × Bool × Bool × Bool × Bool × Bool × Bool × Int32 × Int32 × Int32 × (Nat → Int32) × (Nat → Bool) × (Nat → Bool) := f_ThumbCoreModel_reset (tsz x) (fun _ => 0) false false false false false false false false false 0 0 0 (fun _ => 0) (fun _ => false) (fun _ => false)
abbrev rm_ThumbCoreModel_init : Room := { frames := 4, cells := 6, slots := 2128, locals := 92 }
set_option maxHeartbeats 4000000 in
set_option maxRecDepth 100000 in
theorem c_ThumbCoreModel_init (l : Launch) (D : va_G) (cI cB cZ : ClassId) (h sz : Nat) (x : Int32) : Met l y_ThumbCoreModel_init (.code y_ThumbCoreModel_init b_ThumbCoreModel_init 3 none :: tcb) rm_ThumbCoreModel_init (tc_Pw D tcl (tys cI cB cZ) [(h, .inr (5, [.int 0, .null, .null, .int (bI false), .int (bI false), .int (bI false), .int (bI false), .null, .int 0, .int (bI false), .int 0, .int 0, .int (bI false), .int (bI false), .int (bI false), .int (bI false), .int (bI false), .int 0, .int 0, .int 0, .null, .null, .null]))] sz ([.ref h, .int x] : List Value) none) (tc_Qn D tcl [(h, .inr (5, [.int 0, .null, .null, .int (bI false), .int (bI false), .int (bI false), .int (bI false), .null, .int 0, .int (bI false), .int 0, .int 0, .int (bI false), .int (bI false), .int (bI false), .int (bI false), .int (bI false), .int 0, .int 0, .int 0, .null, .null, .null]))] sz (fun u : Nat × Nat × Nat × Nat × Nat × Nat => (wd_ThumbCoreModel cI cB cZ h u.1 u.2.1 u.2.2.1 u.2.2.2.1 u.2.2.2.2.1 u.2.2.2.2.2 (tsz x) ((rsm0 x)).1 ((rsm0 x)).2.1 ((rsm0 x)).2.2.1 ((rsm0 x)).2.2.2.1 0 ((rsm0 x)).2.2.2.2.1 0 0 false ((rsm0 x)).2.2.2.2.2.1 ((rsm0 x)).2.2.2.2.2.2.1 ((rsm0 x)).2.2.2.2.2.2.2.1 ((rsm0 x)).2.2.2.2.2.2.2.2.1 ((rsm0 x)).2.2.2.2.2.2.2.2.2.1 ((rsm0 x)).2.2.2.2.2.2.2.2.2.2.1 ((rsm0 x)).2.2.2.2.2.2.2.2.2.2.2.1 (fun _ => 0) ((rsm0 x)).2.2.2.2.2.2.2.2.2.2.2.2.1 (fun _ => 0) ((rsm0 x)).2.2.2.2.2.2.2.2.2.2.2.2.2.1 ((rsm0 x)).2.2.2.2.2.2.2.2.2.2.2.2.2.2 pr0))) 6 2128 (va_A [(h, .inr (5, [.int 0, .null, .null, .int (bI false), .int (bI false), .int (bI false), .int (bI false), .null, .int 0, .int (bI false), .int 0, .int 0, .int (bI false), .int (bI false), .int (bI false), .int (bI false), .int (bI false), .int 0, .int 0, .int 0, .null, .null, .null]))] sz) := by
  refine tc_mu_n (by decide) (Nat.le_of_ble_eq_true rfl) ?_
  intro p e s m below meth c A Q ls hx hb hml hts hown hin hK hN hP hD hA hZ hl RET
  have hS : va_S A s.heap s.heap [] := va_S.rf
  have hmr : tc_memR (tsz x) := by
    obtain ⟨h1, h2, h3⟩ := tsz_mem x
    unfold tc_memR
    omega
  have hl : lv_has ls 3 [(0, .ref h), (1, .int x)] := hl
  refine lv_aload_n hx hb d_ThumbCoreModel_init_0 rfl (lv_at hl 0 rfl) ?_
  refine W.objInit hx hb hown (hts _ wl_ThumbCoreModel_1) (hts _ wm_Object_init) (hts _ wc_Object_init) rfl (by rw [hml]; exact hl.1) rfl d_ThumbCoreModel_init_1 (Nat.le_of_ble_eq_true rfl) (Nat.le_of_ble_eq_true rfl) ?_
  refine W.eq (g2 := F0 m 4 ls []) rfl ?_
  refine lv_aload_n hx hb d_ThumbCoreModel_init_4 rfl (lv_at hl 0 rfl) ?_
  refine lv_sipush (v := 2048) hx hb d_ThumbCoreModel_init_5 (by decide) ?_
  refine va_newa (atype := .byte) (a0 := (2048, .inl (fun _ => 0))) hx hb (hts _ wa_byte) rfl hK hP hD hS hA (fun _ => rfl) (by decide) (by decide) (by decide) (by decide) (by decide) d_ThumbCoreModel_init_8 (fun q_mem cA H hK2 hP hD hS => ?_)
  rw [tc_arB hK2] at hP hD
  have hP : va_P D tcl [(h, .inr (5, [.int 0, .null, .null, .int (bI false), .int (bI false), .int (bI false), .int (bI false), .null, .int 0, .int (bI false), .int 0, .int 0, .int (bI false), .int (bI false), .int (bI false), .int (bI false), .int (bI false), .int 0, .int 0, .int 0, .null, .null, .null])), (q_mem, .inl (cB, 2048, .inl (fun _ => 0)))] H := hP
  have hD : va_D A [(h, .inr (5, [.int 0, .null, .null, .int (bI false), .int (bI false), .int (bI false), .int (bI false), .null, .int 0, .int (bI false), .int 0, .int 0, .int (bI false), .int (bI false), .int (bI false), .int (bI false), .int (bI false), .int 0, .int 0, .int 0, .null, .null, .null])), (q_mem, .inl (cB, 2048, .inl (fun _ => 0)))] := hD
  refine va_putF (D := D) (ci := 5) (v := .ref q_mem) (ty := .array .byte) (C := R_ThumbCoreModel) (T := F_ThumbCoreModel) (N := 23) hx hb hts u_ThumbCoreModel t_ThumbCoreModel t_ThumbCoreModel_ok n_ThumbCoreModel hown hK hP hD hS 0 rfl rfl 1 (by decide) (hts _ wf_ThumbCoreModel_7) (fun _ h9 => h9) rfl hin rfl (by decide +kernel) rfl rfl (Nat.le_of_ble_eq_true rfl) d_ThumbCoreModel_init_10 (fun H locs hP hD hS => ?_)
  have hP : va_P D tcl [(h, .inr (5, [.int 0, .ref q_mem, .null, .int (bI false), .int (bI false), .int (bI false), .int (bI false), .null, .int 0, .int (bI false), .int 0, .int 0, .int (bI false), .int (bI false), .int (bI false), .int (bI false), .int (bI false), .int 0, .int 0, .int 0, .null, .null, .null])), (q_mem, .inl (cB, 2048, .inl (fun _ => 0)))] H := hP
  have hD : va_D A [(h, .inr (5, [.int 0, .ref q_mem, .null, .int (bI false), .int (bI false), .int (bI false), .int (bI false), .null, .int 0, .int (bI false), .int 0, .int 0, .int (bI false), .int (bI false), .int (bI false), .int (bI false), .int (bI false), .int 0, .int 0, .int 0, .null, .null, .null])), (q_mem, .inl (cB, 2048, .inl (fun _ => 0)))] := hD
  refine lv_aload_n hx hb d_ThumbCoreModel_init_13 rfl (lv_at hl 0 rfl) ?_
  refine lv_bipush (v := 16) hx hb d_ThumbCoreModel_init_14 (by decide) ?_
  refine va_newa (atype := .int) (a0 := (16, .inl (fun _ => 0))) hx hb (hts _ wa_int) rfl hK hP hD hS hA (fun _ => rfl) (by decide) (by decide) (by decide) (by decide) (by decide) d_ThumbCoreModel_init_16 (fun q_reg cA H hK2 hP hD hS => ?_)
  rw [tc_arI hK2] at hP hD
  have hP : va_P D tcl [(h, .inr (5, [.int 0, .ref q_mem, .null, .int (bI false), .int (bI false), .int (bI false), .int (bI false), .null, .int 0, .int (bI false), .int 0, .int 0, .int (bI false), .int (bI false), .int (bI false), .int (bI false), .int (bI false), .int 0, .int 0, .int 0, .null, .null, .null])), (q_mem, .inl (cB, 2048, .inl (fun _ => 0))), (q_reg, .inl (cI, 16, .inl (fun _ => 0)))] H := hP
  have hD : va_D A [(h, .inr (5, [.int 0, .ref q_mem, .null, .int (bI false), .int (bI false), .int (bI false), .int (bI false), .null, .int 0, .int (bI false), .int 0, .int 0, .int (bI false), .int (bI false), .int (bI false), .int (bI false), .int (bI false), .int 0, .int 0, .int 0, .null, .null, .null])), (q_mem, .inl (cB, 2048, .inl (fun _ => 0))), (q_reg, .inl (cI, 16, .inl (fun _ => 0)))] := hD
  refine va_putF (D := D) (ci := 5) (v := .ref q_reg) (ty := .array .int) (C := R_ThumbCoreModel) (T := F_ThumbCoreModel) (N := 23) hx hb hts u_ThumbCoreModel t_ThumbCoreModel t_ThumbCoreModel_ok n_ThumbCoreModel hown hK hP hD hS 0 rfl rfl 2 (by decide) (hts _ wf_ThumbCoreModel_13) (fun _ h9 => h9) rfl hin rfl (by decide +kernel) rfl rfl (Nat.le_of_ble_eq_true rfl) d_ThumbCoreModel_init_18 (fun H locs hP hD hS => ?_)
  have hP : va_P D tcl [(h, .inr (5, [.int 0, .ref q_mem, .ref q_reg, .int (bI false), .int (bI false), .int (bI false), .int (bI false), .null, .int 0, .int (bI false), .int 0, .int 0, .int (bI false), .int (bI false), .int (bI false), .int (bI false), .int (bI false), .int 0, .int 0, .int 0, .null, .null, .null])), (q_mem, .inl (cB, 2048, .inl (fun _ => 0))), (q_reg, .inl (cI, 16, .inl (fun _ => 0)))] H := hP
  have hD : va_D A [(h, .inr (5, [.int 0, .ref q_mem, .ref q_reg, .int (bI false), .int (bI false), .int (bI false), .int (bI false), .null, .int 0, .int (bI false), .int 0, .int 0, .int (bI false), .int (bI false), .int (bI false), .int (bI false), .int (bI false), .int 0, .int 0, .int 0, .null, .null, .null])), (q_mem, .inl (cB, 2048, .inl (fun _ => 0))), (q_reg, .inl (cI, 16, .inl (fun _ => 0)))] := hD
  refine lv_aload_n hx hb d_ThumbCoreModel_init_21 rfl (lv_at hl 0 rfl) ?_
  refine lv_bipush (v := 16) hx hb d_ThumbCoreModel_init_22 (by decide) ?_
  refine va_newa (atype := .int) (a0 := (16, .inl (fun _ => 0))) hx hb (hts _ wa_int) rfl hK hP hD hS hA (fun _ => rfl) (by decide) (by decide) (by decide) (by decide) (by decide) d_ThumbCoreModel_init_24 (fun q_kept cA H hK2 hP hD hS => ?_)
  rw [tc_arI hK2] at hP hD
  have hP : va_P D tcl [(h, .inr (5, [.int 0, .ref q_mem, .ref q_reg, .int (bI false), .int (bI false), .int (bI false), .int (bI false), .null, .int 0, .int (bI false), .int 0, .int 0, .int (bI false), .int (bI false), .int (bI false), .int (bI false), .int (bI false), .int 0, .int 0, .int 0, .null, .null, .null])), (q_mem, .inl (cB, 2048, .inl (fun _ => 0))), (q_reg, .inl (cI, 16, .inl (fun _ => 0))), (q_kept, .inl (cI, 16, .inl (fun _ => 0)))] H := hP
  have hD : va_D A [(h, .inr (5, [.int 0, .ref q_mem, .ref q_reg, .int (bI false), .int (bI false), .int (bI false), .int (bI false), .null, .int 0, .int (bI false), .int 0, .int 0, .int (bI false), .int (bI false), .int (bI false), .int (bI false), .int (bI false), .int 0, .int 0, .int 0, .null, .null, .null])), (q_mem, .inl (cB, 2048, .inl (fun _ => 0))), (q_reg, .inl (cI, 16, .inl (fun _ => 0))), (q_kept, .inl (cI, 16, .inl (fun _ => 0)))] := hD
  refine va_putF (D := D) (ci := 5) (v := .ref q_kept) (ty := .array .int) (C := R_ThumbCoreModel) (T := F_ThumbCoreModel) (N := 23) hx hb hts u_ThumbCoreModel t_ThumbCoreModel t_ThumbCoreModel_ok n_ThumbCoreModel hown hK hP hD hS 0 rfl rfl 7 (by decide) (hts _ wf_ThumbCoreModel_17) (fun _ h9 => h9) rfl hin rfl (by decide +kernel) rfl rfl (Nat.le_of_ble_eq_true rfl) d_ThumbCoreModel_init_26 (fun H locs hP hD hS => ?_)
  have hP : va_P D tcl [(h, .inr (5, [.int 0, .ref q_mem, .ref q_reg, .int (bI false), .int (bI false), .int (bI false), .int (bI false), .ref q_kept, .int 0, .int (bI false), .int 0, .int 0, .int (bI false), .int (bI false), .int (bI false), .int (bI false), .int (bI false), .int 0, .int 0, .int 0, .null, .null, .null])), (q_mem, .inl (cB, 2048, .inl (fun _ => 0))), (q_reg, .inl (cI, 16, .inl (fun _ => 0))), (q_kept, .inl (cI, 16, .inl (fun _ => 0)))] H := hP
  have hD : va_D A [(h, .inr (5, [.int 0, .ref q_mem, .ref q_reg, .int (bI false), .int (bI false), .int (bI false), .int (bI false), .ref q_kept, .int 0, .int (bI false), .int 0, .int 0, .int (bI false), .int (bI false), .int (bI false), .int (bI false), .int (bI false), .int 0, .int 0, .int 0, .null, .null, .null])), (q_mem, .inl (cB, 2048, .inl (fun _ => 0))), (q_reg, .inl (cI, 16, .inl (fun _ => 0))), (q_kept, .inl (cI, 16, .inl (fun _ => 0)))] := hD
  refine lv_aload_n hx hb d_ThumbCoreModel_init_29 rfl (lv_at hl 0 rfl) ?_
  refine lv_bipush (v := 16) hx hb d_ThumbCoreModel_init_30 (by decide) ?_
  refine va_newa (atype := .boolean) (a0 := (16, .inl (fun _ => bI false))) hx hb (hts _ wa_boolean) rfl hK hP hD hS hA (fun _ => rfl) (by decide) (by decide) (by decide) (by decide) (by decide) d_ThumbCoreModel_init_32 (fun q_pen cA H hK2 hP hD hS => ?_)
  rw [tc_arZ hK2] at hP hD
  have hP : va_P D tcl [(h, .inr (5, [.int 0, .ref q_mem, .ref q_reg, .int (bI false), .int (bI false), .int (bI false), .int (bI false), .ref q_kept, .int 0, .int (bI false), .int 0, .int 0, .int (bI false), .int (bI false), .int (bI false), .int (bI false), .int (bI false), .int 0, .int 0, .int 0, .null, .null, .null])), (q_mem, .inl (cB, 2048, .inl (fun _ => 0))), (q_reg, .inl (cI, 16, .inl (fun _ => 0))), (q_kept, .inl (cI, 16, .inl (fun _ => 0))), (q_pen, .inl (cZ, 16, .inl (fun _ => bI false)))] H := hP
  have hD : va_D A [(h, .inr (5, [.int 0, .ref q_mem, .ref q_reg, .int (bI false), .int (bI false), .int (bI false), .int (bI false), .ref q_kept, .int 0, .int (bI false), .int 0, .int 0, .int (bI false), .int (bI false), .int (bI false), .int (bI false), .int (bI false), .int 0, .int 0, .int 0, .null, .null, .null])), (q_mem, .inl (cB, 2048, .inl (fun _ => 0))), (q_reg, .inl (cI, 16, .inl (fun _ => 0))), (q_kept, .inl (cI, 16, .inl (fun _ => 0))), (q_pen, .inl (cZ, 16, .inl (fun _ => bI false)))] := hD
  refine va_putF (D := D) (ci := 5) (v := .ref q_pen) (ty := .array .boolean) (C := R_ThumbCoreModel) (T := F_ThumbCoreModel) (N := 23) hx hb hts u_ThumbCoreModel t_ThumbCoreModel t_ThumbCoreModel_ok n_ThumbCoreModel hown hK hP hD hS 0 rfl rfl 20 (by decide) (hts _ wf_ThumbCoreModel_20) (fun _ h9 => h9) rfl hin rfl (by decide +kernel) rfl rfl (Nat.le_of_ble_eq_true rfl) d_ThumbCoreModel_init_34 (fun H locs hP hD hS => ?_)
  have hP : va_P D tcl [(h, .inr (5, [.int 0, .ref q_mem, .ref q_reg, .int (bI false), .int (bI false), .int (bI false), .int (bI false), .ref q_kept, .int 0, .int (bI false), .int 0, .int 0, .int (bI false), .int (bI false), .int (bI false), .int (bI false), .int (bI false), .int 0, .int 0, .int 0, .ref q_pen, .null, .null])), (q_mem, .inl (cB, 2048, .inl (fun _ => 0))), (q_reg, .inl (cI, 16, .inl (fun _ => 0))), (q_kept, .inl (cI, 16, .inl (fun _ => 0))), (q_pen, .inl (cZ, 16, .inl (fun _ => bI false)))] H := hP
  have hD : va_D A [(h, .inr (5, [.int 0, .ref q_mem, .ref q_reg, .int (bI false), .int (bI false), .int (bI false), .int (bI false), .ref q_kept, .int 0, .int (bI false), .int 0, .int 0, .int (bI false), .int (bI false), .int (bI false), .int (bI false), .int (bI false), .int 0, .int 0, .int 0, .ref q_pen, .null, .null])), (q_mem, .inl (cB, 2048, .inl (fun _ => 0))), (q_reg, .inl (cI, 16, .inl (fun _ => 0))), (q_kept, .inl (cI, 16, .inl (fun _ => 0))), (q_pen, .inl (cZ, 16, .inl (fun _ => bI false)))] := hD
  refine lv_aload_n hx hb d_ThumbCoreModel_init_37 rfl (lv_at hl 0 rfl) ?_
  refine lv_bipush (v := 16) hx hb d_ThumbCoreModel_init_38 (by decide) ?_
  refine va_newa (atype := .boolean) (a0 := (16, .inl (fun _ => bI false))) hx hb (hts _ wa_boolean) rfl hK hP hD hS hA (fun _ => rfl) (by decide) (by decide) (by decide) (by decide) (by decide) d_ThumbCoreModel_init_40 (fun q_act cA H hK2 hP hD hS => ?_)
  rw [tc_arZ hK2] at hP hD
  have hP : va_P D tcl [(h, .inr (5, [.int 0, .ref q_mem, .ref q_reg, .int (bI false), .int (bI false), .int (bI false), .int (bI false), .ref q_kept, .int 0, .int (bI false), .int 0, .int 0, .int (bI false), .int (bI false), .int (bI false), .int (bI false), .int (bI false), .int 0, .int 0, .int 0, .ref q_pen, .null, .null])), (q_mem, .inl (cB, 2048, .inl (fun _ => 0))), (q_reg, .inl (cI, 16, .inl (fun _ => 0))), (q_kept, .inl (cI, 16, .inl (fun _ => 0))), (q_pen, .inl (cZ, 16, .inl (fun _ => bI false))), (q_act, .inl (cZ, 16, .inl (fun _ => bI false)))] H := hP
  have hD : va_D A [(h, .inr (5, [.int 0, .ref q_mem, .ref q_reg, .int (bI false), .int (bI false), .int (bI false), .int (bI false), .ref q_kept, .int 0, .int (bI false), .int 0, .int 0, .int (bI false), .int (bI false), .int (bI false), .int (bI false), .int (bI false), .int 0, .int 0, .int 0, .ref q_pen, .null, .null])), (q_mem, .inl (cB, 2048, .inl (fun _ => 0))), (q_reg, .inl (cI, 16, .inl (fun _ => 0))), (q_kept, .inl (cI, 16, .inl (fun _ => 0))), (q_pen, .inl (cZ, 16, .inl (fun _ => bI false))), (q_act, .inl (cZ, 16, .inl (fun _ => bI false)))] := hD
  refine va_putF (D := D) (ci := 5) (v := .ref q_act) (ty := .array .boolean) (C := R_ThumbCoreModel) (T := F_ThumbCoreModel) (N := 23) hx hb hts u_ThumbCoreModel t_ThumbCoreModel t_ThumbCoreModel_ok n_ThumbCoreModel hown hK hP hD hS 0 rfl rfl 21 (by decide) (hts _ wf_ThumbCoreModel_24) (fun _ h9 => h9) rfl hin rfl (by decide +kernel) rfl rfl (Nat.le_of_ble_eq_true rfl) d_ThumbCoreModel_init_42 (fun H locs hP hD hS => ?_)
  have hP : va_P D tcl [(h, .inr (5, [.int 0, .ref q_mem, .ref q_reg, .int (bI false), .int (bI false), .int (bI false), .int (bI false), .ref q_kept, .int 0, .int (bI false), .int 0, .int 0, .int (bI false), .int (bI false), .int (bI false), .int (bI false), .int (bI false), .int 0, .int 0, .int 0, .ref q_pen, .ref q_act, .null])), (q_mem, .inl (cB, 2048, .inl (fun _ => 0))), (q_reg, .inl (cI, 16, .inl (fun _ => 0))), (q_kept, .inl (cI, 16, .inl (fun _ => 0))), (q_pen, .inl (cZ, 16, .inl (fun _ => bI false))), (q_act, .inl (cZ, 16, .inl (fun _ => bI false)))] H := hP
  have hD : va_D A [(h, .inr (5, [.int 0, .ref q_mem, .ref q_reg, .int (bI false), .int (bI false), .int (bI false), .int (bI false), .ref q_kept, .int 0, .int (bI false), .int 0, .int 0, .int (bI false), .int (bI false), .int (bI false), .int (bI false), .int (bI false), .int 0, .int 0, .int 0, .ref q_pen, .ref q_act, .null])), (q_mem, .inl (cB, 2048, .inl (fun _ => 0))), (q_reg, .inl (cI, 16, .inl (fun _ => 0))), (q_kept, .inl (cI, 16, .inl (fun _ => 0))), (q_pen, .inl (cZ, 16, .inl (fun _ => bI false))), (q_act, .inl (cZ, 16, .inl (fun _ => bI false)))] := hD
  refine lv_aload_n hx hb d_ThumbCoreModel_init_45 rfl (lv_at hl 0 rfl) ?_
  refine lv_bipush (v := 16) hx hb d_ThumbCoreModel_init_46 (by decide) ?_
  refine va_newa (atype := .int) (a0 := (16, .inl (fun _ => 0))) hx hb (hts _ wa_int) rfl hK hP hD hS hA (fun _ => rfl) (by decide) (by decide) (by decide) (by decide) (by decide) d_ThumbCoreModel_init_48 (fun q_pri cA H hK2 hP hD hS => ?_)
  rw [tc_arI hK2] at hP hD
  have hP : va_P D tcl [(h, .inr (5, [.int 0, .ref q_mem, .ref q_reg, .int (bI false), .int (bI false), .int (bI false), .int (bI false), .ref q_kept, .int 0, .int (bI false), .int 0, .int 0, .int (bI false), .int (bI false), .int (bI false), .int (bI false), .int (bI false), .int 0, .int 0, .int 0, .ref q_pen, .ref q_act, .null])), (q_mem, .inl (cB, 2048, .inl (fun _ => 0))), (q_reg, .inl (cI, 16, .inl (fun _ => 0))), (q_kept, .inl (cI, 16, .inl (fun _ => 0))), (q_pen, .inl (cZ, 16, .inl (fun _ => bI false))), (q_act, .inl (cZ, 16, .inl (fun _ => bI false))), (q_pri, .inl (cI, 16, .inl (fun _ => 0)))] H := hP
  have hD : va_D A [(h, .inr (5, [.int 0, .ref q_mem, .ref q_reg, .int (bI false), .int (bI false), .int (bI false), .int (bI false), .ref q_kept, .int 0, .int (bI false), .int 0, .int 0, .int (bI false), .int (bI false), .int (bI false), .int (bI false), .int (bI false), .int 0, .int 0, .int 0, .ref q_pen, .ref q_act, .null])), (q_mem, .inl (cB, 2048, .inl (fun _ => 0))), (q_reg, .inl (cI, 16, .inl (fun _ => 0))), (q_kept, .inl (cI, 16, .inl (fun _ => 0))), (q_pen, .inl (cZ, 16, .inl (fun _ => bI false))), (q_act, .inl (cZ, 16, .inl (fun _ => bI false))), (q_pri, .inl (cI, 16, .inl (fun _ => 0)))] := hD
  refine va_putF (D := D) (ci := 5) (v := .ref q_pri) (ty := .array .int) (C := R_ThumbCoreModel) (T := F_ThumbCoreModel) (N := 23) hx hb hts u_ThumbCoreModel t_ThumbCoreModel t_ThumbCoreModel_ok n_ThumbCoreModel hown hK hP hD hS 0 rfl rfl 22 (by decide) (hts _ wf_ThumbCoreModel_27) (fun _ h9 => h9) rfl hin rfl (by decide +kernel) rfl rfl (Nat.le_of_ble_eq_true rfl) d_ThumbCoreModel_init_50 (fun H locs hP hD hS => ?_)
  have hP : va_P D tcl [(h, .inr (5, [.int 0, .ref q_mem, .ref q_reg, .int (bI false), .int (bI false), .int (bI false), .int (bI false), .ref q_kept, .int 0, .int (bI false), .int 0, .int 0, .int (bI false), .int (bI false), .int (bI false), .int (bI false), .int (bI false), .int 0, .int 0, .int 0, .ref q_pen, .ref q_act, .ref q_pri])), (q_mem, .inl (cB, 2048, .inl (fun _ => 0))), (q_reg, .inl (cI, 16, .inl (fun _ => 0))), (q_kept, .inl (cI, 16, .inl (fun _ => 0))), (q_pen, .inl (cZ, 16, .inl (fun _ => bI false))), (q_act, .inl (cZ, 16, .inl (fun _ => bI false))), (q_pri, .inl (cI, 16, .inl (fun _ => 0)))] H := hP
  have hD : va_D A [(h, .inr (5, [.int 0, .ref q_mem, .ref q_reg, .int (bI false), .int (bI false), .int (bI false), .int (bI false), .ref q_kept, .int 0, .int (bI false), .int 0, .int 0, .int (bI false), .int (bI false), .int (bI false), .int (bI false), .int (bI false), .int 0, .int 0, .int 0, .ref q_pen, .ref q_act, .ref q_pri])), (q_mem, .inl (cB, 2048, .inl (fun _ => 0))), (q_reg, .inl (cI, 16, .inl (fun _ => 0))), (q_kept, .inl (cI, 16, .inl (fun _ => 0))), (q_pen, .inl (cZ, 16, .inl (fun _ => bI false))), (q_act, .inl (cZ, 16, .inl (fun _ => bI false))), (q_pri, .inl (cI, 16, .inl (fun _ => 0)))] := hD
  refine lv_iload_n hx hb d_ThumbCoreModel_init_53 rfl (lv_at hl 1 rfl) ?_
  refine lv_bipush (v := (-4)) hx hb d_ThumbCoreModel_init_54 (by decide) ?_
  refine lv_iand hx hb d_ThumbCoreModel_init_56 ?_
  refine lv_istore_n (lv' := [(2, .int (x &&& (-4))), (0, .ref h), (1, .int x)]) hx hb d_ThumbCoreModel_init_57 rfl hl (by decide) rfl (fun ls hl => ?_)
  refine lv_aload_n hx hb d_ThumbCoreModel_init_58 rfl (lv_at hl 1 rfl) ?_
  have J86 : ∀ y : Int32, y = tsz x → W p l e rm_ThumbCoreModel_init s m ([.ref h, .int x] : List Value).toArray below meth c H locs 6 2128 Q (F0 m 86 ls [.int y, .ref h]) := by
    intro y hy
    subst hy
    refine va_putF (D := D) (ci := 5) (v := .int (tsz x)) (ty := .int) (C := R_ThumbCoreModel) (T := F_ThumbCoreModel) (N := 23) hx hb hts u_ThumbCoreModel t_ThumbCoreModel t_ThumbCoreModel_ok n_ThumbCoreModel hown hK hP hD hS 0 rfl rfl 0 (by decide) (hts _ wf_ThumbCoreModel_30) (fun _ h9 => h9) rfl hin rfl (by decide +kernel) rfl rfl (Nat.le_of_ble_eq_true rfl) d_ThumbCoreModel_init_86 (fun H locs hP hD hS => ?_)
    have hP : va_P D tcl [(h, .inr (5, [.int (tsz x), .ref q_mem, .ref q_reg, .int (bI false), .int (bI false), .int (bI false), .int (bI false), .ref q_kept, .int 0, .int (bI false), .int 0, .int 0, .int (bI false), .int (bI false), .int (bI false), .int (bI false), .int (bI false), .int 0, .int 0, .int 0, .ref q_pen, .ref q_act, .ref q_pri])), (q_mem, .inl (cB, 2048, .inl (fun _ => 0))), (q_reg, .inl (cI, 16, .inl (fun _ => 0))), (q_kept, .inl (cI, 16, .inl (fun _ => 0))), (q_pen, .inl (cZ, 16, .inl (fun _ => bI false))), (q_act, .inl (cZ, 16, .inl (fun _ => bI false))), (q_pri, .inl (cI, 16, .inl (fun _ => 0)))] H := hP
    have hD : va_D A [(h, .inr (5, [.int (tsz x), .ref q_mem, .ref q_reg, .int (bI false), .int (bI false), .int (bI false), .int (bI false), .ref q_kept, .int 0, .int (bI false), .int 0, .int 0, .int (bI false), .int (bI false), .int (bI false), .int (bI false), .int (bI false), .int 0, .int 0, .int 0, .ref q_pen, .ref q_act, .ref q_pri])), (q_mem, .inl (cB, 2048, .inl (fun _ => 0))), (q_reg, .inl (cI, 16, .inl (fun _ => 0))), (q_kept, .inl (cI, 16, .inl (fun _ => 0))), (q_pen, .inl (cZ, 16, .inl (fun _ => bI false))), (q_act, .inl (cZ, 16, .inl (fun _ => bI false))), (q_pri, .inl (cI, 16, .inl (fun _ => 0)))] := hD
    refine lv_aload_n hx hb d_ThumbCoreModel_init_89 rfl (lv_at hl 1 rfl) ?_
    refine va_get (D := D) (ci := 5) (v := .ref q_pri) (C := R_ThumbCoreModel) (T := F_ThumbCoreModel) (N := 23) hx hb hts u_ThumbCoreModel hown hK hP 0 rfl rfl 22 (by decide) (hts _ wf_ThumbCoreModel_27) (fun _ h9 => h9) rfl d_ThumbCoreModel_init_90 ?_
    refine lv_iconst (v := 2) hx hb d_ThumbCoreModel_init_93 (by decide) ?_
    refine lv_bipush (v := (-2)) hx hb d_ThumbCoreModel_init_94 (by decide) ?_
    refine va_iast hx hb hK hP hD hS 6 0 rfl rfl (by show ¬ (_ ∨ _); decide) d_ThumbCoreModel_init_96 (fun H locs hP hD hS => ?_)
    have hP : va_P D tcl [(h, .inr (5, [.int (tsz x), .ref q_mem, .ref q_reg, .int (bI false), .int (bI false), .int (bI false), .int (bI false), .ref q_kept, .int 0, .int (bI false), .int 0, .int 0, .int (bI false), .int (bI false), .int (bI false), .int (bI false), .int (bI false), .int 0, .int 0, .int 0, .ref q_pen, .ref q_act, .ref q_pri])), (q_mem, .inl (cB, 2048, .inl (fun _ => 0))), (q_reg, .inl (cI, 16, .inl (fun _ => 0))), (q_kept, .inl (cI, 16, .inl (fun _ => 0))), (q_pen, .inl (cZ, 16, .inl (fun _ => bI false))), (q_act, .inl (cZ, 16, .inl (fun _ => bI false))), (q_pri, .inl (cI, 16, .inl (upd (fun _ => 0) (2 : Int32).toNatClampNeg (-2))))] H := hP
    have hD : va_D A [(h, .inr (5, [.int (tsz x), .ref q_mem, .ref q_reg, .int (bI false), .int (bI false), .int (bI false), .int (bI false), .ref q_kept, .int 0, .int (bI false), .int 0, .int 0, .int (bI false), .int (bI false), .int (bI false), .int (bI false), .int (bI false), .int 0, .int 0, .int 0, .ref q_pen, .ref q_act, .ref q_pri])), (q_mem, .inl (cB, 2048, .inl (fun _ => 0))), (q_reg, .inl (cI, 16, .inl (fun _ => 0))), (q_kept, .inl (cI, 16, .inl (fun _ => 0))), (q_pen, .inl (cZ, 16, .inl (fun _ => bI false))), (q_act, .inl (cZ, 16, .inl (fun _ => bI false))), (q_pri, .inl (cI, 16, .inl (upd (fun _ => 0) (2 : Int32).toNatClampNeg (-2))))] := hD
    refine lv_aload_n hx hb d_ThumbCoreModel_init_97 rfl (lv_at hl 1 rfl) ?_
    refine va_get (D := D) (ci := 5) (v := .ref q_pri) (C := R_ThumbCoreModel) (T := F_ThumbCoreModel) (N := 23) hx hb hts u_ThumbCoreModel hown hK hP 0 rfl rfl 22 (by decide) (hts _ wf_ThumbCoreModel_27) (fun _ h9 => h9) rfl d_ThumbCoreModel_init_98 ?_
    refine lv_iconst (v := 3) hx hb d_ThumbCoreModel_init_101 (by decide) ?_
    refine lv_iconst (v := (-1)) hx hb d_ThumbCoreModel_init_102 (by decide) ?_
    refine va_iast hx hb hK hP hD hS 6 0 rfl rfl (by show ¬ (_ ∨ _); decide) d_ThumbCoreModel_init_103 (fun H locs hP hD hS => ?_)
    have hP : va_P D tcl (wd_ThumbCoreModel cI cB cZ h q_mem q_reg q_kept q_pen q_act q_pri (tsz x) false false false false 0 false 0 0 false false false false false 0 0 0 (fun _ => 0) (fun _ => 0) (fun _ => 0) (fun _ => false) (fun _ => false) pr0) H := hP
    have hD : va_D A (wd_ThumbCoreModel cI cB cZ h q_mem q_reg q_kept q_pen q_act q_pri (tsz x) false false false false 0 false 0 0 false false false false false 0 0 0 (fun _ => 0) (fun _ => 0) (fun _ => 0) (fun _ => false) (fun _ => false) pr0) := hD
    refine lv_aload_n hx hb d_ThumbCoreModel_init_104 rfl (lv_at hl 1 rfl) ?_
    refine tc_mv (wo := fun u : Bool × Bool × Bool × Bool × Bool × Bool × Bool × Bool × Bool × Int32 × Int32 × Int32 × (Nat → Int32) × (Nat → Bool) × (Nat → Bool) => wd_ThumbCoreModel cI cB cZ h q_mem q_reg q_kept q_pen q_act q_pri (tsz x) u.1 u.2.1 u.2.2.1 u.2.2.2.1 0 u.2.2.2.2.1 0 0 false u.2.2.2.2.2.1 u.2.2.2.2.2.2.1 u.2.2.2.2.2.2.2.1 u.2.2.2.2.2.2.2.2.1 u.2.2.2.2.2.2.2.2.2.1 u.2.2.2.2.2.2.2.2.2.2.1 u.2.2.2.2.2.2.2.2.2.2.2.1 (fun _ => 0) u.2.2.2.2.2.2.2.2.2.2.2.2.1 (fun _ => 0) u.2.2.2.2.2.2.2.2.2.2.2.2.2.1 u.2.2.2.2.2.2.2.2.2.2.2.2.2.2 pr0) (va_runV (As := []) (rest := []) ⟨hx, hb, hml, hown, hts⟩ (c_ThumbCoreModel_reset l D cI cB cZ h q_mem q_reg q_kept q_pen q_act q_pri H.size (tsz x) false false false false 0 false 0 0 false false false false false 0 0 0 (fun _ => 0) (fun _ => 0) (fun _ => 0) (fun _ => false) (fun _ => false) pr0 hmr) (cwV 0 hts (tc_gV wl_ThumbCoreModel_34 wm_ThumbCoreModel_reset ws_ThumbCoreModel_reset wi_ThumbCoreModel wc_ThumbCoreModel_reset) rfl rfl rfl (by decide +kernel) ⟨(Nat.le_of_ble_eq_true rfl), (Nat.le_of_ble_eq_true rfl)⟩) (tc_preV hK hN hP hD [0, 1, 2, 3, 4, 5, 6] rfl (by decide) (q0 := 0) rfl rfl) rfl rfl hl.1 rfl (lv_room (Nat.le_of_ble_eq_true rfl)) d_ThumbCoreModel_init_105 (by decide)) hP hD hS hA [0, 1, 2, 3, 4, 5, 6] [] [0, 1, 2, 3, 4, 5, 6] rfl rfl (by decide) (by decide) (by decide) (fun _ => rfl) (fun u H locs hu hP hD hS => ?_)
    subst hu
    exact RET _ _ _ 108 (q_mem, q_reg, q_kept, q_pen, q_act, q_pri) d_ThumbCoreModel_init_108 hP hD hS
  refine lv_iload_n hx hb d_ThumbCoreModel_init_59 rfl (lv_at hl 0 rfl) ?_
  refine lv_sipush (v := 128) hx hb d_ThumbCoreModel_init_60 (by decide) ?_
  refine lv_icmp_ge (tgt := 72) hx hb d_ThumbCoreModel_init_63 (by decide) (fun g1 => ?_) (fun g1 => ?_)
  · refine lv_iload_n hx hb d_ThumbCoreModel_init_72 rfl (lv_at hl 0 rfl) ?_
    refine lv_sipush (v := 2048) hx hb d_ThumbCoreModel_init_73 (by decide) ?_
    refine lv_icmp_le (tgt := 85) hx hb d_ThumbCoreModel_init_76 (by decide) (fun g2 => ?_) (fun g2 => ?_)
    · refine lv_iload_n hx hb d_ThumbCoreModel_init_85 rfl (lv_at hl 0 rfl) ?_
      exact J86 _ (tsz_b g1 g2)
    · refine lv_sipush (v := 2048) hx hb d_ThumbCoreModel_init_79 (by decide) ?_
      refine lv_goto (tgt := 86) hx hb d_ThumbCoreModel_init_82 (by decide) ?_
      exact J86 _ (tsz_c g2)
  · refine lv_sipush (v := 128) hx hb d_ThumbCoreModel_init_66 (by decide) ?_
    refine lv_goto (tgt := 86) hx hb d_ThumbCoreModel_init_69 (by decide) ?_
    exact J86 _ (tsz_a g1)

/-! printed by wip/whole/gen_walks.py -/
theorem d_BR_closeAll_0 : decode b_BR_closeAll 0 = .ok (.aload_n 0, 1) := by decide +kernel
theorem d_BR_closeAll_1 : decode b_BR_closeAll 1 = .ok (.iconst 0, 1) := by decide +kernel
theorem d_BR_closeAll_2 : decode b_BR_closeAll 2 = .ok (.putfield 13, 3) := by decide +kernel
theorem d_BR_closeAll_5 : decode b_BR_closeAll 5 = .ok (.return_, 1) := by decide +kernel
theorem wp_BR_13 : xh_Fp "SpendScript$Branches" 13 3 1 := ⟨R_BR, F_BR, 2, t_BR, rfl, by decide, iw_BR, (sp_tb (List.mem_of_getElem? (i := 83) (by decide +kernel))), tk_BR, nk_BR, rfl, rfl⟩
abbrev rm_BR_closeAll : Room := { frames := 0, cells := 0, slots := 0, locals := 0 }
def fx_BR_closeAll (X : xh_T) : Option (Unit × xh_T) :=
  xh_n (xh_i X 203 1 0) (fun X1 : xh_T =>
  some ((), X1))
set_option maxRecDepth 100000 in
set_option maxHeartbeats 4000000 in
theorem cx_BR_closeAll (l : Launch) (D : va_G) (G : xh_G) (hD : xh_D G) (X : xh_T) : xh_M xh_Qv l D G y_BR_closeAll b_BR_closeAll 1 none rm_BR_closeAll [.ref (G.1 203)] X (fx_BR_closeAll X) := by
  refine xh_enter (ls := [(0, .ref (G.1 203))]) hD (by decide +kernel) (Nat.le_of_ble_eq_true rfl) rfl ?_
  intro p e s m args below meth c hz hr hlk
  unfold fx_BR_closeAll
  refine jr_aload_n hz d_BR_closeAll_0 rfl 0 rfl ?_
  refine jr_iconst (v := 0) hz d_BR_closeAll_1 (by decide) ?_
  refine jr_puti hz lq_203 ly_203 rfl wp_BR_13 d_BR_closeAll_2 (fun X1 => ?_)
  exact jr_vret hz hr hlk d_BR_closeAll_5
theorem d_BR_anyOpen_0 : decode b_BR_anyOpen 0 = .ok (.aload_n 0, 1) := by decide +kernel
theorem d_BR_anyOpen_1 : decode b_BR_anyOpen 1 = .ok (.getfield 13, 3) := by decide +kernel
theorem d_BR_anyOpen_4 : decode b_BR_anyOpen 4 = .ok (.ifCond .le 7, 3) := by decide +kernel
theorem d_BR_anyOpen_7 : decode b_BR_anyOpen 7 = .ok (.iconst 1, 1) := by decide +kernel
theorem d_BR_anyOpen_8 : decode b_BR_anyOpen 8 = .ok (.goto 4, 3) := by decide +kernel
theorem d_BR_anyOpen_11 : decode b_BR_anyOpen 11 = .ok (.iconst 0, 1) := by decide +kernel
theorem d_BR_anyOpen_12 : decode b_BR_anyOpen 12 = .ok (.ireturn, 1) := by decide +kernel
theorem wf_BR_13 : xh_F "SpendScript$Branches" 13 3 1 := ⟨R_BR, F_BR, 2, rfl, by decide, iw_BR, (sp_tb (List.mem_of_getElem? (i := 83) (by decide +kernel)))⟩
abbrev rm_BR_anyOpen : Room := { frames := 0, cells := 0, slots := 0, locals := 0 }
def fx_BR_anyOpen (X : xh_T) : Option (Int32 × xh_T) :=
  if X.1 203 1 ≤ 0 then
  some (0, X)
  else some (1, X)
set_option maxRecDepth 100000 in
set_option maxHeartbeats 4000000 in
theorem cx_BR_anyOpen (l : Launch) (D : va_G) (G : xh_G) (hD : xh_D G) (X : xh_T) : xh_M xh_Qi l D G y_BR_anyOpen b_BR_anyOpen 1 (some .boolean) rm_BR_anyOpen [.ref (G.1 203)] X (fx_BR_anyOpen X) := by
  refine xh_enter (ls := [(0, .ref (G.1 203))]) hD (by decide +kernel) (Nat.le_of_ble_eq_true rfl) rfl ?_
  intro p e s m args below meth c hz hr hlk
  unfold fx_BR_anyOpen
  refine jr_aload_n hz d_BR_anyOpen_0 rfl 0 rfl ?_
  refine jr_geti (j := 1) hz lq_203 ly_203 rfl wf_BR_13 d_BR_anyOpen_1 ?_
  refine jr_if_le (tgt := 11) hz d_BR_anyOpen_4 (by decide) ?_ ?_
  · refine jr_iconst (v := 0) hz d_BR_anyOpen_11 (by decide) ?_
    exact jr_zret hz hr hlk (by decide) d_BR_anyOpen_12
  · refine jr_iconst (v := 1) hz d_BR_anyOpen_7 (by decide) ?_
    refine jr_goto (tgt := 12) hz d_BR_anyOpen_8 (by decide) ?_
    exact jr_zret hz hr hlk (by decide) d_BR_anyOpen_12
theorem d_BR_mayOpen_0 : decode b_BR_mayOpen 0 = .ok (.aload_n 0, 1) := by decide +kernel
theorem d_BR_mayOpen_1 : decode b_BR_mayOpen 1 = .ok (.getfield 13, 3) := by decide +kernel
theorem d_BR_mayOpen_4 : decode b_BR_mayOpen 4 = .ok (.bipush 8, 2) := by decide +kernel
theorem d_BR_mayOpen_6 : decode b_BR_mayOpen 6 = .ok (.if_icmp .ge 7, 3) := by decide +kernel
theorem d_BR_mayOpen_9 : decode b_BR_mayOpen 9 = .ok (.iconst 1, 1) := by decide +kernel
theorem d_BR_mayOpen_10 : decode b_BR_mayOpen 10 = .ok (.goto 4, 3) := by decide +kernel
theorem d_BR_mayOpen_13 : decode b_BR_mayOpen 13 = .ok (.iconst 0, 1) := by decide +kernel
theorem d_BR_mayOpen_14 : decode b_BR_mayOpen 14 = .ok (.ireturn, 1) := by decide +kernel
abbrev rm_BR_mayOpen : Room := { frames := 0, cells := 0, slots := 0, locals := 0 }
def fx_BR_mayOpen (X : xh_T) : Option (Int32 × xh_T) :=
  if 8 ≤ X.1 203 1 then
  some (0, X)
  else some (1, X)
set_option maxRecDepth 100000 in
set_option maxHeartbeats 4000000 in
theorem cx_BR_mayOpen (l : Launch) (D : va_G) (G : xh_G) (hD : xh_D G) (X : xh_T) : xh_M xh_Qi l D G y_BR_mayOpen b_BR_mayOpen 1 (some .boolean) rm_BR_mayOpen [.ref (G.1 203)] X (fx_BR_mayOpen X) := by
  refine xh_enter (ls := [(0, .ref (G.1 203))]) hD (by decide +kernel) (Nat.le_of_ble_eq_true rfl) rfl ?_
  intro p e s m args below meth c hz hr hlk
  unfold fx_BR_mayOpen
  refine jr_aload_n hz d_BR_mayOpen_0 rfl 0 rfl ?_
  refine jr_geti (j := 1) hz lq_203 ly_203 rfl wf_BR_13 d_BR_mayOpen_1 ?_
  refine jr_bipush (v := 8) hz d_BR_mayOpen_4 (by decide) ?_
  refine jr_icmp_ge (tgt := 13) hz d_BR_mayOpen_6 (by decide) ?_ ?_
  · refine jr_iconst (v := 0) hz d_BR_mayOpen_13 (by decide) ?_
    exact jr_zret hz hr hlk (by decide) d_BR_mayOpen_14
  · refine jr_iconst (v := 1) hz d_BR_mayOpen_9 (by decide) ?_
    refine jr_goto (tgt := 14) hz d_BR_mayOpen_10 (by decide) ?_
    exact jr_zret hz hr hlk (by decide) d_BR_mayOpen_14
theorem d_BR_allActive_0 : decode b_BR_allActive 0 = .ok (.iconst 0, 1) := by decide +kernel
theorem d_BR_allActive_1 : decode b_BR_allActive 1 = .ok (.istore_n 1, 1) := by decide +kernel
theorem d_BR_allActive_2 : decode b_BR_allActive 2 = .ok (.iload_n 1, 1) := by decide +kernel
theorem d_BR_allActive_3 : decode b_BR_allActive 3 = .ok (.aload_n 0, 1) := by decide +kernel
theorem d_BR_allActive_4 : decode b_BR_allActive 4 = .ok (.getfield 13, 3) := by decide +kernel
theorem d_BR_allActive_7 : decode b_BR_allActive 7 = .ok (.if_icmp .ge 20, 3) := by decide +kernel
theorem d_BR_allActive_10 : decode b_BR_allActive 10 = .ok (.aload_n 0, 1) := by decide +kernel
theorem d_BR_allActive_11 : decode b_BR_allActive 11 = .ok (.getfield 9, 3) := by decide +kernel
theorem d_BR_allActive_14 : decode b_BR_allActive 14 = .ok (.iload_n 1, 1) := by decide +kernel
theorem d_BR_allActive_15 : decode b_BR_allActive 15 = .ok (.baload, 1) := by decide +kernel
theorem d_BR_allActive_16 : decode b_BR_allActive 16 = .ok (.ifCond .ne 5, 3) := by decide +kernel
theorem d_BR_allActive_19 : decode b_BR_allActive 19 = .ok (.iconst 0, 1) := by decide +kernel
theorem d_BR_allActive_20 : decode b_BR_allActive 20 = .ok (.ireturn, 1) := by decide +kernel
theorem d_BR_allActive_21 : decode b_BR_allActive 21 = .ok (.iinc 1 1, 3) := by decide +kernel
theorem d_BR_allActive_24 : decode b_BR_allActive 24 = .ok (.goto (-22), 3) := by decide +kernel
theorem d_BR_allActive_27 : decode b_BR_allActive 27 = .ok (.iconst 1, 1) := by decide +kernel
theorem d_BR_allActive_28 : decode b_BR_allActive 28 = .ok (.ireturn, 1) := by decide +kernel
theorem wf_BR_9 : xh_F "SpendScript$Branches" 9 3 0 := ⟨R_BR, F_BR, 2, rfl, by decide, iw_BR, (sp_tb (List.mem_of_getElem? (i := 82) (by decide +kernel)))⟩
abbrev rm_BR_allActive : Room := { frames := 0, cells := 0, slots := 0, locals := 0 }
def fx_BR_allActive_b2 : Nat → Int32 → xh_T → Option (Int32 × xh_T)
  | 0, _, _ => none
  | n + 1, a1, X => if X.1 203 1 ≤ a1 then
  some (1, X)
  else xh_o a1 8 (if (X.1 204 a1.toNatClampNeg) = 0 then
  some (0, X)
  else xh_n (a1 + 1) (fun v2 : Int32 =>
  fx_BR_allActive_b2 n v2 X))
set_option maxRecDepth 100000 in
set_option maxHeartbeats 4000000 in
theorem jb_BR_allActive_b2 {p : Program} {l : Launch} {e : Env} {s : State} {m : MethodId} {args : Array Value} {below : List Frame} {meth : Method} {c : Code} {D : va_G} {G : xh_G} (hz : xh_C p s m args c b_BR_allActive 2 "SpendScript$Branches" D G (xh_A G s.heap.size)) (hr : meth.sig.returnType = (some .boolean)) (hlk : meth.locks = false) : ∀ (n : Nat) (a1 : Int32) (X : xh_T), xh_J p l e rm_BR_allActive s m args below meth c 0 0 D G (xh_A G s.heap.size) 2 (fun r X' => MQ below (xh_Qi D G (xh_A G s.heap.size) r X') args s 0 0 (xh_A G s.heap.size)) 2 [(0, .ref (G.1 203)), (1, .int a1)] [] X (fx_BR_allActive_b2 n a1 X) := by
  intro n
  induction n with
  | zero => intro a1 X; exact jr_none
  | succ n ih =>
    intro a1 X
    rw [fx_BR_allActive_b2]
    refine jr_iload_n hz d_BR_allActive_2 rfl 1 rfl ?_
    refine jr_aload_n hz d_BR_allActive_3 rfl 0 rfl ?_
    refine jr_geti (j := 1) hz lq_203 ly_203 rfl wf_BR_13 d_BR_allActive_4 ?_
    refine jr_icmp_ge (tgt := 27) hz d_BR_allActive_7 (by decide) ?_ ?_
    · refine jr_iconst (v := 1) hz d_BR_allActive_27 (by decide) ?_
      exact jr_zret hz hr hlk (by decide) d_BR_allActive_28
    · refine jr_aload_n hz d_BR_allActive_10 rfl 0 rfl ?_
      refine jr_getr (j := 0) (t := 204) hz lq_203 ly_203 rfl wf_BR_9 d_BR_allActive_11 ?_
      refine jr_iload_n hz d_BR_allActive_14 rfl 1 rfl ?_
      refine jr_zald (n := 8) hz lq_204 ly_204 d_BR_allActive_15 ?_
      refine jr_if_ne (tgt := 21) hz d_BR_allActive_16 (by decide) ?_ ?_
      · refine jr_iinc (lf := [(0, .ref (G.1 203))]) (w := 1) hz d_BR_allActive_21 1 rfl (by decide) (by decide) rfl (fun v2 => ?_)
        refine jr_goto (tgt := 2) hz d_BR_allActive_24 (by decide) ?_
        refine jr_sub (ls' := [(0, .ref (G.1 203)), (1, .int v2)]) [1, 0] rfl ?_
        exact ih v2 X
      · refine jr_iconst (v := 0) hz d_BR_allActive_19 (by decide) ?_
        exact jr_zret hz hr hlk (by decide) d_BR_allActive_20
def fx_BR_allActive (X : xh_T) : Option (Int32 × xh_T) :=
  xh_n 0 (fun v1 : Int32 =>
  fx_BR_allActive_b2 sp_fuel v1 X)
set_option maxRecDepth 100000 in
set_option maxHeartbeats 4000000 in
theorem cx_BR_allActive (l : Launch) (D : va_G) (G : xh_G) (hD : xh_D G) (X : xh_T) : xh_M xh_Qi l D G y_BR_allActive b_BR_allActive 2 (some .boolean) rm_BR_allActive [.ref (G.1 203)] X (fx_BR_allActive X) := by
  refine xh_enter (ls := [(0, .ref (G.1 203))]) hD (by decide +kernel) (Nat.le_of_ble_eq_true rfl) rfl ?_
  intro p e s m args below meth c hz hr hlk
  unfold fx_BR_allActive
  refine jr_iconst (v := 0) hz d_BR_allActive_0 (by decide) ?_
  refine jr_istore_n (lf := [(0, .ref (G.1 203))]) hz d_BR_allActive_1 rfl (by decide) rfl (fun v1 => ?_)
  refine jr_sub (ls' := [(0, .ref (G.1 203)), (1, .int v1)]) [1, 0] rfl ?_
  exact jb_BR_allActive_b2 hz hr hlk sp_fuel v1 X
theorem d_BR_openOne_0 : decode b_BR_openOne 0 = .ok (.aload_n 0, 1) := by decide +kernel
theorem d_BR_openOne_1 : decode b_BR_openOne 1 = .ok (.invokevirtual 17, 3) := by decide +kernel
theorem d_BR_openOne_4 : decode b_BR_openOne 4 = .ok (.ifCond .eq 23, 3) := by decide +kernel
theorem d_BR_openOne_7 : decode b_BR_openOne 7 = .ok (.aload_n 0, 1) := by decide +kernel
theorem d_BR_openOne_8 : decode b_BR_openOne 8 = .ok (.getfield 9, 3) := by decide +kernel
theorem d_BR_openOne_11 : decode b_BR_openOne 11 = .ok (.aload_n 0, 1) := by decide +kernel
theorem d_BR_openOne_12 : decode b_BR_openOne 12 = .ok (.getfield 13, 3) := by decide +kernel
theorem d_BR_openOne_15 : decode b_BR_openOne 15 = .ok (.iload_n 1, 1) := by decide +kernel
theorem d_BR_openOne_16 : decode b_BR_openOne 16 = .ok (.bastore, 1) := by decide +kernel
theorem d_BR_openOne_17 : decode b_BR_openOne 17 = .ok (.aload_n 0, 1) := by decide +kernel
theorem d_BR_openOne_18 : decode b_BR_openOne 18 = .ok (.dup, 1) := by decide +kernel
theorem d_BR_openOne_19 : decode b_BR_openOne 19 = .ok (.getfield 13, 3) := by decide +kernel
theorem d_BR_openOne_22 : decode b_BR_openOne 22 = .ok (.iconst 1, 1) := by decide +kernel
theorem d_BR_openOne_23 : decode b_BR_openOne 23 = .ok (.iadd, 1) := by decide +kernel
theorem d_BR_openOne_24 : decode b_BR_openOne 24 = .ok (.putfield 13, 3) := by decide +kernel
theorem d_BR_openOne_27 : decode b_BR_openOne 27 = .ok (.return_, 1) := by decide +kernel
theorem wv_BR_17 : xh_V "SpendScript$Branches" 17 3 y_BR_mayOpen b_BR_mayOpen 1 (some .boolean) 0 := ⟨(sp_tb (List.mem_of_getElem? (i := 287) (by decide +kernel))), (sp_tb (List.mem_of_getElem? (i := 6) (by decide +kernel))), (sp_tb (List.mem_of_getElem? (i := 292) (by decide +kernel))), ⟨by decide +kernel, by decide +kernel, by decide +kernel⟩, (sp_tb (List.mem_of_getElem? (i := 285) (by decide +kernel))), (sp_tb (List.mem_of_getElem? (i := 286) (by decide +kernel))), F_BR, 2, rfl⟩
abbrev rm_BR_openOne : Room := { frames := 1, cells := 0, slots := 0, locals := 20 }
def fx_BR_openOne (p1 : Int32) (X : xh_T) : Option (Unit × xh_T) :=
  xh_b (fx_BR_mayOpen X) (fun (r2 : Int32) (X1 : xh_T) =>
  if r2 = 0 then
  some ((), X1)
  else xh_o (X1.1 203 1) 8 (xh_n (xh_i X1 204 (X1.1 203 1 : Int32).toNatClampNeg (vp_nar .boolean p1)) (fun X2 : xh_T =>
  xh_n (xh_i X2 203 1 (X2.1 203 1 + 1)) (fun X3 : xh_T =>
  some ((), X3)))))
set_option maxRecDepth 100000 in
set_option maxHeartbeats 4000000 in
theorem cx_BR_openOne (l : Launch) (D : va_G) (G : xh_G) (hD : xh_D G) (p1 : Int32) (X : xh_T) : xh_M xh_Qv l D G y_BR_openOne b_BR_openOne 2 none rm_BR_openOne [.ref (G.1 203), .int p1] X (fx_BR_openOne p1 X) := by
  refine xh_enter (ls := [(0, .ref (G.1 203)), (1, .int p1)]) hD (by decide +kernel) (Nat.le_of_ble_eq_true rfl) rfl ?_
  intro p e s m args below meth c hz hr hlk
  unfold fx_BR_openOne
  refine jr_aload_n hz d_BR_openOne_0 rfl 0 rfl ?_
  refine jr_callVi (As := []) (a := 203) (ci := 3) (st := []) hz (cx_BR_mayOpen l D G hz.2.2.2.2.2.2.1 X) (fun _ _ => ⟨lq_203, _, ly_203⟩) wv_BR_17 ⟨rfl, rfl, Nat.le_of_ble_eq_true rfl, Nat.le_of_ble_eq_true rfl⟩ ⟨Nat.zero_le _, Nat.zero_le _⟩ rfl rfl (Nat.le_of_ble_eq_true rfl) d_BR_openOne_1 (fun r2 X1 => ?_)
  refine jr_if_eq (tgt := 27) hz d_BR_openOne_4 (by decide) ?_ ?_
  · exact jr_vret hz hr hlk d_BR_openOne_27
  · refine jr_aload_n hz d_BR_openOne_7 rfl 0 rfl ?_
    refine jr_getr (j := 0) (t := 204) hz lq_203 ly_203 rfl wf_BR_9 d_BR_openOne_8 ?_
    refine jr_aload_n hz d_BR_openOne_11 rfl 0 rfl ?_
    refine jr_geti (j := 1) hz lq_203 ly_203 rfl wf_BR_13 d_BR_openOne_12 ?_
    refine jr_iload_n hz d_BR_openOne_15 rfl 1 rfl ?_
    refine jr_zast (n := 8) hz lq_204 ly_204 d_BR_openOne_16 (fun X2 => ?_)
    refine jr_aload_n hz d_BR_openOne_17 rfl 0 rfl ?_
    refine jr_dup hz d_BR_openOne_18 rfl ?_
    refine jr_geti (j := 1) hz lq_203 ly_203 rfl wf_BR_13 d_BR_openOne_19 ?_
    refine jr_iconst (v := 1) hz d_BR_openOne_22 (by decide) ?_
    refine jr_iadd hz d_BR_openOne_23 ?_
    refine jr_puti hz lq_203 ly_203 rfl wp_BR_13 d_BR_openOne_24 (fun X3 => ?_)
    exact jr_vret hz hr hlk d_BR_openOne_27
theorem d_BR_flipLast_0 : decode b_BR_flipLast 0 = .ok (.aload_n 0, 1) := by decide +kernel
theorem d_BR_flipLast_1 : decode b_BR_flipLast 1 = .ok (.invokevirtual 21, 3) := by decide +kernel
theorem d_BR_flipLast_4 : decode b_BR_flipLast 4 = .ok (.ifCond .eq 33, 3) := by decide +kernel
theorem d_BR_flipLast_7 : decode b_BR_flipLast 7 = .ok (.aload_n 0, 1) := by decide +kernel
theorem d_BR_flipLast_8 : decode b_BR_flipLast 8 = .ok (.getfield 9, 3) := by decide +kernel
theorem d_BR_flipLast_11 : decode b_BR_flipLast 11 = .ok (.aload_n 0, 1) := by decide +kernel
theorem d_BR_flipLast_12 : decode b_BR_flipLast 12 = .ok (.getfield 13, 3) := by decide +kernel
theorem d_BR_flipLast_15 : decode b_BR_flipLast 15 = .ok (.iconst 1, 1) := by decide +kernel
theorem d_BR_flipLast_16 : decode b_BR_flipLast 16 = .ok (.isub, 1) := by decide +kernel
theorem d_BR_flipLast_17 : decode b_BR_flipLast 17 = .ok (.aload_n 0, 1) := by decide +kernel
theorem d_BR_flipLast_18 : decode b_BR_flipLast 18 = .ok (.getfield 9, 3) := by decide +kernel
theorem d_BR_flipLast_21 : decode b_BR_flipLast 21 = .ok (.aload_n 0, 1) := by decide +kernel
theorem d_BR_flipLast_22 : decode b_BR_flipLast 22 = .ok (.getfield 13, 3) := by decide +kernel
theorem d_BR_flipLast_25 : decode b_BR_flipLast 25 = .ok (.iconst 1, 1) := by decide +kernel
theorem d_BR_flipLast_26 : decode b_BR_flipLast 26 = .ok (.isub, 1) := by decide +kernel
theorem d_BR_flipLast_27 : decode b_BR_flipLast 27 = .ok (.baload, 1) := by decide +kernel
theorem d_BR_flipLast_28 : decode b_BR_flipLast 28 = .ok (.ifCond .ne 7, 3) := by decide +kernel
theorem d_BR_flipLast_31 : decode b_BR_flipLast 31 = .ok (.iconst 1, 1) := by decide +kernel
theorem d_BR_flipLast_32 : decode b_BR_flipLast 32 = .ok (.goto 4, 3) := by decide +kernel
theorem d_BR_flipLast_35 : decode b_BR_flipLast 35 = .ok (.iconst 0, 1) := by decide +kernel
theorem d_BR_flipLast_36 : decode b_BR_flipLast 36 = .ok (.bastore, 1) := by decide +kernel
theorem d_BR_flipLast_37 : decode b_BR_flipLast 37 = .ok (.return_, 1) := by decide +kernel
theorem wv_BR_21 : xh_V "SpendScript$Branches" 21 3 y_BR_anyOpen b_BR_anyOpen 1 (some .boolean) 0 := ⟨(sp_tb (List.mem_of_getElem? (i := 319) (by decide +kernel))), (sp_tb (List.mem_of_getElem? (i := 6) (by decide +kernel))), (sp_tb (List.mem_of_getElem? (i := 324) (by decide +kernel))), ⟨by decide +kernel, by decide +kernel, by decide +kernel⟩, (sp_tb (List.mem_of_getElem? (i := 317) (by decide +kernel))), (sp_tb (List.mem_of_getElem? (i := 318) (by decide +kernel))), F_BR, 2, rfl⟩
abbrev rm_BR_flipLast : Room := { frames := 1, cells := 0, slots := 0, locals := 20 }
def fx_BR_flipLast (X : xh_T) : Option (Unit × xh_T) :=
  xh_b (fx_BR_anyOpen X) (fun (r2 : Int32) (X1 : xh_T) =>
  if r2 = 0 then
  some ((), X1)
  else xh_o (X1.1 203 1 - 1) 8 (if (X1.1 204 ((X1.1 203 1 - 1)).toNatClampNeg) = 0 then
  xh_o (X1.1 203 1 - 1) 8 (xh_n (xh_i X1 204 ((X1.1 203 1 - 1) : Int32).toNatClampNeg (vp_nar .boolean 1)) (fun X3 : xh_T =>
  some ((), X3)))
  else xh_o (X1.1 203 1 - 1) 8 (xh_n (xh_i X1 204 ((X1.1 203 1 - 1) : Int32).toNatClampNeg (vp_nar .boolean 0)) (fun X2 : xh_T =>
  some ((), X2)))))
set_option maxRecDepth 100000 in
set_option maxHeartbeats 4000000 in
theorem cx_BR_flipLast (l : Launch) (D : va_G) (G : xh_G) (hD : xh_D G) (X : xh_T) : xh_M xh_Qv l D G y_BR_flipLast b_BR_flipLast 1 none rm_BR_flipLast [.ref (G.1 203)] X (fx_BR_flipLast X) := by
  refine xh_enter (ls := [(0, .ref (G.1 203))]) hD (by decide +kernel) (Nat.le_of_ble_eq_true rfl) rfl ?_
  intro p e s m args below meth c hz hr hlk
  unfold fx_BR_flipLast
  refine jr_aload_n hz d_BR_flipLast_0 rfl 0 rfl ?_
  refine jr_callVi (As := []) (a := 203) (ci := 3) (st := []) hz (cx_BR_anyOpen l D G hz.2.2.2.2.2.2.1 X) (fun _ _ => ⟨lq_203, _, ly_203⟩) wv_BR_21 ⟨rfl, rfl, Nat.le_of_ble_eq_true rfl, Nat.le_of_ble_eq_true rfl⟩ ⟨Nat.zero_le _, Nat.zero_le _⟩ rfl rfl (Nat.le_of_ble_eq_true rfl) d_BR_flipLast_1 (fun r2 X1 => ?_)
  refine jr_if_eq (tgt := 37) hz d_BR_flipLast_4 (by decide) ?_ ?_
  · exact jr_vret hz hr hlk d_BR_flipLast_37
  · refine jr_aload_n hz d_BR_flipLast_7 rfl 0 rfl ?_
    refine jr_getr (j := 0) (t := 204) hz lq_203 ly_203 rfl wf_BR_9 d_BR_flipLast_8 ?_
    refine jr_aload_n hz d_BR_flipLast_11 rfl 0 rfl ?_
    refine jr_geti (j := 1) hz lq_203 ly_203 rfl wf_BR_13 d_BR_flipLast_12 ?_
    refine jr_iconst (v := 1) hz d_BR_flipLast_15 (by decide) ?_
    refine jr_isub hz d_BR_flipLast_16 ?_
    refine jr_aload_n hz d_BR_flipLast_17 rfl 0 rfl ?_
    refine jr_getr (j := 0) (t := 204) hz lq_203 ly_203 rfl wf_BR_9 d_BR_flipLast_18 ?_
    refine jr_aload_n hz d_BR_flipLast_21 rfl 0 rfl ?_
    refine jr_geti (j := 1) hz lq_203 ly_203 rfl wf_BR_13 d_BR_flipLast_22 ?_
    refine jr_iconst (v := 1) hz d_BR_flipLast_25 (by decide) ?_
    refine jr_isub hz d_BR_flipLast_26 ?_
    refine jr_zald (n := 8) hz lq_204 ly_204 d_BR_flipLast_27 ?_
    refine jr_if_ne (tgt := 35) hz d_BR_flipLast_28 (by decide) ?_ ?_
    · refine jr_iconst (v := 0) hz d_BR_flipLast_35 (by decide) ?_
      refine jr_zast (n := 8) hz lq_204 ly_204 d_BR_flipLast_36 (fun X2 => ?_)
      exact jr_vret hz hr hlk d_BR_flipLast_37
    · refine jr_iconst (v := 1) hz d_BR_flipLast_31 (by decide) ?_
      refine jr_goto (tgt := 36) hz d_BR_flipLast_32 (by decide) ?_
      refine jr_zast (n := 8) hz lq_204 ly_204 d_BR_flipLast_36 (fun X3 => ?_)
      exact jr_vret hz hr hlk d_BR_flipLast_37
theorem d_BR_closeLast_0 : decode b_BR_closeLast 0 = .ok (.aload_n 0, 1) := by decide +kernel
theorem d_BR_closeLast_1 : decode b_BR_closeLast 1 = .ok (.invokevirtual 21, 3) := by decide +kernel
theorem d_BR_closeLast_4 : decode b_BR_closeLast 4 = .ok (.ifCond .eq 13, 3) := by decide +kernel
theorem d_BR_closeLast_7 : decode b_BR_closeLast 7 = .ok (.aload_n 0, 1) := by decide +kernel
theorem d_BR_closeLast_8 : decode b_BR_closeLast 8 = .ok (.dup, 1) := by decide +kernel
theorem d_BR_closeLast_9 : decode b_BR_closeLast 9 = .ok (.getfield 13, 3) := by decide +kernel
theorem d_BR_closeLast_12 : decode b_BR_closeLast 12 = .ok (.iconst 1, 1) := by decide +kernel
theorem d_BR_closeLast_13 : decode b_BR_closeLast 13 = .ok (.isub, 1) := by decide +kernel
theorem d_BR_closeLast_14 : decode b_BR_closeLast 14 = .ok (.putfield 13, 3) := by decide +kernel
theorem d_BR_closeLast_17 : decode b_BR_closeLast 17 = .ok (.return_, 1) := by decide +kernel
abbrev rm_BR_closeLast : Room := { frames := 1, cells := 0, slots := 0, locals := 20 }
def fx_BR_closeLast (X : xh_T) : Option (Unit × xh_T) :=
  xh_b (fx_BR_anyOpen X) (fun (r2 : Int32) (X1 : xh_T) =>
  if r2 = 0 then
  some ((), X1)
  else xh_n (xh_i X1 203 1 (X1.1 203 1 - 1)) (fun X2 : xh_T =>
  some ((), X2)))
set_option maxRecDepth 100000 in
set_option maxHeartbeats 4000000 in
theorem cx_BR_closeLast (l : Launch) (D : va_G) (G : xh_G) (hD : xh_D G) (X : xh_T) : xh_M xh_Qv l D G y_BR_closeLast b_BR_closeLast 1 none rm_BR_closeLast [.ref (G.1 203)] X (fx_BR_closeLast X) := by
  refine xh_enter (ls := [(0, .ref (G.1 203))]) hD (by decide +kernel) (Nat.le_of_ble_eq_true rfl) rfl ?_
  intro p e s m args below meth c hz hr hlk
  unfold fx_BR_closeLast
  refine jr_aload_n hz d_BR_closeLast_0 rfl 0 rfl ?_
  refine jr_callVi (As := []) (a := 203) (ci := 3) (st := []) hz (cx_BR_anyOpen l D G hz.2.2.2.2.2.2.1 X) (fun _ _ => ⟨lq_203, _, ly_203⟩) wv_BR_21 ⟨rfl, rfl, Nat.le_of_ble_eq_true rfl, Nat.le_of_ble_eq_true rfl⟩ ⟨Nat.zero_le _, Nat.zero_le _⟩ rfl rfl (Nat.le_of_ble_eq_true rfl) d_BR_closeLast_1 (fun r2 X1 => ?_)
  refine jr_if_eq (tgt := 17) hz d_BR_closeLast_4 (by decide) ?_ ?_
  · exact jr_vret hz hr hlk d_BR_closeLast_17
  · refine jr_aload_n hz d_BR_closeLast_7 rfl 0 rfl ?_
    refine jr_dup hz d_BR_closeLast_8 rfl ?_
    refine jr_geti (j := 1) hz lq_203 ly_203 rfl wf_BR_13 d_BR_closeLast_9 ?_
    refine jr_iconst (v := 1) hz d_BR_closeLast_12 (by decide) ?_
    refine jr_isub hz d_BR_closeLast_13 ?_
    refine jr_puti hz lq_203 ly_203 rfl wp_BR_13 d_BR_closeLast_14 (fun X2 => ?_)
    exact jr_vret hz hr hlk d_BR_closeLast_17

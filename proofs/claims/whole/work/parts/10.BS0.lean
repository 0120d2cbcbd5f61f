/-! printed by wip/whole/gen_walks.py -/
theorem wa_mmin_static : Cond.static Lib.Math.min.name ∈ sp_ws := (sp_tb (List.mem_of_getElem? (i := 385) (by decide +kernel)))
theorem wa_mmin_code : Cond.code Lib.Math.min.name Lib.Math.min.code 2 (some .int) ∈ sp_ws := (sp_tb (List.mem_of_getElem? (i := 386) (by decide +kernel)))
theorem wa_mmax_static : Cond.static Lib.Math.max.name ∈ sp_ws := (sp_tb (List.mem_of_getElem? (i := 310) (by decide +kernel)))
theorem wa_mmax_code : Cond.code Lib.Math.max.name Lib.Math.max.code 2 (some .int) ∈ sp_ws := (sp_tb (List.mem_of_getElem? (i := 311) (by decide +kernel)))
theorem wa_mabs_long_static : Cond.static Lib.MathLoose.abs_long.x ∈ sp_ws := (sp_tb (List.mem_of_getElem? (i := 269) (by decide +kernel)))
theorem wa_mabs_long_code : Cond.code Lib.MathLoose.abs_long.x Lib.MathLoose.abs_long.code 2 (some .long) ∈ sp_ws := (sp_tb (List.mem_of_getElem? (i := 270) (by decide +kernel)))
theorem wa_mmin_long_static : Cond.static Lib.MathLoose.min_long.x ∈ sp_ws := (sp_tb (List.mem_of_getElem? (i := 371) (by decide +kernel)))
theorem wa_mmin_long_code : Cond.code Lib.MathLoose.min_long.x Lib.MathLoose.min_long.code 4 (some .long) ∈ sp_ws := (sp_tb (List.mem_of_getElem? (i := 372) (by decide +kernel)))
theorem wa_mmax_long_static : Cond.static Lib.MathLoose.max_long.x ∈ sp_ws := (sp_tb (List.mem_of_getElem? (i := 374) (by decide +kernel)))
theorem wa_mmax_long_code : Cond.code Lib.MathLoose.max_long.x Lib.MathLoose.max_long.code 4 (some .long) ∈ sp_ws := (sp_tb (List.mem_of_getElem? (i := 375) (by decide +kernel)))
theorem wa_init_Math : Cond.initialized "java/lang/Math" ∈ sp_ws := (sp_tb (List.mem_of_getElem? (i := 10) (by decide +kernel)))
theorem wa_init_System : Cond.initialized "java/lang/System" ∈ sp_ws := (sp_tb (List.mem_of_getElem? (i := 9) (by decide +kernel)))
theorem wa_copy_native : Cond.native arraycopyName ∈ sp_ws := (sp_tb (List.mem_of_getElem? (i := 263) (by decide +kernel)))
theorem wa_copy_static : Cond.static arraycopyName ∈ sp_ws := (sp_tb (List.mem_of_getElem? (i := 262) (by decide +kernel)))
theorem d_BS_size_0 : decode b_BS_size 0 = .ok (.aload_n 0, 1) := by decide +kernel
theorem d_BS_size_1 : decode b_BS_size 1 = .ok (.getfield 15, 3) := by decide +kernel
theorem d_BS_size_4 : decode b_BS_size 4 = .ok (.ireturn, 1) := by decide +kernel
theorem wf_BS_15 : xh_F "SpendScript$ByteString" 15 0 1 := ⟨R_BS, F_BS, 2, rfl, by decide, iw_BS, (sp_tb (List.mem_of_getElem? (i := 26) (by decide +kernel)))⟩
abbrev rm_BS_size : Room := { frames := 0, cells := 0, slots := 0, locals := 0 }
def fx_BS_size (q : Nat) (X : xh_T) : Option (Int32 × xh_T) :=
  xh_k (sp_bs q) (
  some (X.1 q 1, X))
set_option maxRecDepth 100000 in
set_option maxHeartbeats 4000000 in
theorem cx_BS_size (l : Launch) (D : va_G) (G : xh_G) (hD : xh_D G) (q : Nat) (X : xh_T) : xh_M xh_Qi l D G y_BS_size b_BS_size 1 (some .int) rm_BS_size [.ref (G.1 q)] X (fx_BS_size q X) := by
  refine xh_enter (ls := [(0, .ref (G.1 q))]) hD (by decide +kernel) (Nat.le_of_ble_eq_true rfl) rfl ?_
  intro p e s m args below meth c hz hr hlk
  unfold fx_BS_size
  refine jr_k (fun hq => ?_)
  refine jr_aload_n hz d_BS_size_0 rfl 0 rfl ?_
  refine jr_geti (j := 1) hz (sp_bs_lt hq) (sp_bs_of hq).2.1 rfl wf_BS_15 d_BS_size_1 ?_
  exact jr_iret hz hr hlk d_BS_size_4
theorem d_BS_byteAt_0 : decode b_BS_byteAt 0 = .ok (.iload_n 1, 1) := by decide +kernel
theorem d_BS_byteAt_1 : decode b_BS_byteAt 1 = .ok (.ifCond .lt 20, 3) := by decide +kernel
theorem d_BS_byteAt_4 : decode b_BS_byteAt 4 = .ok (.iload_n 1, 1) := by decide +kernel
theorem d_BS_byteAt_5 : decode b_BS_byteAt 5 = .ok (.aload_n 0, 1) := by decide +kernel
theorem d_BS_byteAt_6 : decode b_BS_byteAt 6 = .ok (.getfield 15, 3) := by decide +kernel
theorem d_BS_byteAt_9 : decode b_BS_byteAt 9 = .ok (.if_icmp .ge 12, 3) := by decide +kernel
theorem d_BS_byteAt_12 : decode b_BS_byteAt 12 = .ok (.aload_n 0, 1) := by decide +kernel
theorem d_BS_byteAt_13 : decode b_BS_byteAt 13 = .ok (.getfield 9, 3) := by decide +kernel
theorem d_BS_byteAt_16 : decode b_BS_byteAt 16 = .ok (.iload_n 1, 1) := by decide +kernel
theorem d_BS_byteAt_17 : decode b_BS_byteAt 17 = .ok (.iaload, 1) := by decide +kernel
theorem d_BS_byteAt_18 : decode b_BS_byteAt 18 = .ok (.goto 4, 3) := by decide +kernel
theorem d_BS_byteAt_21 : decode b_BS_byteAt 21 = .ok (.iconst (-1), 1) := by decide +kernel
theorem d_BS_byteAt_22 : decode b_BS_byteAt 22 = .ok (.ireturn, 1) := by decide +kernel
theorem wf_BS_9 : xh_F "SpendScript$ByteString" 9 0 0 := ⟨R_BS, F_BS, 2, rfl, by decide, iw_BS, (sp_tb (List.mem_of_getElem? (i := 25) (by decide +kernel)))⟩
abbrev rm_BS_byteAt : Room := { frames := 0, cells := 0, slots := 0, locals := 0 }
def fx_BS_byteAt (q : Nat) (p1 : Int32) (X : xh_T) : Option (Int32 × xh_T) :=
  xh_k (sp_bs q) (
  if p1 < 0 then
  some ((-1), X)
  else if X.1 q 1 ≤ p1 then
  some ((-1), X)
  else xh_o p1 (sp_len (q + 1)) (some ((X.1 (q + 1) p1.toNatClampNeg), X)))
set_option maxRecDepth 100000 in
set_option maxHeartbeats 4000000 in
theorem cx_BS_byteAt (l : Launch) (D : va_G) (G : xh_G) (hD : xh_D G) (q : Nat) (p1 : Int32) (X : xh_T) : xh_M xh_Qi l D G y_BS_byteAt b_BS_byteAt 2 (some .int) rm_BS_byteAt [.ref (G.1 q), .int p1] X (fx_BS_byteAt q p1 X) := by
  refine xh_enter (ls := [(0, .ref (G.1 q)), (1, .int p1)]) hD (by decide +kernel) (Nat.le_of_ble_eq_true rfl) rfl ?_
  intro p e s m args below meth c hz hr hlk
  unfold fx_BS_byteAt
  refine jr_k (fun hq => ?_)
  refine jr_iload_n hz d_BS_byteAt_0 rfl 1 rfl ?_
  refine jr_if_lt (tgt := 21) hz d_BS_byteAt_1 (by decide) ?_ ?_
  · refine jr_iconst (v := (-1)) hz d_BS_byteAt_21 (by decide) ?_
    exact jr_iret hz hr hlk d_BS_byteAt_22
  · refine jr_iload_n hz d_BS_byteAt_4 rfl 1 rfl ?_
    refine jr_aload_n hz d_BS_byteAt_5 rfl 0 rfl ?_
    refine jr_geti (j := 1) hz (sp_bs_lt hq) (sp_bs_of hq).2.1 rfl wf_BS_15 d_BS_byteAt_6 ?_
    refine jr_icmp_ge (tgt := 21) hz d_BS_byteAt_9 (by decide) ?_ ?_
    · refine jr_iconst (v := (-1)) hz d_BS_byteAt_21 (by decide) ?_
      exact jr_iret hz hr hlk d_BS_byteAt_22
    · refine jr_aload_n hz d_BS_byteAt_12 rfl 0 rfl ?_
      refine jr_getr (j := 0) (t := (q + 1)) hz (sp_bs_lt hq) (sp_bs_of hq).2.1 rfl wf_BS_9 d_BS_byteAt_13 ?_
      refine jr_iload_n hz d_BS_byteAt_16 rfl 1 rfl ?_
      refine jr_iald (n := (sp_len (q + 1))) hz (sp_bs_of hq).1 (sp_bs_of hq).2.2 d_BS_byteAt_17 ?_
      refine jr_goto (tgt := 22) hz d_BS_byteAt_18 (by decide) ?_
      exact jr_iret hz hr hlk d_BS_byteAt_22
theorem d_BS_makeEmpty_0 : decode b_BS_makeEmpty 0 = .ok (.aload_n 0, 1) := by decide +kernel
theorem d_BS_makeEmpty_1 : decode b_BS_makeEmpty 1 = .ok (.iconst 0, 1) := by decide +kernel
theorem d_BS_makeEmpty_2 : decode b_BS_makeEmpty 2 = .ok (.putfield 15, 3) := by decide +kernel
theorem d_BS_makeEmpty_5 : decode b_BS_makeEmpty 5 = .ok (.return_, 1) := by decide +kernel
theorem wp_BS_15 : xh_Fp "SpendScript$ByteString" 15 0 1 := ⟨R_BS, F_BS, 2, t_BS, rfl, by decide, iw_BS, (sp_tb (List.mem_of_getElem? (i := 26) (by decide +kernel))), tk_BS, nk_BS, rfl, rfl⟩
abbrev rm_BS_makeEmpty : Room := { frames := 0, cells := 0, slots := 0, locals := 0 }
def fx_BS_makeEmpty (q : Nat) (X : xh_T) : Option (Unit × xh_T) :=
  xh_k (sp_bs q) (
  xh_n (xh_i X q 1 0) (fun X1 : xh_T =>
  some ((), X1)))
set_option maxRecDepth 100000 in
set_option maxHeartbeats 4000000 in
theorem cx_BS_makeEmpty (l : Launch) (D : va_G) (G : xh_G) (hD : xh_D G) (q : Nat) (X : xh_T) : xh_M xh_Qv l D G y_BS_makeEmpty b_BS_makeEmpty 1 none rm_BS_makeEmpty [.ref (G.1 q)] X (fx_BS_makeEmpty q X) := by
  refine xh_enter (ls := [(0, .ref (G.1 q))]) hD (by decide +kernel) (Nat.le_of_ble_eq_true rfl) rfl ?_
  intro p e s m args below meth c hz hr hlk
  unfold fx_BS_makeEmpty
  refine jr_k (fun hq => ?_)
  refine jr_aload_n hz d_BS_makeEmpty_0 rfl 0 rfl ?_
  refine jr_iconst (v := 0) hz d_BS_makeEmpty_1 (by decide) ?_
  refine jr_puti hz (sp_bs_lt hq) (sp_bs_of hq).2.1 rfl wp_BS_15 d_BS_makeEmpty_2 (fun X1 => ?_)
  exact jr_vret hz hr hlk d_BS_makeEmpty_5
theorem d_BS_append_0 : decode b_BS_append 0 = .ok (.aload_n 0, 1) := by decide +kernel
theorem d_BS_append_1 : decode b_BS_append 1 = .ok (.getfield 15, 3) := by decide +kernel
theorem d_BS_append_4 : decode b_BS_append 4 = .ok (.aload_n 0, 1) := by decide +kernel
theorem d_BS_append_5 : decode b_BS_append 5 = .ok (.getfield 9, 3) := by decide +kernel
theorem d_BS_append_8 : decode b_BS_append 8 = .ok (.arraylength, 1) := by decide +kernel
theorem d_BS_append_9 : decode b_BS_append 9 = .ok (.if_icmp .lt 5, 3) := by decide +kernel
theorem d_BS_append_12 : decode b_BS_append 12 = .ok (.iconst 0, 1) := by decide +kernel
theorem d_BS_append_13 : decode b_BS_append 13 = .ok (.ireturn, 1) := by decide +kernel
theorem d_BS_append_14 : decode b_BS_append 14 = .ok (.aload_n 0, 1) := by decide +kernel
theorem d_BS_append_15 : decode b_BS_append 15 = .ok (.getfield 9, 3) := by decide +kernel
theorem d_BS_append_18 : decode b_BS_append 18 = .ok (.aload_n 0, 1) := by decide +kernel
theorem d_BS_append_19 : decode b_BS_append 19 = .ok (.getfield 15, 3) := by decide +kernel
theorem d_BS_append_22 : decode b_BS_append 22 = .ok (.iload_n 1, 1) := by decide +kernel
theorem d_BS_append_23 : decode b_BS_append 23 = .ok (.sipush 255, 3) := by decide +kernel
theorem d_BS_append_26 : decode b_BS_append 26 = .ok (.iand, 1) := by decide +kernel
theorem d_BS_append_27 : decode b_BS_append 27 = .ok (.iastore, 1) := by decide +kernel
theorem d_BS_append_28 : decode b_BS_append 28 = .ok (.aload_n 0, 1) := by decide +kernel
theorem d_BS_append_29 : decode b_BS_append 29 = .ok (.dup, 1) := by decide +kernel
theorem d_BS_append_30 : decode b_BS_append 30 = .ok (.getfield 15, 3) := by decide +kernel
theorem d_BS_append_33 : decode b_BS_append 33 = .ok (.iconst 1, 1) := by decide +kernel
theorem d_BS_append_34 : decode b_BS_append 34 = .ok (.iadd, 1) := by decide +kernel
theorem d_BS_append_35 : decode b_BS_append 35 = .ok (.putfield 15, 3) := by decide +kernel
theorem d_BS_append_38 : decode b_BS_append 38 = .ok (.iconst 1, 1) := by decide +kernel
theorem d_BS_append_39 : decode b_BS_append 39 = .ok (.ireturn, 1) := by decide +kernel
abbrev rm_BS_append : Room := { frames := 0, cells := 0, slots := 0, locals := 0 }
def fx_BS_append (q : Nat) (p1 : Int32) (X : xh_T) : Option (Int32 × xh_T) :=
  xh_k (sp_bs q) (
  if X.1 q 1 < (nI (sp_len (q + 1))) then
  xh_o (X.1 q 1) (sp_len (q + 1)) (xh_n (xh_i X (q + 1) (X.1 q 1 : Int32).toNatClampNeg (p1 &&& 255)) (fun X1 : xh_T =>
  xh_n (xh_i X1 q 1 (X1.1 q 1 + 1)) (fun X2 : xh_T =>
  some (1, X2))))
  else some (0, X))
set_option maxRecDepth 100000 in
set_option maxHeartbeats 4000000 in
theorem cx_BS_append (l : Launch) (D : va_G) (G : xh_G) (hD : xh_D G) (q : Nat) (p1 : Int32) (X : xh_T) : xh_M xh_Qi l D G y_BS_append b_BS_append 2 (some .boolean) rm_BS_append [.ref (G.1 q), .int p1] X (fx_BS_append q p1 X) := by
  refine xh_enter (ls := [(0, .ref (G.1 q)), (1, .int p1)]) hD (by decide +kernel) (Nat.le_of_ble_eq_true rfl) rfl ?_
  intro p e s m args below meth c hz hr hlk
  unfold fx_BS_append
  refine jr_k (fun hq => ?_)
  refine jr_aload_n hz d_BS_append_0 rfl 0 rfl ?_
  refine jr_geti (j := 1) hz (sp_bs_lt hq) (sp_bs_of hq).2.1 rfl wf_BS_15 d_BS_append_1 ?_
  refine jr_aload_n hz d_BS_append_4 rfl 0 rfl ?_
  refine jr_getr (j := 0) (t := (q + 1)) hz (sp_bs_lt hq) (sp_bs_of hq).2.1 rfl wf_BS_9 d_BS_append_5 ?_
  refine jr_ileni (n := (sp_len (q + 1))) hz (sp_bs_of hq).1 (sp_bs_of hq).2.2 d_BS_append_8 ?_
  refine jr_icmp_lt (tgt := 14) hz d_BS_append_9 (by decide) ?_ ?_
  · refine jr_aload_n hz d_BS_append_14 rfl 0 rfl ?_
    refine jr_getr (j := 0) (t := (q + 1)) hz (sp_bs_lt hq) (sp_bs_of hq).2.1 rfl wf_BS_9 d_BS_append_15 ?_
    refine jr_aload_n hz d_BS_append_18 rfl 0 rfl ?_
    refine jr_geti (j := 1) hz (sp_bs_lt hq) (sp_bs_of hq).2.1 rfl wf_BS_15 d_BS_append_19 ?_
    refine jr_iload_n hz d_BS_append_22 rfl 1 rfl ?_
    refine jr_sipush (v := 255) hz d_BS_append_23 (by decide) ?_
    refine jr_iand hz d_BS_append_26 ?_
    refine jr_iast (n := (sp_len (q + 1))) hz (sp_bs_of hq).1 (sp_bs_of hq).2.2 d_BS_append_27 (fun X1 => ?_)
    refine jr_aload_n hz d_BS_append_28 rfl 0 rfl ?_
    refine jr_dup hz d_BS_append_29 rfl ?_
    refine jr_geti (j := 1) hz (sp_bs_lt hq) (sp_bs_of hq).2.1 rfl wf_BS_15 d_BS_append_30 ?_
    refine jr_iconst (v := 1) hz d_BS_append_33 (by decide) ?_
    refine jr_iadd hz d_BS_append_34 ?_
    refine jr_puti hz (sp_bs_lt hq) (sp_bs_of hq).2.1 rfl wp_BS_15 d_BS_append_35 (fun X2 => ?_)
    refine jr_iconst (v := 1) hz d_BS_append_38 (by decide) ?_
    exact jr_zret hz hr hlk (by decide) d_BS_append_39
  · refine jr_iconst (v := 0) hz d_BS_append_12 (by decide) ?_
    exact jr_zret hz hr hlk (by decide) d_BS_append_13
theorem d_BS_hasPart_0 : decode b_BS_hasPart 0 = .ok (.iload_n 1, 1) := by decide +kernel
theorem d_BS_hasPart_1 : decode b_BS_hasPart 1 = .ok (.ifCond .lt 29, 3) := by decide +kernel
theorem d_BS_hasPart_4 : decode b_BS_hasPart 4 = .ok (.iload_n 2, 1) := by decide +kernel
theorem d_BS_hasPart_5 : decode b_BS_hasPart 5 = .ok (.ifCond .lt 25, 3) := by decide +kernel
theorem d_BS_hasPart_8 : decode b_BS_hasPart 8 = .ok (.iload_n 2, 1) := by decide +kernel
theorem d_BS_hasPart_9 : decode b_BS_hasPart 9 = .ok (.aload_n 0, 1) := by decide +kernel
theorem d_BS_hasPart_10 : decode b_BS_hasPart 10 = .ok (.getfield 15, 3) := by decide +kernel
theorem d_BS_hasPart_13 : decode b_BS_hasPart 13 = .ok (.if_icmp .gt 17, 3) := by decide +kernel
theorem d_BS_hasPart_16 : decode b_BS_hasPart 16 = .ok (.iload_n 1, 1) := by decide +kernel
theorem d_BS_hasPart_17 : decode b_BS_hasPart 17 = .ok (.aload_n 0, 1) := by decide +kernel
theorem d_BS_hasPart_18 : decode b_BS_hasPart 18 = .ok (.getfield 15, 3) := by decide +kernel
theorem d_BS_hasPart_21 : decode b_BS_hasPart 21 = .ok (.iload_n 2, 1) := by decide +kernel
theorem d_BS_hasPart_22 : decode b_BS_hasPart 22 = .ok (.isub, 1) := by decide +kernel
theorem d_BS_hasPart_23 : decode b_BS_hasPart 23 = .ok (.if_icmp .gt 7, 3) := by decide +kernel
theorem d_BS_hasPart_26 : decode b_BS_hasPart 26 = .ok (.iconst 1, 1) := by decide +kernel
theorem d_BS_hasPart_27 : decode b_BS_hasPart 27 = .ok (.goto 4, 3) := by decide +kernel
theorem d_BS_hasPart_30 : decode b_BS_hasPart 30 = .ok (.iconst 0, 1) := by decide +kernel
theorem d_BS_hasPart_31 : decode b_BS_hasPart 31 = .ok (.ireturn, 1) := by decide +kernel
abbrev rm_BS_hasPart : Room := { frames := 0, cells := 0, slots := 0, locals := 0 }
def fx_BS_hasPart (q : Nat) (p1 : Int32) (p2 : Int32) (X : xh_T) : Option (Int32 × xh_T) :=
  xh_k (sp_bs q) (
  if p1 < 0 then
  some (0, X)
  else if p2 < 0 then
  some (0, X)
  else if X.1 q 1 < p2 then
  some (0, X)
  else if (X.1 q 1 - p2) < p1 then
  some (0, X)
  else some (1, X))
set_option maxRecDepth 100000 in
set_option maxHeartbeats 4000000 in
theorem cx_BS_hasPart (l : Launch) (D : va_G) (G : xh_G) (hD : xh_D G) (q : Nat) (p1 : Int32) (p2 : Int32) (X : xh_T) : xh_M xh_Qi l D G y_BS_hasPart b_BS_hasPart 3 (some .boolean) rm_BS_hasPart [.ref (G.1 q), .int p1, .int p2] X (fx_BS_hasPart q p1 p2 X) := by
  refine xh_enter (ls := [(0, .ref (G.1 q)), (1, .int p1), (2, .int p2)]) hD (by decide +kernel) (Nat.le_of_ble_eq_true rfl) rfl ?_
  intro p e s m args below meth c hz hr hlk
  unfold fx_BS_hasPart
  refine jr_k (fun hq => ?_)
  refine jr_iload_n hz d_BS_hasPart_0 rfl 1 rfl ?_
  refine jr_if_lt (tgt := 30) hz d_BS_hasPart_1 (by decide) ?_ ?_
  · refine jr_iconst (v := 0) hz d_BS_hasPart_30 (by decide) ?_
    exact jr_zret hz hr hlk (by decide) d_BS_hasPart_31
  · refine jr_iload_n hz d_BS_hasPart_4 rfl 2 rfl ?_
    refine jr_if_lt (tgt := 30) hz d_BS_hasPart_5 (by decide) ?_ ?_
    · refine jr_iconst (v := 0) hz d_BS_hasPart_30 (by decide) ?_
      exact jr_zret hz hr hlk (by decide) d_BS_hasPart_31
    · refine jr_iload_n hz d_BS_hasPart_8 rfl 2 rfl ?_
      refine jr_aload_n hz d_BS_hasPart_9 rfl 0 rfl ?_
      refine jr_geti (j := 1) hz (sp_bs_lt hq) (sp_bs_of hq).2.1 rfl wf_BS_15 d_BS_hasPart_10 ?_
      refine jr_icmp_gt (tgt := 30) hz d_BS_hasPart_13 (by decide) ?_ ?_
      · refine jr_iconst (v := 0) hz d_BS_hasPart_30 (by decide) ?_
        exact jr_zret hz hr hlk (by decide) d_BS_hasPart_31
      · refine jr_iload_n hz d_BS_hasPart_16 rfl 1 rfl ?_
        refine jr_aload_n hz d_BS_hasPart_17 rfl 0 rfl ?_
        refine jr_geti (j := 1) hz (sp_bs_lt hq) (sp_bs_of hq).2.1 rfl wf_BS_15 d_BS_hasPart_18 ?_
        refine jr_iload_n hz d_BS_hasPart_21 rfl 2 rfl ?_
        refine jr_isub hz d_BS_hasPart_22 ?_
        refine jr_icmp_gt (tgt := 30) hz d_BS_hasPart_23 (by decide) ?_ ?_
        · refine jr_iconst (v := 0) hz d_BS_hasPart_30 (by decide) ?_
          exact jr_zret hz hr hlk (by decide) d_BS_hasPart_31
        · refine jr_iconst (v := 1) hz d_BS_hasPart_26 (by decide) ?_
          refine jr_goto (tgt := 31) hz d_BS_hasPart_27 (by decide) ?_
          exact jr_zret hz hr hlk (by decide) d_BS_hasPart_31
theorem d_BS_becomeCopyOf_0 : decode b_BS_becomeCopyOf 0 = .ok (.aload_n 0, 1) := by decide +kernel
theorem d_BS_becomeCopyOf_1 : decode b_BS_becomeCopyOf 1 = .ok (.aload_n 1, 1) := by decide +kernel
theorem d_BS_becomeCopyOf_2 : decode b_BS_becomeCopyOf 2 = .ok (.getfield 15, 3) := by decide +kernel
theorem d_BS_becomeCopyOf_5 : decode b_BS_becomeCopyOf 5 = .ok (.aload_n 0, 1) := by decide +kernel
theorem d_BS_becomeCopyOf_6 : decode b_BS_becomeCopyOf 6 = .ok (.getfield 9, 3) := by decide +kernel
theorem d_BS_becomeCopyOf_9 : decode b_BS_becomeCopyOf 9 = .ok (.arraylength, 1) := by decide +kernel
theorem d_BS_becomeCopyOf_10 : decode b_BS_becomeCopyOf 10 = .ok (.invokestatic 19, 3) := by decide +kernel
theorem d_BS_becomeCopyOf_13 : decode b_BS_becomeCopyOf 13 = .ok (.putfield 15, 3) := by decide +kernel
theorem d_BS_becomeCopyOf_16 : decode b_BS_becomeCopyOf 16 = .ok (.aload_n 1, 1) := by decide +kernel
theorem d_BS_becomeCopyOf_17 : decode b_BS_becomeCopyOf 17 = .ok (.getfield 9, 3) := by decide +kernel
theorem d_BS_becomeCopyOf_20 : decode b_BS_becomeCopyOf 20 = .ok (.iconst 0, 1) := by decide +kernel
theorem d_BS_becomeCopyOf_21 : decode b_BS_becomeCopyOf 21 = .ok (.aload_n 0, 1) := by decide +kernel
theorem d_BS_becomeCopyOf_22 : decode b_BS_becomeCopyOf 22 = .ok (.getfield 9, 3) := by decide +kernel
theorem d_BS_becomeCopyOf_25 : decode b_BS_becomeCopyOf 25 = .ok (.iconst 0, 1) := by decide +kernel
theorem d_BS_becomeCopyOf_26 : decode b_BS_becomeCopyOf 26 = .ok (.aload_n 0, 1) := by decide +kernel
theorem d_BS_becomeCopyOf_27 : decode b_BS_becomeCopyOf 27 = .ok (.getfield 15, 3) := by decide +kernel
theorem d_BS_becomeCopyOf_30 : decode b_BS_becomeCopyOf 30 = .ok (.invokestatic 25, 3) := by decide +kernel
theorem d_BS_becomeCopyOf_33 : decode b_BS_becomeCopyOf 33 = .ok (.return_, 1) := by decide +kernel
theorem wm_BS_19 : Cond.methodLink "SpendScript$ByteString" 19 Lib.Math.min.name ∈ sp_ws := (sp_tb (List.mem_of_getElem? (i := 384) (by decide +kernel)))
theorem wy_BS_25 : Cond.methodLink "SpendScript$ByteString" 25 arraycopyName ∈ sp_ws := (sp_tb (List.mem_of_getElem? (i := 261) (by decide +kernel)))
abbrev rm_BS_becomeCopyOf : Room := { frames := 1, cells := 0, slots := 0, locals := 80 }
def fx_BS_becomeCopyOf (q : Nat) (o1 : Nat) (X : xh_T) : Option (Unit × xh_T) :=
  xh_k (sp_bs q) (
  xh_k (sp_bs o1) (
  xh_n (xh_i X q 1 (if (nI (sp_len (q + 1))) < X.1 o1 1 then (nI (sp_len (q + 1))) else X.1 o1 1)) (fun X1 : xh_T =>
  xh_cp 0 0 (X1.1 q 1) (sp_len (o1 + 1)) (sp_len (q + 1)) (xh_n (xh_a X1 (q + 1) (va_cpy (X1.1 (o1 + 1)) (X1.1 (q + 1)) (0 : Int32).toNatClampNeg (0 : Int32).toNatClampNeg (X1.1 q 1 : Int32).toNatClampNeg)) (fun X2 : xh_T =>
  some ((), X2))))))
set_option maxRecDepth 100000 in
set_option maxHeartbeats 4000000 in
theorem cx_BS_becomeCopyOf (l : Launch) (D : va_G) (G : xh_G) (hD : xh_D G) (q : Nat) (o1 : Nat) (X : xh_T) : xh_M xh_Qv l D G y_BS_becomeCopyOf b_BS_becomeCopyOf 2 none rm_BS_becomeCopyOf [.ref (G.1 q), .ref (G.1 o1)] X (fx_BS_becomeCopyOf q o1 X) := by
  refine xh_enter (ls := [(0, .ref (G.1 q)), (1, .ref (G.1 o1))]) hD (by decide +kernel) (Nat.le_of_ble_eq_true rfl) rfl ?_
  intro p e s m args below meth c hz hr hlk
  unfold fx_BS_becomeCopyOf
  refine jr_k (fun hq => ?_)
  refine jr_k (fun ho1 => ?_)
  refine jr_aload_n hz d_BS_becomeCopyOf_0 rfl 0 rfl ?_
  refine jr_aload_n hz d_BS_becomeCopyOf_1 rfl 1 rfl ?_
  refine jr_geti (j := 1) hz (sp_bs_lt ho1) (sp_bs_of ho1).2.1 rfl wf_BS_15 d_BS_becomeCopyOf_2 ?_
  refine jr_aload_n hz d_BS_becomeCopyOf_5 rfl 0 rfl ?_
  refine jr_getr (j := 0) (t := (q + 1)) hz (sp_bs_lt hq) (sp_bs_of hq).2.1 rfl wf_BS_9 d_BS_becomeCopyOf_6 ?_
  refine jr_ileni (n := (sp_len (q + 1))) hz (sp_bs_of hq).1 (sp_bs_of hq).2.2 d_BS_becomeCopyOf_9 ?_
  refine jr_mmin hz wm_BS_19 wa_mmin_static wa_init_Math wa_mmin_code (Nat.le_of_ble_eq_true rfl) (Nat.le_of_ble_eq_true rfl) ⟨Nat.zero_le _, Nat.zero_le _⟩ d_BS_becomeCopyOf_10 ?_
  refine jr_puti hz (sp_bs_lt hq) (sp_bs_of hq).2.1 rfl wp_BS_15 d_BS_becomeCopyOf_13 (fun X1 => ?_)
  refine jr_aload_n hz d_BS_becomeCopyOf_16 rfl 1 rfl ?_
  refine jr_getr (j := 0) (t := (o1 + 1)) hz (sp_bs_lt ho1) (sp_bs_of ho1).2.1 rfl wf_BS_9 d_BS_becomeCopyOf_17 ?_
  refine jr_iconst (v := 0) hz d_BS_becomeCopyOf_20 (by decide) ?_
  refine jr_aload_n hz d_BS_becomeCopyOf_21 rfl 0 rfl ?_
  refine jr_getr (j := 0) (t := (q + 1)) hz (sp_bs_lt hq) (sp_bs_of hq).2.1 rfl wf_BS_9 d_BS_becomeCopyOf_22 ?_
  refine jr_iconst (v := 0) hz d_BS_becomeCopyOf_25 (by decide) ?_
  refine jr_aload_n hz d_BS_becomeCopyOf_26 rfl 0 rfl ?_
  refine jr_geti (j := 1) hz (sp_bs_lt hq) (sp_bs_of hq).2.1 rfl wf_BS_15 d_BS_becomeCopyOf_27 ?_
  refine jr_copyi (n0 := (sp_len (o1 + 1))) (n1 := (sp_len (q + 1))) hz wy_BS_25 wa_copy_native wa_copy_static wa_init_System (sp_bs_of ho1).1 (sp_bs_of ho1).2.2 (sp_bs_of hq).1 (sp_bs_of hq).2.2 (Nat.le_of_ble_eq_true rfl) (Nat.le_of_ble_eq_true rfl) d_BS_becomeCopyOf_30 (fun X2 => ?_)
  exact jr_vret hz hr hlk d_BS_becomeCopyOf_33
theorem d_BS_becomePartOf_0 : decode b_BS_becomePartOf 0 = .ok (.aload_n 0, 1) := by decide +kernel
theorem d_BS_becomePartOf_1 : decode b_BS_becomePartOf 1 = .ok (.iconst 0, 1) := by decide +kernel
theorem d_BS_becomePartOf_2 : decode b_BS_becomePartOf 2 = .ok (.putfield 15, 3) := by decide +kernel
theorem d_BS_becomePartOf_5 : decode b_BS_becomePartOf 5 = .ok (.aload_n 1, 1) := by decide +kernel
theorem d_BS_becomePartOf_6 : decode b_BS_becomePartOf 6 = .ok (.iload_n 2, 1) := by decide +kernel
theorem d_BS_becomePartOf_7 : decode b_BS_becomePartOf 7 = .ok (.iload_n 3, 1) := by decide +kernel
theorem d_BS_becomePartOf_8 : decode b_BS_becomePartOf 8 = .ok (.invokevirtual 31, 3) := by decide +kernel
theorem d_BS_becomePartOf_11 : decode b_BS_becomePartOf 11 = .ok (.ifCond .eq 31, 3) := by decide +kernel
theorem d_BS_becomePartOf_14 : decode b_BS_becomePartOf 14 = .ok (.iload_n 3, 1) := by decide +kernel
theorem d_BS_becomePartOf_15 : decode b_BS_becomePartOf 15 = .ok (.aload_n 0, 1) := by decide +kernel
theorem d_BS_becomePartOf_16 : decode b_BS_becomePartOf 16 = .ok (.getfield 9, 3) := by decide +kernel
theorem d_BS_becomePartOf_19 : decode b_BS_becomePartOf 19 = .ok (.arraylength, 1) := by decide +kernel
theorem d_BS_becomePartOf_20 : decode b_BS_becomePartOf 20 = .ok (.if_icmp .gt 22, 3) := by decide +kernel
theorem d_BS_becomePartOf_23 : decode b_BS_becomePartOf 23 = .ok (.aload_n 1, 1) := by decide +kernel
theorem d_BS_becomePartOf_24 : decode b_BS_becomePartOf 24 = .ok (.getfield 9, 3) := by decide +kernel
theorem d_BS_becomePartOf_27 : decode b_BS_becomePartOf 27 = .ok (.iload_n 2, 1) := by decide +kernel
theorem d_BS_becomePartOf_28 : decode b_BS_becomePartOf 28 = .ok (.aload_n 0, 1) := by decide +kernel
theorem d_BS_becomePartOf_29 : decode b_BS_becomePartOf 29 = .ok (.getfield 9, 3) := by decide +kernel
theorem d_BS_becomePartOf_32 : decode b_BS_becomePartOf 32 = .ok (.iconst 0, 1) := by decide +kernel
theorem d_BS_becomePartOf_33 : decode b_BS_becomePartOf 33 = .ok (.iload_n 3, 1) := by decide +kernel
theorem d_BS_becomePartOf_34 : decode b_BS_becomePartOf 34 = .ok (.invokestatic 25, 3) := by decide +kernel
theorem d_BS_becomePartOf_37 : decode b_BS_becomePartOf 37 = .ok (.aload_n 0, 1) := by decide +kernel
theorem d_BS_becomePartOf_38 : decode b_BS_becomePartOf 38 = .ok (.iload_n 3, 1) := by decide +kernel
theorem d_BS_becomePartOf_39 : decode b_BS_becomePartOf 39 = .ok (.putfield 15, 3) := by decide +kernel
theorem d_BS_becomePartOf_42 : decode b_BS_becomePartOf 42 = .ok (.return_, 1) := by decide +kernel
theorem wv_BS_31 : xh_V "SpendScript$ByteString" 31 0 y_BS_hasPart b_BS_hasPart 3 (some .boolean) 2 := ⟨(sp_tb (List.mem_of_getElem? (i := 205) (by decide +kernel))), (sp_tb (List.mem_of_getElem? (i := 2) (by decide +kernel))), (sp_tb (List.mem_of_getElem? (i := 260) (by decide +kernel))), ⟨by decide +kernel, by decide +kernel, by decide +kernel⟩, (sp_tb (List.mem_of_getElem? (i := 203) (by decide +kernel))), (sp_tb (List.mem_of_getElem? (i := 204) (by decide +kernel))), F_BS, 2, rfl⟩
abbrev rm_BS_becomePartOf : Room := { frames := 1, cells := 0, slots := 0, locals := 80 }
def fx_BS_becomePartOf (q : Nat) (o1 : Nat) (p2 : Int32) (p3 : Int32) (X : xh_T) : Option (Unit × xh_T) :=
  xh_k (sp_bs q) (
  xh_k (sp_bs o1) (
  xh_n (xh_i X q 1 0) (fun X1 : xh_T =>
  xh_b (fx_BS_hasPart o1 p2 p3 X1) (fun (r2 : Int32) (X2 : xh_T) =>
  if r2 = 0 then
  some ((), X2)
  else if (nI (sp_len (q + 1))) < p3 then
  some ((), X2)
  else xh_cp p2 0 p3 (sp_len (o1 + 1)) (sp_len (q + 1)) (xh_n (xh_a X2 (q + 1) (va_cpy (X2.1 (o1 + 1)) (X2.1 (q + 1)) (p2 : Int32).toNatClampNeg (0 : Int32).toNatClampNeg (p3 : Int32).toNatClampNeg)) (fun X3 : xh_T =>
  xh_n (xh_i X3 q 1 p3) (fun X4 : xh_T =>
  some ((), X4))))))))
set_option maxRecDepth 100000 in
set_option maxHeartbeats 4000000 in
theorem cx_BS_becomePartOf (l : Launch) (D : va_G) (G : xh_G) (hD : xh_D G) (q : Nat) (o1 : Nat) (p2 : Int32) (p3 : Int32) (X : xh_T) : xh_M xh_Qv l D G y_BS_becomePartOf b_BS_becomePartOf 4 none rm_BS_becomePartOf [.ref (G.1 q), .ref (G.1 o1), .int p2, .int p3] X (fx_BS_becomePartOf q o1 p2 p3 X) := by
  refine xh_enter (ls := [(0, .ref (G.1 q)), (1, .ref (G.1 o1)), (2, .int p2), (3, .int p3)]) hD (by decide +kernel) (Nat.le_of_ble_eq_true rfl) rfl ?_
  intro p e s m args below meth c hz hr hlk
  unfold fx_BS_becomePartOf
  refine jr_k (fun hq => ?_)
  refine jr_k (fun ho1 => ?_)
  refine jr_aload_n hz d_BS_becomePartOf_0 rfl 0 rfl ?_
  refine jr_iconst (v := 0) hz d_BS_becomePartOf_1 (by decide) ?_
  refine jr_puti hz (sp_bs_lt hq) (sp_bs_of hq).2.1 rfl wp_BS_15 d_BS_becomePartOf_2 (fun X1 => ?_)
  refine jr_aload_n hz d_BS_becomePartOf_5 rfl 1 rfl ?_
  refine jr_iload_n hz d_BS_becomePartOf_6 rfl 2 rfl ?_
  refine jr_iload_n hz d_BS_becomePartOf_7 rfl 3 rfl ?_
  refine jr_callVi (As := [.int p2, .int p3]) (a := o1) (ci := 0) (st := []) hz (cx_BS_hasPart l D G hz.2.2.2.2.2.2.1 o1 p2 p3 X1) (fun z h => sp_bs_v (xh_k_t h)) wv_BS_31 ⟨rfl, rfl, Nat.le_of_ble_eq_true rfl, Nat.le_of_ble_eq_true rfl⟩ ⟨Nat.zero_le _, Nat.zero_le _⟩ rfl rfl (Nat.le_of_ble_eq_true rfl) d_BS_becomePartOf_8 (fun r2 X2 => ?_)
  refine jr_if_eq (tgt := 42) hz d_BS_becomePartOf_11 (by decide) ?_ ?_
  · exact jr_vret hz hr hlk d_BS_becomePartOf_42
  · refine jr_iload_n hz d_BS_becomePartOf_14 rfl 3 rfl ?_
    refine jr_aload_n hz d_BS_becomePartOf_15 rfl 0 rfl ?_
    refine jr_getr (j := 0) (t := (q + 1)) hz (sp_bs_lt hq) (sp_bs_of hq).2.1 rfl wf_BS_9 d_BS_becomePartOf_16 ?_
    refine jr_ileni (n := (sp_len (q + 1))) hz (sp_bs_of hq).1 (sp_bs_of hq).2.2 d_BS_becomePartOf_19 ?_
    refine jr_icmp_gt (tgt := 42) hz d_BS_becomePartOf_20 (by decide) ?_ ?_
    · exact jr_vret hz hr hlk d_BS_becomePartOf_42
    · refine jr_aload_n hz d_BS_becomePartOf_23 rfl 1 rfl ?_
      refine jr_getr (j := 0) (t := (o1 + 1)) hz (sp_bs_lt ho1) (sp_bs_of ho1).2.1 rfl wf_BS_9 d_BS_becomePartOf_24 ?_
      refine jr_iload_n hz d_BS_becomePartOf_27 rfl 2 rfl ?_
      refine jr_aload_n hz d_BS_becomePartOf_28 rfl 0 rfl ?_
      refine jr_getr (j := 0) (t := (q + 1)) hz (sp_bs_lt hq) (sp_bs_of hq).2.1 rfl wf_BS_9 d_BS_becomePartOf_29 ?_
      refine jr_iconst (v := 0) hz d_BS_becomePartOf_32 (by decide) ?_
      refine jr_iload_n hz d_BS_becomePartOf_33 rfl 3 rfl ?_
      refine jr_copyi (n0 := (sp_len (o1 + 1))) (n1 := (sp_len (q + 1))) hz wy_BS_25 wa_copy_native wa_copy_static wa_init_System (sp_bs_of ho1).1 (sp_bs_of ho1).2.2 (sp_bs_of hq).1 (sp_bs_of hq).2.2 (Nat.le_of_ble_eq_true rfl) (Nat.le_of_ble_eq_true rfl) d_BS_becomePartOf_34 (fun X3 => ?_)
      refine jr_aload_n hz d_BS_becomePartOf_37 rfl 0 rfl ?_
      refine jr_iload_n hz d_BS_becomePartOf_38 rfl 3 rfl ?_
      refine jr_puti hz (sp_bs_lt hq) (sp_bs_of hq).2.1 rfl wp_BS_15 d_BS_becomePartOf_39 (fun X4 => ?_)
      exact jr_vret hz hr hlk d_BS_becomePartOf_42
theorem d_BS_sameBytesAs_0 : decode b_BS_sameBytesAs 0 = .ok (.aload_n 0, 1) := by decide +kernel
theorem d_BS_sameBytesAs_1 : decode b_BS_sameBytesAs 1 = .ok (.getfield 15, 3) := by decide +kernel
theorem d_BS_sameBytesAs_4 : decode b_BS_sameBytesAs 4 = .ok (.aload_n 1, 1) := by decide +kernel
theorem d_BS_sameBytesAs_5 : decode b_BS_sameBytesAs 5 = .ok (.getfield 15, 3) := by decide +kernel
theorem d_BS_sameBytesAs_8 : decode b_BS_sameBytesAs 8 = .ok (.if_icmp .eq 5, 3) := by decide +kernel
theorem d_BS_sameBytesAs_11 : decode b_BS_sameBytesAs 11 = .ok (.iconst 0, 1) := by decide +kernel
theorem d_BS_sameBytesAs_12 : decode b_BS_sameBytesAs 12 = .ok (.ireturn, 1) := by decide +kernel
theorem d_BS_sameBytesAs_13 : decode b_BS_sameBytesAs 13 = .ok (.iconst 0, 1) := by decide +kernel
theorem d_BS_sameBytesAs_14 : decode b_BS_sameBytesAs 14 = .ok (.istore_n 2, 1) := by decide +kernel
theorem d_BS_sameBytesAs_15 : decode b_BS_sameBytesAs 15 = .ok (.iload_n 2, 1) := by decide +kernel
theorem d_BS_sameBytesAs_16 : decode b_BS_sameBytesAs 16 = .ok (.aload_n 0, 1) := by decide +kernel
theorem d_BS_sameBytesAs_17 : decode b_BS_sameBytesAs 17 = .ok (.getfield 15, 3) := by decide +kernel
theorem d_BS_sameBytesAs_20 : decode b_BS_sameBytesAs 20 = .ok (.if_icmp .ge 26, 3) := by decide +kernel
theorem d_BS_sameBytesAs_23 : decode b_BS_sameBytesAs 23 = .ok (.aload_n 0, 1) := by decide +kernel
theorem d_BS_sameBytesAs_24 : decode b_BS_sameBytesAs 24 = .ok (.getfield 9, 3) := by decide +kernel
theorem d_BS_sameBytesAs_27 : decode b_BS_sameBytesAs 27 = .ok (.iload_n 2, 1) := by decide +kernel
theorem d_BS_sameBytesAs_28 : decode b_BS_sameBytesAs 28 = .ok (.iaload, 1) := by decide +kernel
theorem d_BS_sameBytesAs_29 : decode b_BS_sameBytesAs 29 = .ok (.aload_n 1, 1) := by decide +kernel
theorem d_BS_sameBytesAs_30 : decode b_BS_sameBytesAs 30 = .ok (.getfield 9, 3) := by decide +kernel
theorem d_BS_sameBytesAs_33 : decode b_BS_sameBytesAs 33 = .ok (.iload_n 2, 1) := by decide +kernel
theorem d_BS_sameBytesAs_34 : decode b_BS_sameBytesAs 34 = .ok (.iaload, 1) := by decide +kernel
theorem d_BS_sameBytesAs_35 : decode b_BS_sameBytesAs 35 = .ok (.if_icmp .eq 5, 3) := by decide +kernel
theorem d_BS_sameBytesAs_38 : decode b_BS_sameBytesAs 38 = .ok (.iconst 0, 1) := by decide +kernel
theorem d_BS_sameBytesAs_39 : decode b_BS_sameBytesAs 39 = .ok (.ireturn, 1) := by decide +kernel
theorem d_BS_sameBytesAs_40 : decode b_BS_sameBytesAs 40 = .ok (.iinc 2 1, 3) := by decide +kernel
theorem d_BS_sameBytesAs_43 : decode b_BS_sameBytesAs 43 = .ok (.goto (-28), 3) := by decide +kernel
theorem d_BS_sameBytesAs_46 : decode b_BS_sameBytesAs 46 = .ok (.iconst 1, 1) := by decide +kernel
theorem d_BS_sameBytesAs_47 : decode b_BS_sameBytesAs 47 = .ok (.ireturn, 1) := by decide +kernel
abbrev rm_BS_sameBytesAs : Room := { frames := 0, cells := 0, slots := 0, locals := 0 }
def fx_BS_sameBytesAs_b15 (q : Nat) (o1 : Nat) : Nat → Int32 → xh_T → Option (Int32 × xh_T)
  | 0, _, _ => none
  | n + 1, a2, X => if X.1 q 1 ≤ a2 then
  some (1, X)
  else xh_o a2 (sp_len (q + 1)) (xh_o a2 (sp_len (o1 + 1)) (if (X.1 (q + 1) a2.toNatClampNeg) = (X.1 (o1 + 1) a2.toNatClampNeg) then
  xh_n (a2 + 1) (fun v2 : Int32 =>
  fx_BS_sameBytesAs_b15 q o1 n v2 X)
  else some (0, X)))
set_option maxRecDepth 100000 in
set_option maxHeartbeats 4000000 in
theorem jb_BS_sameBytesAs_b15 {p : Program} {l : Launch} {e : Env} {s : State} {m : MethodId} {args : Array Value} {below : List Frame} {meth : Method} {c : Code} {D : va_G} {G : xh_G} {q : Nat} {o1 : Nat} (hz : xh_C p s m args c b_BS_sameBytesAs 3 "SpendScript$ByteString" D G (xh_A G s.heap.size)) (hr : meth.sig.returnType = (some .boolean)) (hlk : meth.locks = false) (hq : sp_bs q = true) (ho1 : sp_bs o1 = true) : ∀ (n : Nat) (a2 : Int32) (X : xh_T), xh_J p l e rm_BS_sameBytesAs s m args below meth c 0 0 D G (xh_A G s.heap.size) 3 (fun r X' => MQ below (xh_Qi D G (xh_A G s.heap.size) r X') args s 0 0 (xh_A G s.heap.size)) 15 [(0, .ref (G.1 q)), (1, .ref (G.1 o1)), (2, .int a2)] [] X (fx_BS_sameBytesAs_b15 q o1 n a2 X) := by
  intro n
  induction n with
  | zero => intro a2 X; exact jr_none
  | succ n ih =>
    intro a2 X
    rw [fx_BS_sameBytesAs_b15]
    refine jr_iload_n hz d_BS_sameBytesAs_15 rfl 2 rfl ?_
    refine jr_aload_n hz d_BS_sameBytesAs_16 rfl 0 rfl ?_
    refine jr_geti (j := 1) hz (sp_bs_lt hq) (sp_bs_of hq).2.1 rfl wf_BS_15 d_BS_sameBytesAs_17 ?_
    refine jr_icmp_ge (tgt := 46) hz d_BS_sameBytesAs_20 (by decide) ?_ ?_
    · refine jr_iconst (v := 1) hz d_BS_sameBytesAs_46 (by decide) ?_
      exact jr_zret hz hr hlk (by decide) d_BS_sameBytesAs_47
    · refine jr_aload_n hz d_BS_sameBytesAs_23 rfl 0 rfl ?_
      refine jr_getr (j := 0) (t := (q + 1)) hz (sp_bs_lt hq) (sp_bs_of hq).2.1 rfl wf_BS_9 d_BS_sameBytesAs_24 ?_
      refine jr_iload_n hz d_BS_sameBytesAs_27 rfl 2 rfl ?_
      refine jr_iald (n := (sp_len (q + 1))) hz (sp_bs_of hq).1 (sp_bs_of hq).2.2 d_BS_sameBytesAs_28 ?_
      refine jr_aload_n hz d_BS_sameBytesAs_29 rfl 1 rfl ?_
      refine jr_getr (j := 0) (t := (o1 + 1)) hz (sp_bs_lt ho1) (sp_bs_of ho1).2.1 rfl wf_BS_9 d_BS_sameBytesAs_30 ?_
      refine jr_iload_n hz d_BS_sameBytesAs_33 rfl 2 rfl ?_
      refine jr_iald (n := (sp_len (o1 + 1))) hz (sp_bs_of ho1).1 (sp_bs_of ho1).2.2 d_BS_sameBytesAs_34 ?_
      refine jr_icmp_eq (tgt := 40) hz d_BS_sameBytesAs_35 (by decide) ?_ ?_
      · refine jr_iinc (lf := [(0, .ref (G.1 q)), (1, .ref (G.1 o1))]) (w := 1) hz d_BS_sameBytesAs_40 2 rfl (by decide) (by decide) rfl (fun v2 => ?_)
        refine jr_goto (tgt := 15) hz d_BS_sameBytesAs_43 (by decide) ?_
        refine jr_sub (ls' := [(0, .ref (G.1 q)), (1, .ref (G.1 o1)), (2, .int v2)]) [1, 2, 0] rfl ?_
        exact ih v2 X
      · refine jr_iconst (v := 0) hz d_BS_sameBytesAs_38 (by decide) ?_
        exact jr_zret hz hr hlk (by decide) d_BS_sameBytesAs_39
def fx_BS_sameBytesAs (q : Nat) (o1 : Nat) (X : xh_T) : Option (Int32 × xh_T) :=
  xh_k (sp_bs q) (
  xh_k (sp_bs o1) (
  if X.1 q 1 = X.1 o1 1 then
  xh_n 0 (fun v1 : Int32 =>
  fx_BS_sameBytesAs_b15 q o1 sp_fuel v1 X)
  else some (0, X)))
set_option maxRecDepth 100000 in
set_option maxHeartbeats 4000000 in
theorem cx_BS_sameBytesAs (l : Launch) (D : va_G) (G : xh_G) (hD : xh_D G) (q : Nat) (o1 : Nat) (X : xh_T) : xh_M xh_Qi l D G y_BS_sameBytesAs b_BS_sameBytesAs 3 (some .boolean) rm_BS_sameBytesAs [.ref (G.1 q), .ref (G.1 o1)] X (fx_BS_sameBytesAs q o1 X) := by
  refine xh_enter (ls := [(0, .ref (G.1 q)), (1, .ref (G.1 o1))]) hD (by decide +kernel) (Nat.le_of_ble_eq_true rfl) rfl ?_
  intro p e s m args below meth c hz hr hlk
  unfold fx_BS_sameBytesAs
  refine jr_k (fun hq => ?_)
  refine jr_k (fun ho1 => ?_)
  refine jr_aload_n hz d_BS_sameBytesAs_0 rfl 0 rfl ?_
  refine jr_geti (j := 1) hz (sp_bs_lt hq) (sp_bs_of hq).2.1 rfl wf_BS_15 d_BS_sameBytesAs_1 ?_
  refine jr_aload_n hz d_BS_sameBytesAs_4 rfl 1 rfl ?_
  refine jr_geti (j := 1) hz (sp_bs_lt ho1) (sp_bs_of ho1).2.1 rfl wf_BS_15 d_BS_sameBytesAs_5 ?_
  refine jr_icmp_eq (tgt := 13) hz d_BS_sameBytesAs_8 (by decide) ?_ ?_
  · refine jr_iconst (v := 0) hz d_BS_sameBytesAs_13 (by decide) ?_
    refine jr_istore_n (lf := [(0, .ref (G.1 q)), (1, .ref (G.1 o1))]) hz d_BS_sameBytesAs_14 rfl (by decide) rfl (fun v1 => ?_)
    refine jr_sub (ls' := [(0, .ref (G.1 q)), (1, .ref (G.1 o1)), (2, .int v1)]) [1, 2, 0] rfl ?_
    exact jb_BS_sameBytesAs_b15 hz hr hlk hq ho1 sp_fuel v1 X
  · refine jr_iconst (v := 0) hz d_BS_sameBytesAs_11 (by decide) ?_
    exact jr_zret hz hr hlk (by decide) d_BS_sameBytesAs_12
theorem d_BS_hash_0 : decode b_BS_hash 0 = .ok (.bipush 17, 2) := by decide +kernel
theorem d_BS_hash_2 : decode b_BS_hash 2 = .ok (.istore_n 3, 1) := by decide +kernel
theorem d_BS_hash_3 : decode b_BS_hash 3 = .ok (.iconst 0, 1) := by decide +kernel
theorem d_BS_hash_4 : decode b_BS_hash 4 = .ok (.istore 4, 2) := by decide +kernel
theorem d_BS_hash_6 : decode b_BS_hash 6 = .ok (.iload 4, 2) := by decide +kernel
theorem d_BS_hash_8 : decode b_BS_hash 8 = .ok (.aload_n 0, 1) := by decide +kernel
theorem d_BS_hash_9 : decode b_BS_hash 9 = .ok (.getfield 15, 3) := by decide +kernel
theorem d_BS_hash_12 : decode b_BS_hash 12 = .ok (.if_icmp .ge 36, 3) := by decide +kernel
theorem d_BS_hash_15 : decode b_BS_hash 15 = .ok (.iload 4, 2) := by decide +kernel
theorem d_BS_hash_17 : decode b_BS_hash 17 = .ok (.iload_n 1, 1) := by decide +kernel
theorem d_BS_hash_18 : decode b_BS_hash 18 = .ok (.if_icmp .lt 24, 3) := by decide +kernel
theorem d_BS_hash_21 : decode b_BS_hash 21 = .ok (.iload 4, 2) := by decide +kernel
theorem d_BS_hash_23 : decode b_BS_hash 23 = .ok (.iload_n 1, 1) := by decide +kernel
theorem d_BS_hash_24 : decode b_BS_hash 24 = .ok (.isub, 1) := by decide +kernel
theorem d_BS_hash_25 : decode b_BS_hash 25 = .ok (.iload_n 2, 1) := by decide +kernel
theorem d_BS_hash_26 : decode b_BS_hash 26 = .ok (.if_icmp .ge 16, 3) := by decide +kernel
theorem d_BS_hash_29 : decode b_BS_hash 29 = .ok (.iload_n 3, 1) := by decide +kernel
theorem d_BS_hash_30 : decode b_BS_hash 30 = .ok (.bipush 31, 2) := by decide +kernel
theorem d_BS_hash_32 : decode b_BS_hash 32 = .ok (.imul, 1) := by decide +kernel
theorem d_BS_hash_33 : decode b_BS_hash 33 = .ok (.aload_n 0, 1) := by decide +kernel
theorem d_BS_hash_34 : decode b_BS_hash 34 = .ok (.getfield 9, 3) := by decide +kernel
theorem d_BS_hash_37 : decode b_BS_hash 37 = .ok (.iload 4, 2) := by decide +kernel
theorem d_BS_hash_39 : decode b_BS_hash 39 = .ok (.iaload, 1) := by decide +kernel
theorem d_BS_hash_40 : decode b_BS_hash 40 = .ok (.iadd, 1) := by decide +kernel
theorem d_BS_hash_41 : decode b_BS_hash 41 = .ok (.istore_n 3, 1) := by decide +kernel
theorem d_BS_hash_42 : decode b_BS_hash 42 = .ok (.iinc 4 1, 3) := by decide +kernel
theorem d_BS_hash_45 : decode b_BS_hash 45 = .ok (.goto (-39), 3) := by decide +kernel
theorem d_BS_hash_48 : decode b_BS_hash 48 = .ok (.iload_n 3, 1) := by decide +kernel
theorem d_BS_hash_49 : decode b_BS_hash 49 = .ok (.ireturn, 1) := by decide +kernel
abbrev rm_BS_hash : Room := { frames := 0, cells := 0, slots := 0, locals := 0 }
def fx_BS_hash_b6 (q : Nat) : Nat → Int32 → Int32 → Int32 → Int32 → xh_T → Option (Int32 × xh_T)
  | 0, _, _, _, _, _ => none
  | n + 1, a1, a2, a3, a4, X => if X.1 q 1 ≤ a4 then
  some (a3, X)
  else if a4 < a1 then
  xh_n (a4 + 1) (fun v3 : Int32 =>
  fx_BS_hash_b6 q n a1 a2 a3 v3 X)
  else if a2 ≤ (a4 - a1) then
  xh_n (a4 + 1) (fun v4 : Int32 =>
  fx_BS_hash_b6 q n a1 a2 a3 v4 X)
  else xh_o a4 (sp_len (q + 1)) (xh_n ((a3 * 31) + (X.1 (q + 1) a4.toNatClampNeg)) (fun v5 : Int32 =>
  xh_n (a4 + 1) (fun v6 : Int32 =>
  fx_BS_hash_b6 q n a1 a2 v5 v6 X)))
set_option maxRecDepth 100000 in
set_option maxHeartbeats 4000000 in
theorem jb_BS_hash_b6 {p : Program} {l : Launch} {e : Env} {s : State} {m : MethodId} {args : Array Value} {below : List Frame} {meth : Method} {c : Code} {D : va_G} {G : xh_G} {q : Nat} (hz : xh_C p s m args c b_BS_hash 5 "SpendScript$ByteString" D G (xh_A G s.heap.size)) (hr : meth.sig.returnType = (some .int)) (hlk : meth.locks = false) (hq : sp_bs q = true) : ∀ (n : Nat) (a1 : Int32) (a2 : Int32) (a3 : Int32) (a4 : Int32) (X : xh_T), xh_J p l e rm_BS_hash s m args below meth c 0 0 D G (xh_A G s.heap.size) 5 (fun r X' => MQ below (xh_Qi D G (xh_A G s.heap.size) r X') args s 0 0 (xh_A G s.heap.size)) 6 [(0, .ref (G.1 q)), (1, .int a1), (2, .int a2), (3, .int a3), (4, .int a4)] [] X (fx_BS_hash_b6 q n a1 a2 a3 a4 X) := by
  intro n
  induction n with
  | zero => intro a1 a2 a3 a4 X; exact jr_none
  | succ n ih =>
    intro a1 a2 a3 a4 X
    rw [fx_BS_hash_b6]
    refine jr_iload hz d_BS_hash_6 4 rfl ?_
    refine jr_aload_n hz d_BS_hash_8 rfl 0 rfl ?_
    refine jr_geti (j := 1) hz (sp_bs_lt hq) (sp_bs_of hq).2.1 rfl wf_BS_15 d_BS_hash_9 ?_
    refine jr_icmp_ge (tgt := 48) hz d_BS_hash_12 (by decide) ?_ ?_
    · refine jr_iload_n hz d_BS_hash_48 rfl 3 rfl ?_
      exact jr_iret hz hr hlk d_BS_hash_49
    · refine jr_iload hz d_BS_hash_15 4 rfl ?_
      refine jr_iload_n hz d_BS_hash_17 rfl 1 rfl ?_
      refine jr_icmp_lt (tgt := 42) hz d_BS_hash_18 (by decide) ?_ ?_
      · refine jr_iinc (lf := [(0, .ref (G.1 q)), (1, .int a1), (2, .int a2), (3, .int a3)]) (w := 1) hz d_BS_hash_42 4 rfl (by decide) (by decide) rfl (fun v3 => ?_)
        refine jr_goto (tgt := 6) hz d_BS_hash_45 (by decide) ?_
        refine jr_sub (ls' := [(0, .ref (G.1 q)), (1, .int a1), (2, .int a2), (3, .int a3), (4, .int v3)]) [1, 2, 3, 4, 0] rfl ?_
        exact ih a1 a2 a3 v3 X
      · refine jr_iload hz d_BS_hash_21 4 rfl ?_
        refine jr_iload_n hz d_BS_hash_23 rfl 1 rfl ?_
        refine jr_isub hz d_BS_hash_24 ?_
        refine jr_iload_n hz d_BS_hash_25 rfl 2 rfl ?_
        refine jr_icmp_ge (tgt := 42) hz d_BS_hash_26 (by decide) ?_ ?_
        · refine jr_iinc (lf := [(0, .ref (G.1 q)), (1, .int a1), (2, .int a2), (3, .int a3)]) (w := 1) hz d_BS_hash_42 4 rfl (by decide) (by decide) rfl (fun v4 => ?_)
          refine jr_goto (tgt := 6) hz d_BS_hash_45 (by decide) ?_
          refine jr_sub (ls' := [(0, .ref (G.1 q)), (1, .int a1), (2, .int a2), (3, .int a3), (4, .int v4)]) [1, 2, 3, 4, 0] rfl ?_
          exact ih a1 a2 a3 v4 X
        · refine jr_iload_n hz d_BS_hash_29 rfl 3 rfl ?_
          refine jr_bipush (v := 31) hz d_BS_hash_30 (by decide) ?_
          refine jr_imul hz d_BS_hash_32 ?_
          refine jr_aload_n hz d_BS_hash_33 rfl 0 rfl ?_
          refine jr_getr (j := 0) (t := (q + 1)) hz (sp_bs_lt hq) (sp_bs_of hq).2.1 rfl wf_BS_9 d_BS_hash_34 ?_
          refine jr_iload hz d_BS_hash_37 4 rfl ?_
          refine jr_iald (n := (sp_len (q + 1))) hz (sp_bs_of hq).1 (sp_bs_of hq).2.2 d_BS_hash_39 ?_
          refine jr_iadd hz d_BS_hash_40 ?_
          refine jr_istore_n (lf := [(0, .ref (G.1 q)), (1, .int a1), (2, .int a2), (4, .int a4)]) hz d_BS_hash_41 rfl (by decide) rfl (fun v5 => ?_)
          refine jr_iinc (lf := [(3, .int v5), (0, .ref (G.1 q)), (1, .int a1), (2, .int a2)]) (w := 1) hz d_BS_hash_42 4 rfl (by decide) (by decide) rfl (fun v6 => ?_)
          refine jr_goto (tgt := 6) hz d_BS_hash_45 (by decide) ?_
          refine jr_sub (ls' := [(0, .ref (G.1 q)), (1, .int a1), (2, .int a2), (3, .int v5), (4, .int v6)]) [2, 3, 4, 1, 0] rfl ?_
          exact ih a1 a2 v5 v6 X
def fx_BS_hash (q : Nat) (p1 : Int32) (p2 : Int32) (X : xh_T) : Option (Int32 × xh_T) :=
  xh_k (sp_bs q) (
  xh_n 17 (fun v1 : Int32 =>
  xh_n 0 (fun v2 : Int32 =>
  fx_BS_hash_b6 q sp_fuel p1 p2 v1 v2 X)))
set_option maxRecDepth 100000 in
set_option maxHeartbeats 4000000 in
theorem cx_BS_hash (l : Launch) (D : va_G) (G : xh_G) (hD : xh_D G) (q : Nat) (p1 : Int32) (p2 : Int32) (X : xh_T) : xh_M xh_Qi l D G y_BS_hash b_BS_hash 5 (some .int) rm_BS_hash [.ref (G.1 q), .int p1, .int p2] X (fx_BS_hash q p1 p2 X) := by
  refine xh_enter (ls := [(0, .ref (G.1 q)), (1, .int p1), (2, .int p2)]) hD (by decide +kernel) (Nat.le_of_ble_eq_true rfl) rfl ?_
  intro p e s m args below meth c hz hr hlk
  unfold fx_BS_hash
  refine jr_k (fun hq => ?_)
  refine jr_bipush (v := 17) hz d_BS_hash_0 (by decide) ?_
  refine jr_istore_n (lf := [(0, .ref (G.1 q)), (1, .int p1), (2, .int p2)]) hz d_BS_hash_2 rfl (by decide) rfl (fun v1 => ?_)
  refine jr_iconst (v := 0) hz d_BS_hash_3 (by decide) ?_
  refine jr_istore (lf := [(3, .int v1), (0, .ref (G.1 q)), (1, .int p1), (2, .int p2)]) hz d_BS_hash_4 (by decide) rfl (fun v2 => ?_)
  refine jr_sub (ls' := [(0, .ref (G.1 q)), (1, .int p1), (2, .int p2), (3, .int v1), (4, .int v2)]) [2, 3, 4, 1, 0] rfl ?_
  exact jb_BS_hash_b6 hz hr hlk hq sp_fuel p1 p2 v1 v2 X
theorem d_BS_becomeDigest_0 : decode b_BS_becomeDigest 0 = .ok (.aload_n 0, 1) := by decide +kernel
theorem d_BS_becomeDigest_1 : decode b_BS_becomeDigest 1 = .ok (.iconst 0, 1) := by decide +kernel
theorem d_BS_becomeDigest_2 : decode b_BS_becomeDigest 2 = .ok (.putfield 15, 3) := by decide +kernel
theorem d_BS_becomeDigest_5 : decode b_BS_becomeDigest 5 = .ok (.iconst 0, 1) := by decide +kernel
theorem d_BS_becomeDigest_6 : decode b_BS_becomeDigest 6 = .ok (.istore_n 2, 1) := by decide +kernel
theorem d_BS_becomeDigest_7 : decode b_BS_becomeDigest 7 = .ok (.iload_n 2, 1) := by decide +kernel
theorem d_BS_becomeDigest_8 : decode b_BS_becomeDigest 8 = .ok (.bipush 32, 2) := by decide +kernel
theorem d_BS_becomeDigest_10 : decode b_BS_becomeDigest 10 = .ok (.if_icmp .ge 17, 3) := by decide +kernel
theorem d_BS_becomeDigest_13 : decode b_BS_becomeDigest 13 = .ok (.aload_n 0, 1) := by decide +kernel
theorem d_BS_becomeDigest_14 : decode b_BS_becomeDigest 14 = .ok (.iload_n 1, 1) := by decide +kernel
theorem d_BS_becomeDigest_15 : decode b_BS_becomeDigest 15 = .ok (.iload_n 2, 1) := by decide +kernel
theorem d_BS_becomeDigest_16 : decode b_BS_becomeDigest 16 = .ok (.iushr, 1) := by decide +kernel
theorem d_BS_becomeDigest_17 : decode b_BS_becomeDigest 17 = .ok (.invokevirtual 35, 3) := by decide +kernel
theorem d_BS_becomeDigest_20 : decode b_BS_becomeDigest 20 = .ok (.pop, 1) := by decide +kernel
theorem d_BS_becomeDigest_21 : decode b_BS_becomeDigest 21 = .ok (.iinc 2 8, 3) := by decide +kernel
theorem d_BS_becomeDigest_24 : decode b_BS_becomeDigest 24 = .ok (.goto (-17), 3) := by decide +kernel
theorem d_BS_becomeDigest_27 : decode b_BS_becomeDigest 27 = .ok (.return_, 1) := by decide +kernel
theorem wv_BS_35 : xh_V "SpendScript$ByteString" 35 0 y_BS_append b_BS_append 2 (some .boolean) 1 := ⟨(sp_tb (List.mem_of_getElem? (i := 173) (by decide +kernel))), (sp_tb (List.mem_of_getElem? (i := 2) (by decide +kernel))), (sp_tb (List.mem_of_getElem? (i := 272) (by decide +kernel))), ⟨by decide +kernel, by decide +kernel, by decide +kernel⟩, (sp_tb (List.mem_of_getElem? (i := 171) (by decide +kernel))), (sp_tb (List.mem_of_getElem? (i := 172) (by decide +kernel))), F_BS, 2, rfl⟩
abbrev rm_BS_becomeDigest : Room := { frames := 1, cells := 0, slots := 0, locals := 21 }
def fx_BS_becomeDigest_b7 (q : Nat) : Nat → Int32 → Int32 → xh_T → Option (Unit × xh_T)
  | 0, _, _, _ => none
  | n + 1, a1, a2, X => if 32 ≤ a2 then
  some ((), X)
  else xh_b (fx_BS_append q (xh_ush a1 a2) X) (fun (r3 : Int32) (X2 : xh_T) =>
  xh_n (a2 + 8) (fun v6 : Int32 =>
  fx_BS_becomeDigest_b7 q n a1 v6 X2))
set_option maxRecDepth 100000 in
set_option maxHeartbeats 4000000 in
theorem jb_BS_becomeDigest_b7 {p : Program} {l : Launch} {e : Env} {s : State} {m : MethodId} {args : Array Value} {below : List Frame} {meth : Method} {c : Code} {D : va_G} {G : xh_G} {q : Nat} (hz : xh_C p s m args c b_BS_becomeDigest 3 "SpendScript$ByteString" D G (xh_A G s.heap.size)) (hr : meth.sig.returnType = none) (hlk : meth.locks = false) (hq : sp_bs q = true) : ∀ (n : Nat) (a1 : Int32) (a2 : Int32) (X : xh_T), xh_J p l e rm_BS_becomeDigest s m args below meth c 0 0 D G (xh_A G s.heap.size) 3 (fun r X' => MQ below (xh_Qv D G (xh_A G s.heap.size) r X') args s 0 0 (xh_A G s.heap.size)) 7 [(0, .ref (G.1 q)), (1, .int a1), (2, .int a2)] [] X (fx_BS_becomeDigest_b7 q n a1 a2 X) := by
  intro n
  induction n with
  | zero => intro a1 a2 X; exact jr_none
  | succ n ih =>
    intro a1 a2 X
    rw [fx_BS_becomeDigest_b7]
    refine jr_iload_n hz d_BS_becomeDigest_7 rfl 2 rfl ?_
    refine jr_bipush (v := 32) hz d_BS_becomeDigest_8 (by decide) ?_
    refine jr_icmp_ge (tgt := 27) hz d_BS_becomeDigest_10 (by decide) ?_ ?_
    · exact jr_vret hz hr hlk d_BS_becomeDigest_27
    · refine jr_aload_n hz d_BS_becomeDigest_13 rfl 0 rfl ?_
      refine jr_iload_n hz d_BS_becomeDigest_14 rfl 1 rfl ?_
      refine jr_iload_n hz d_BS_becomeDigest_15 rfl 2 rfl ?_
      refine jr_iushr hz d_BS_becomeDigest_16 ?_
      refine jr_callVi (As := [.int (xh_ush a1 a2)]) (a := q) (ci := 0) (st := []) hz (cx_BS_append l D G hz.2.2.2.2.2.2.1 q (xh_ush a1 a2) X) (fun z h => sp_bs_v (xh_k_t h)) wv_BS_35 ⟨rfl, rfl, Nat.le_of_ble_eq_true rfl, Nat.le_of_ble_eq_true rfl⟩ ⟨Nat.zero_le _, Nat.zero_le _⟩ rfl rfl (Nat.le_of_ble_eq_true rfl) d_BS_becomeDigest_17 (fun r3 X2 => ?_)
      refine jr_pop hz d_BS_becomeDigest_20 rfl ?_
      refine jr_iinc (lf := [(0, .ref (G.1 q)), (1, .int a1)]) (w := 8) hz d_BS_becomeDigest_21 2 rfl (by decide) (by decide) rfl (fun v6 => ?_)
      refine jr_goto (tgt := 7) hz d_BS_becomeDigest_24 (by decide) ?_
      refine jr_sub (ls' := [(0, .ref (G.1 q)), (1, .int a1), (2, .int v6)]) [1, 2, 0] rfl ?_
      exact ih a1 v6 X2
def fx_BS_becomeDigest (q : Nat) (p1 : Int32) (X : xh_T) : Option (Unit × xh_T) :=
  xh_k (sp_bs q) (
  xh_n (xh_i X q 1 0) (fun X1 : xh_T =>
  xh_n 0 (fun v1 : Int32 =>
  fx_BS_becomeDigest_b7 q sp_fuel p1 v1 X1)))
set_option maxRecDepth 100000 in
set_option maxHeartbeats 4000000 in
theorem cx_BS_becomeDigest (l : Launch) (D : va_G) (G : xh_G) (hD : xh_D G) (q : Nat) (p1 : Int32) (X : xh_T) : xh_M xh_Qv l D G y_BS_becomeDigest b_BS_becomeDigest 3 none rm_BS_becomeDigest [.ref (G.1 q), .int p1] X (fx_BS_becomeDigest q p1 X) := by
  refine xh_enter (ls := [(0, .ref (G.1 q)), (1, .int p1)]) hD (by decide +kernel) (Nat.le_of_ble_eq_true rfl) rfl ?_
  intro p e s m args below meth c hz hr hlk
  unfold fx_BS_becomeDigest
  refine jr_k (fun hq => ?_)
  refine jr_aload_n hz d_BS_becomeDigest_0 rfl 0 rfl ?_
  refine jr_iconst (v := 0) hz d_BS_becomeDigest_1 (by decide) ?_
  refine jr_puti hz (sp_bs_lt hq) (sp_bs_of hq).2.1 rfl wp_BS_15 d_BS_becomeDigest_2 (fun X1 => ?_)
  refine jr_iconst (v := 0) hz d_BS_becomeDigest_5 (by decide) ?_
  refine jr_istore_n (lf := [(0, .ref (G.1 q)), (1, .int p1)]) hz d_BS_becomeDigest_6 rfl (by decide) rfl (fun v1 => ?_)
  refine jr_sub (ls' := [(0, .ref (G.1 q)), (1, .int p1), (2, .int v1)]) [1, 2, 0] rfl ?_
  exact jb_BS_becomeDigest_b7 hz hr hlk hq sp_fuel p1 v1 X1
theorem d_BS_isTrue_0 : decode b_BS_isTrue 0 = .ok (.iconst 0, 1) := by decide +kernel
theorem d_BS_isTrue_1 : decode b_BS_isTrue 1 = .ok (.istore_n 1, 1) := by decide +kernel
theorem d_BS_isTrue_2 : decode b_BS_isTrue 2 = .ok (.iload_n 1, 1) := by decide +kernel
theorem d_BS_isTrue_3 : decode b_BS_isTrue 3 = .ok (.aload_n 0, 1) := by decide +kernel
theorem d_BS_isTrue_4 : decode b_BS_isTrue 4 = .ok (.getfield 15, 3) := by decide +kernel
theorem d_BS_isTrue_7 : decode b_BS_isTrue 7 = .ok (.if_icmp .ge 52, 3) := by decide +kernel
theorem d_BS_isTrue_10 : decode b_BS_isTrue 10 = .ok (.iload_n 1, 1) := by decide +kernel
theorem d_BS_isTrue_11 : decode b_BS_isTrue 11 = .ok (.aload_n 0, 1) := by decide +kernel
theorem d_BS_isTrue_12 : decode b_BS_isTrue 12 = .ok (.getfield 15, 3) := by decide +kernel
theorem d_BS_isTrue_15 : decode b_BS_isTrue 15 = .ok (.iconst 1, 1) := by decide +kernel
theorem d_BS_isTrue_16 : decode b_BS_isTrue 16 = .ok (.isub, 1) := by decide +kernel
theorem d_BS_isTrue_17 : decode b_BS_isTrue 17 = .ok (.if_icmp .ne 19, 3) := by decide +kernel
theorem d_BS_isTrue_20 : decode b_BS_isTrue 20 = .ok (.aload_n 0, 1) := by decide +kernel
theorem d_BS_isTrue_21 : decode b_BS_isTrue 21 = .ok (.getfield 9, 3) := by decide +kernel
theorem d_BS_isTrue_24 : decode b_BS_isTrue 24 = .ok (.iload_n 1, 1) := by decide +kernel
theorem d_BS_isTrue_25 : decode b_BS_isTrue 25 = .ok (.iaload, 1) := by decide +kernel
theorem d_BS_isTrue_26 : decode b_BS_isTrue 26 = .ok (.sipush 128, 3) := by decide +kernel
theorem d_BS_isTrue_29 : decode b_BS_isTrue 29 = .ok (.if_icmp .ne 7, 3) := by decide +kernel
theorem d_BS_isTrue_32 : decode b_BS_isTrue 32 = .ok (.iconst 1, 1) := by decide +kernel
theorem d_BS_isTrue_33 : decode b_BS_isTrue 33 = .ok (.goto 4, 3) := by decide +kernel
theorem d_BS_isTrue_36 : decode b_BS_isTrue 36 = .ok (.iconst 0, 1) := by decide +kernel
theorem d_BS_isTrue_37 : decode b_BS_isTrue 37 = .ok (.istore_n 2, 1) := by decide +kernel
theorem d_BS_isTrue_38 : decode b_BS_isTrue 38 = .ok (.aload_n 0, 1) := by decide +kernel
theorem d_BS_isTrue_39 : decode b_BS_isTrue 39 = .ok (.getfield 9, 3) := by decide +kernel
theorem d_BS_isTrue_42 : decode b_BS_isTrue 42 = .ok (.iload_n 1, 1) := by decide +kernel
theorem d_BS_isTrue_43 : decode b_BS_isTrue 43 = .ok (.iaload, 1) := by decide +kernel
theorem d_BS_isTrue_44 : decode b_BS_isTrue 44 = .ok (.ifCond .eq 9, 3) := by decide +kernel
theorem d_BS_isTrue_47 : decode b_BS_isTrue 47 = .ok (.iload_n 2, 1) := by decide +kernel
theorem d_BS_isTrue_48 : decode b_BS_isTrue 48 = .ok (.ifCond .ne 5, 3) := by decide +kernel
theorem d_BS_isTrue_51 : decode b_BS_isTrue 51 = .ok (.iconst 1, 1) := by decide +kernel
theorem d_BS_isTrue_52 : decode b_BS_isTrue 52 = .ok (.ireturn, 1) := by decide +kernel
theorem d_BS_isTrue_53 : decode b_BS_isTrue 53 = .ok (.iinc 1 1, 3) := by decide +kernel
theorem d_BS_isTrue_56 : decode b_BS_isTrue 56 = .ok (.goto (-54), 3) := by decide +kernel
theorem d_BS_isTrue_59 : decode b_BS_isTrue 59 = .ok (.iconst 0, 1) := by decide +kernel
theorem d_BS_isTrue_60 : decode b_BS_isTrue 60 = .ok (.ireturn, 1) := by decide +kernel
abbrev rm_BS_isTrue : Room := { frames := 0, cells := 0, slots := 0, locals := 0 }
def fx_BS_isTrue_b37 (q : Nat) (lp2 : Int32 → xh_T → Option (Int32 × xh_T)) (a1 : Int32) (s0 : Int32) (X : xh_T) : Option (Int32 × xh_T) :=
  xh_n s0 (fun v2 : Int32 =>
  xh_o a1 (sp_len (q + 1)) (if (X.1 (q + 1) a1.toNatClampNeg) = 0 then
  xh_n (a1 + 1) (fun v3 : Int32 =>
  lp2 v3 X)
  else if v2 = 0 then
  some (1, X)
  else xh_n (a1 + 1) (fun v4 : Int32 =>
  lp2 v4 X)))
set_option maxRecDepth 100000 in
set_option maxHeartbeats 4000000 in
theorem jb_BS_isTrue_b37 {p : Program} {l : Launch} {e : Env} {s : State} {m : MethodId} {args : Array Value} {below : List Frame} {meth : Method} {c : Code} {D : va_G} {G : xh_G} {q : Nat} (hz : xh_C p s m args c b_BS_isTrue 3 "SpendScript$ByteString" D G (xh_A G s.heap.size)) (hr : meth.sig.returnType = (some .boolean)) (hlk : meth.locks = false) (hq : sp_bs q = true) (lp2 : Int32 → xh_T → Option (Int32 × xh_T)) (hlp2 : ∀ (a1 : Int32) (X : xh_T), xh_J p l e rm_BS_isTrue s m args below meth c 0 0 D G (xh_A G s.heap.size) 3 (fun r X' => MQ below (xh_Qi D G (xh_A G s.heap.size) r X') args s 0 0 (xh_A G s.heap.size)) 2 [(0, .ref (G.1 q)), (1, .int a1)] [] X (lp2 a1 X)) (a1 : Int32) (s0 : Int32) (X : xh_T) : xh_J p l e rm_BS_isTrue s m args below meth c 0 0 D G (xh_A G s.heap.size) 3 (fun r X' => MQ below (xh_Qi D G (xh_A G s.heap.size) r X') args s 0 0 (xh_A G s.heap.size)) 37 [(0, .ref (G.1 q)), (1, .int a1)] [.int s0] X (fx_BS_isTrue_b37 q lp2 a1 s0 X) := by
  unfold fx_BS_isTrue_b37
  refine jr_istore_n (lf := [(0, .ref (G.1 q)), (1, .int a1)]) hz d_BS_isTrue_37 rfl (by decide) rfl (fun v2 => ?_)
  refine jr_aload_n hz d_BS_isTrue_38 rfl 1 rfl ?_
  refine jr_getr (j := 0) (t := (q + 1)) hz (sp_bs_lt hq) (sp_bs_of hq).2.1 rfl wf_BS_9 d_BS_isTrue_39 ?_
  refine jr_iload_n hz d_BS_isTrue_42 rfl 2 rfl ?_
  refine jr_iald (n := (sp_len (q + 1))) hz (sp_bs_of hq).1 (sp_bs_of hq).2.2 d_BS_isTrue_43 ?_
  refine jr_if_eq (tgt := 53) hz d_BS_isTrue_44 (by decide) ?_ ?_
  · refine jr_iinc (lf := [(2, .int v2), (0, .ref (G.1 q))]) (w := 1) hz d_BS_isTrue_53 2 rfl (by decide) (by decide) rfl (fun v3 => ?_)
    refine jr_goto (tgt := 2) hz d_BS_isTrue_56 (by decide) ?_
    refine jr_sub (ls' := [(0, .ref (G.1 q)), (1, .int v3)]) [2, 0] rfl ?_
    exact hlp2 v3 X
  · refine jr_iload_n hz d_BS_isTrue_47 rfl 0 rfl ?_
    refine jr_if_ne (tgt := 53) hz d_BS_isTrue_48 (by decide) ?_ ?_
    · refine jr_iinc (lf := [(2, .int v2), (0, .ref (G.1 q))]) (w := 1) hz d_BS_isTrue_53 2 rfl (by decide) (by decide) rfl (fun v4 => ?_)
      refine jr_goto (tgt := 2) hz d_BS_isTrue_56 (by decide) ?_
      refine jr_sub (ls' := [(0, .ref (G.1 q)), (1, .int v4)]) [2, 0] rfl ?_
      exact hlp2 v4 X
    · refine jr_iconst (v := 1) hz d_BS_isTrue_51 (by decide) ?_
      exact jr_zret hz hr hlk (by decide) d_BS_isTrue_52
def fx_BS_isTrue_b36 (q : Nat) (lp2 : Int32 → xh_T → Option (Int32 × xh_T)) (a1 : Int32) (X : xh_T) : Option (Int32 × xh_T) :=
  fx_BS_isTrue_b37 q lp2 a1 0 X
set_option maxRecDepth 100000 in
set_option maxHeartbeats 4000000 in
theorem jb_BS_isTrue_b36 {p : Program} {l : Launch} {e : Env} {s : State} {m : MethodId} {args : Array Value} {below : List Frame} {meth : Method} {c : Code} {D : va_G} {G : xh_G} {q : Nat} (hz : xh_C p s m args c b_BS_isTrue 3 "SpendScript$ByteString" D G (xh_A G s.heap.size)) (hr : meth.sig.returnType = (some .boolean)) (hlk : meth.locks = false) (hq : sp_bs q = true) (lp2 : Int32 → xh_T → Option (Int32 × xh_T)) (hlp2 : ∀ (a1 : Int32) (X : xh_T), xh_J p l e rm_BS_isTrue s m args below meth c 0 0 D G (xh_A G s.heap.size) 3 (fun r X' => MQ below (xh_Qi D G (xh_A G s.heap.size) r X') args s 0 0 (xh_A G s.heap.size)) 2 [(0, .ref (G.1 q)), (1, .int a1)] [] X (lp2 a1 X)) (a1 : Int32) (X : xh_T) : xh_J p l e rm_BS_isTrue s m args below meth c 0 0 D G (xh_A G s.heap.size) 3 (fun r X' => MQ below (xh_Qi D G (xh_A G s.heap.size) r X') args s 0 0 (xh_A G s.heap.size)) 36 [(0, .ref (G.1 q)), (1, .int a1)] [] X (fx_BS_isTrue_b36 q lp2 a1 X) := by
  unfold fx_BS_isTrue_b36
  refine jr_iconst (v := 0) hz d_BS_isTrue_36 (by decide) ?_
  refine jr_sub (ls' := [(0, .ref (G.1 q)), (1, .int a1)]) [0, 1] rfl ?_
  exact jb_BS_isTrue_b37 hz hr hlk hq lp2 hlp2 a1 0 X
def fx_BS_isTrue_b2 (q : Nat) : Nat → Int32 → xh_T → Option (Int32 × xh_T)
  | 0, _, _ => none
  | n + 1, a1, X => if X.1 q 1 ≤ a1 then
  some (0, X)
  else if a1 = (X.1 q 1 - 1) then
  xh_o a1 (sp_len (q + 1)) (if (X.1 (q + 1) a1.toNatClampNeg) = 128 then
  fx_BS_isTrue_b37 q (fun z0 Z => fx_BS_isTrue_b2 q n z0 Z) a1 1 X
  else fx_BS_isTrue_b36 q (fun z0 Z => fx_BS_isTrue_b2 q n z0 Z) a1 X)
  else fx_BS_isTrue_b36 q (fun z0 Z => fx_BS_isTrue_b2 q n z0 Z) a1 X
set_option maxRecDepth 100000 in
set_option maxHeartbeats 4000000 in
theorem jb_BS_isTrue_b2 {p : Program} {l : Launch} {e : Env} {s : State} {m : MethodId} {args : Array Value} {below : List Frame} {meth : Method} {c : Code} {D : va_G} {G : xh_G} {q : Nat} (hz : xh_C p s m args c b_BS_isTrue 3 "SpendScript$ByteString" D G (xh_A G s.heap.size)) (hr : meth.sig.returnType = (some .boolean)) (hlk : meth.locks = false) (hq : sp_bs q = true) : ∀ (n : Nat) (a1 : Int32) (X : xh_T), xh_J p l e rm_BS_isTrue s m args below meth c 0 0 D G (xh_A G s.heap.size) 3 (fun r X' => MQ below (xh_Qi D G (xh_A G s.heap.size) r X') args s 0 0 (xh_A G s.heap.size)) 2 [(0, .ref (G.1 q)), (1, .int a1)] [] X (fx_BS_isTrue_b2 q n a1 X) := by
  intro n
  induction n with
  | zero => intro a1 X; exact jr_none
  | succ n ih =>
    intro a1 X
    rw [fx_BS_isTrue_b2]
    refine jr_iload_n hz d_BS_isTrue_2 rfl 1 rfl ?_
    refine jr_aload_n hz d_BS_isTrue_3 rfl 0 rfl ?_
    refine jr_geti (j := 1) hz (sp_bs_lt hq) (sp_bs_of hq).2.1 rfl wf_BS_15 d_BS_isTrue_4 ?_
    refine jr_icmp_ge (tgt := 59) hz d_BS_isTrue_7 (by decide) ?_ ?_
    · refine jr_iconst (v := 0) hz d_BS_isTrue_59 (by decide) ?_
      exact jr_zret hz hr hlk (by decide) d_BS_isTrue_60
    · refine jr_iload_n hz d_BS_isTrue_10 rfl 1 rfl ?_
      refine jr_aload_n hz d_BS_isTrue_11 rfl 0 rfl ?_
      refine jr_geti (j := 1) hz (sp_bs_lt hq) (sp_bs_of hq).2.1 rfl wf_BS_15 d_BS_isTrue_12 ?_
      refine jr_iconst (v := 1) hz d_BS_isTrue_15 (by decide) ?_
      refine jr_isub hz d_BS_isTrue_16 ?_
      refine jr_icmp_ne (tgt := 36) hz d_BS_isTrue_17 (by decide) ?_ ?_
      · refine jr_sub (ls' := [(0, .ref (G.1 q)), (1, .int a1)]) [0, 1] rfl ?_
        exact jb_BS_isTrue_b36 hz hr hlk hq (fun z0 Z => fx_BS_isTrue_b2 q n z0 Z) (fun z0 Z => ih z0 Z) a1 X
      · refine jr_aload_n hz d_BS_isTrue_20 rfl 0 rfl ?_
        refine jr_getr (j := 0) (t := (q + 1)) hz (sp_bs_lt hq) (sp_bs_of hq).2.1 rfl wf_BS_9 d_BS_isTrue_21 ?_
        refine jr_iload_n hz d_BS_isTrue_24 rfl 1 rfl ?_
        refine jr_iald (n := (sp_len (q + 1))) hz (sp_bs_of hq).1 (sp_bs_of hq).2.2 d_BS_isTrue_25 ?_
        refine jr_sipush (v := 128) hz d_BS_isTrue_26 (by decide) ?_
        refine jr_icmp_ne (tgt := 36) hz d_BS_isTrue_29 (by decide) ?_ ?_
        · refine jr_sub (ls' := [(0, .ref (G.1 q)), (1, .int a1)]) [0, 1] rfl ?_
          exact jb_BS_isTrue_b36 hz hr hlk hq (fun z0 Z => fx_BS_isTrue_b2 q n z0 Z) (fun z0 Z => ih z0 Z) a1 X
        · refine jr_iconst (v := 1) hz d_BS_isTrue_32 (by decide) ?_
          refine jr_goto (tgt := 37) hz d_BS_isTrue_33 (by decide) ?_
          refine jr_sub (ls' := [(0, .ref (G.1 q)), (1, .int a1)]) [0, 1] rfl ?_
          exact jb_BS_isTrue_b37 hz hr hlk hq (fun z0 Z => fx_BS_isTrue_b2 q n z0 Z) (fun z0 Z => ih z0 Z) a1 1 X
def fx_BS_isTrue (q : Nat) (X : xh_T) : Option (Int32 × xh_T) :=
  xh_k (sp_bs q) (
  xh_n 0 (fun v1 : Int32 =>
  fx_BS_isTrue_b2 q sp_fuel v1 X))
set_option maxRecDepth 100000 in
set_option maxHeartbeats 4000000 in
theorem cx_BS_isTrue (l : Launch) (D : va_G) (G : xh_G) (hD : xh_D G) (q : Nat) (X : xh_T) : xh_M xh_Qi l D G y_BS_isTrue b_BS_isTrue 3 (some .boolean) rm_BS_isTrue [.ref (G.1 q)] X (fx_BS_isTrue q X) := by
  refine xh_enter (ls := [(0, .ref (G.1 q))]) hD (by decide +kernel) (Nat.le_of_ble_eq_true rfl) rfl ?_
  intro p e s m args below meth c hz hr hlk
  unfold fx_BS_isTrue
  refine jr_k (fun hq => ?_)
  refine jr_iconst (v := 0) hz d_BS_isTrue_0 (by decide) ?_
  refine jr_istore_n (lf := [(0, .ref (G.1 q))]) hz d_BS_isTrue_1 rfl (by decide) rfl (fun v1 => ?_)
  refine jr_sub (ls' := [(0, .ref (G.1 q)), (1, .int v1)]) [1, 0] rfl ?_
  exact jb_BS_isTrue_b2 hz hr hlk hq sp_fuel v1 X
theorem d_BS_isNumber_0 : decode b_BS_isNumber 0 = .ok (.aload_n 0, 1) := by decide +kernel
theorem d_BS_isNumber_1 : decode b_BS_isNumber 1 = .ok (.getfield 15, 3) := by decide +kernel
theorem d_BS_isNumber_4 : decode b_BS_isNumber 4 = .ok (.iconst 4, 1) := by decide +kernel
theorem d_BS_isNumber_5 : decode b_BS_isNumber 5 = .ok (.if_icmp .gt 7, 3) := by decide +kernel
theorem d_BS_isNumber_8 : decode b_BS_isNumber 8 = .ok (.iconst 1, 1) := by decide +kernel
theorem d_BS_isNumber_9 : decode b_BS_isNumber 9 = .ok (.goto 4, 3) := by decide +kernel
theorem d_BS_isNumber_12 : decode b_BS_isNumber 12 = .ok (.iconst 0, 1) := by decide +kernel
theorem d_BS_isNumber_13 : decode b_BS_isNumber 13 = .ok (.ireturn, 1) := by decide +kernel
abbrev rm_BS_isNumber : Room := { frames := 0, cells := 0, slots := 0, locals := 0 }
def fx_BS_isNumber (q : Nat) (X : xh_T) : Option (Int32 × xh_T) :=
  xh_k (sp_bs q) (
  if 4 < X.1 q 1 then
  some (0, X)
  else some (1, X))
set_option maxRecDepth 100000 in
set_option maxHeartbeats 4000000 in
theorem cx_BS_isNumber (l : Launch) (D : va_G) (G : xh_G) (hD : xh_D G) (q : Nat) (X : xh_T) : xh_M xh_Qi l D G y_BS_isNumber b_BS_isNumber 1 (some .boolean) rm_BS_isNumber [.ref (G.1 q)] X (fx_BS_isNumber q X) := by
  refine xh_enter (ls := [(0, .ref (G.1 q))]) hD (by decide +kernel) (Nat.le_of_ble_eq_true rfl) rfl ?_
  intro p e s m args below meth c hz hr hlk
  unfold fx_BS_isNumber
  refine jr_k (fun hq => ?_)
  refine jr_aload_n hz d_BS_isNumber_0 rfl 0 rfl ?_
  refine jr_geti (j := 1) hz (sp_bs_lt hq) (sp_bs_of hq).2.1 rfl wf_BS_15 d_BS_isNumber_1 ?_
  refine jr_iconst (v := 4) hz d_BS_isNumber_4 (by decide) ?_
  refine jr_icmp_gt (tgt := 12) hz d_BS_isNumber_5 (by decide) ?_ ?_
  · refine jr_iconst (v := 0) hz d_BS_isNumber_12 (by decide) ?_
    exact jr_zret hz hr hlk (by decide) d_BS_isNumber_13
  · refine jr_iconst (v := 1) hz d_BS_isNumber_8 (by decide) ?_
    refine jr_goto (tgt := 13) hz d_BS_isNumber_9 (by decide) ?_
    exact jr_zret hz hr hlk (by decide) d_BS_isNumber_13

/-! printed by wip/whole/gen_walks.py -/
theorem d_MD_isScript_0 : decode b_MD_isScript 0 = .ok (.iload_n 0, 1) := by decide +kernel
theorem d_MD_isScript_1 : decode b_MD_isScript 1 = .ok (.ifCond .eq 8, 3) := by decide +kernel
theorem d_MD_isScript_4 : decode b_MD_isScript 4 = .ok (.iload_n 0, 1) := by decide +kernel
theorem d_MD_isScript_5 : decode b_MD_isScript 5 = .ok (.iconst 1, 1) := by decide +kernel
theorem d_MD_isScript_6 : decode b_MD_isScript 6 = .ok (.if_icmp .ne 7, 3) := by decide +kernel
theorem d_MD_isScript_9 : decode b_MD_isScript 9 = .ok (.iconst 1, 1) := by decide +kernel
theorem d_MD_isScript_10 : decode b_MD_isScript 10 = .ok (.goto 4, 3) := by decide +kernel
theorem d_MD_isScript_13 : decode b_MD_isScript 13 = .ok (.iconst 0, 1) := by decide +kernel
theorem d_MD_isScript_14 : decode b_MD_isScript 14 = .ok (.ireturn, 1) := by decide +kernel
abbrev rm_MD_isScript : Room := { frames := 0, cells := 0, slots := 0, locals := 0 }
def fx_MD_isScript_b9 (X : xh_T) : Option (Int32 × xh_T) :=
  some (1, X)
set_option maxRecDepth 100000 in
set_option maxHeartbeats 4000000 in
theorem jb_MD_isScript_b9 {p : Program} {l : Launch} {e : Env} {s : State} {m : MethodId} {args : Array Value} {below : List Frame} {meth : Method} {c : Code} {D : va_G} {G : xh_G} (hz : xh_C p s m args c b_MD_isScript 1 "SpendScriptModel" D G (xh_A G s.heap.size)) (hr : meth.sig.returnType = (some .boolean)) (hlk : meth.locks = false) (X : xh_T) : xh_J p l e rm_MD_isScript s m args below meth c 0 0 D G (xh_A G s.heap.size) 1 (fun r X' => MQ below (xh_Qi D G (xh_A G s.heap.size) r X') args s 0 0 (xh_A G s.heap.size)) 9 [] [] X (fx_MD_isScript_b9 X) := by
  unfold fx_MD_isScript_b9
  refine jr_iconst (v := 1) hz d_MD_isScript_9 (by decide) ?_
  refine jr_goto (tgt := 14) hz d_MD_isScript_10 (by decide) ?_
  exact jr_zret hz hr hlk (by decide) d_MD_isScript_14
def fx_MD_isScript (p1 : Int32) (X : xh_T) : Option (Int32 × xh_T) :=
  if p1 = 0 then
  fx_MD_isScript_b9 X
  else if p1 = 1 then
  fx_MD_isScript_b9 X
  else some (0, X)
set_option maxRecDepth 100000 in
set_option maxHeartbeats 4000000 in
theorem cx_MD_isScript (l : Launch) (D : va_G) (G : xh_G) (hD : xh_D G) (p1 : Int32) (X : xh_T) : xh_M xh_Qi l D G y_MD_isScript b_MD_isScript 1 (some .boolean) rm_MD_isScript [.int p1] X (fx_MD_isScript p1 X) := by
  refine xh_enter (ls := [(0, .int p1)]) hD (by decide +kernel) (Nat.le_of_ble_eq_true rfl) rfl ?_
  intro p e s m args below meth c hz hr hlk
  unfold fx_MD_isScript
  refine jr_iload_n hz d_MD_isScript_0 rfl 0 rfl ?_
  refine jr_if_eq (tgt := 9) hz d_MD_isScript_1 (by decide) ?_ ?_
  · refine jr_sub (ls' := []) [] rfl ?_
    exact jb_MD_isScript_b9 hz hr hlk X
  · refine jr_iload_n hz d_MD_isScript_4 rfl 0 rfl ?_
    refine jr_iconst (v := 1) hz d_MD_isScript_5 (by decide) ?_
    refine jr_icmp_ne (tgt := 13) hz d_MD_isScript_6 (by decide) ?_ ?_
    · refine jr_iconst (v := 0) hz d_MD_isScript_13 (by decide) ?_
      exact jr_zret hz hr hlk (by decide) d_MD_isScript_14
    · refine jr_sub (ls' := []) [] rfl ?_
      exact jb_MD_isScript_b9 hz hr hlk X
theorem d_MD_feed_0 : decode b_MD_feed 0 = .ok (.iload_n 1, 1) := by decide +kernel
theorem d_MD_feed_1 : decode b_MD_feed 1 = .ok (.invokestatic 49, 3) := by decide +kernel
theorem d_MD_feed_4 : decode b_MD_feed 4 = .ok (.ifCond .eq 14, 3) := by decide +kernel
theorem d_MD_feed_7 : decode b_MD_feed 7 = .ok (.aload_n 0, 1) := by decide +kernel
theorem d_MD_feed_8 : decode b_MD_feed 8 = .ok (.getfield 13, 3) := by decide +kernel
theorem d_MD_feed_11 : decode b_MD_feed 11 = .ok (.iload_n 1, 1) := by decide +kernel
theorem d_MD_feed_12 : decode b_MD_feed 12 = .ok (.iaload, 1) := by decide +kernel
theorem d_MD_feed_13 : decode b_MD_feed 13 = .ok (.bipush 120, 2) := by decide +kernel
theorem d_MD_feed_15 : decode b_MD_feed 15 = .ok (.if_icmp .ne 5, 3) := by decide +kernel
theorem d_MD_feed_18 : decode b_MD_feed 18 = .ok (.iconst 0, 1) := by decide +kernel
theorem d_MD_feed_19 : decode b_MD_feed 19 = .ok (.ireturn, 1) := by decide +kernel
theorem d_MD_feed_20 : decode b_MD_feed 20 = .ok (.aload_n 0, 1) := by decide +kernel
theorem d_MD_feed_21 : decode b_MD_feed 21 = .ok (.getfield 7, 3) := by decide +kernel
theorem d_MD_feed_24 : decode b_MD_feed 24 = .ok (.bipush 120, 2) := by decide +kernel
theorem d_MD_feed_26 : decode b_MD_feed 26 = .ok (.iload_n 1, 1) := by decide +kernel
theorem d_MD_feed_27 : decode b_MD_feed 27 = .ok (.imul, 1) := by decide +kernel
theorem d_MD_feed_28 : decode b_MD_feed 28 = .ok (.aload_n 0, 1) := by decide +kernel
theorem d_MD_feed_29 : decode b_MD_feed 29 = .ok (.getfield 13, 3) := by decide +kernel
theorem d_MD_feed_32 : decode b_MD_feed 32 = .ok (.iload_n 1, 1) := by decide +kernel
theorem d_MD_feed_33 : decode b_MD_feed 33 = .ok (.iaload, 1) := by decide +kernel
theorem d_MD_feed_34 : decode b_MD_feed 34 = .ok (.iadd, 1) := by decide +kernel
theorem d_MD_feed_35 : decode b_MD_feed 35 = .ok (.iload_n 2, 1) := by decide +kernel
theorem d_MD_feed_36 : decode b_MD_feed 36 = .ok (.sipush 255, 3) := by decide +kernel
theorem d_MD_feed_39 : decode b_MD_feed 39 = .ok (.iand, 1) := by decide +kernel
theorem d_MD_feed_40 : decode b_MD_feed 40 = .ok (.iastore, 1) := by decide +kernel
theorem d_MD_feed_41 : decode b_MD_feed 41 = .ok (.aload_n 0, 1) := by decide +kernel
theorem d_MD_feed_42 : decode b_MD_feed 42 = .ok (.getfield 13, 3) := by decide +kernel
theorem d_MD_feed_45 : decode b_MD_feed 45 = .ok (.iload_n 1, 1) := by decide +kernel
theorem d_MD_feed_46 : decode b_MD_feed 46 = .ok (.aload_n 0, 1) := by decide +kernel
theorem d_MD_feed_47 : decode b_MD_feed 47 = .ok (.getfield 13, 3) := by decide +kernel
theorem d_MD_feed_50 : decode b_MD_feed 50 = .ok (.iload_n 1, 1) := by decide +kernel
theorem d_MD_feed_51 : decode b_MD_feed 51 = .ok (.iaload, 1) := by decide +kernel
theorem d_MD_feed_52 : decode b_MD_feed 52 = .ok (.iconst 1, 1) := by decide +kernel
theorem d_MD_feed_53 : decode b_MD_feed 53 = .ok (.iadd, 1) := by decide +kernel
theorem d_MD_feed_54 : decode b_MD_feed 54 = .ok (.iastore, 1) := by decide +kernel
theorem d_MD_feed_55 : decode b_MD_feed 55 = .ok (.iconst 1, 1) := by decide +kernel
theorem d_MD_feed_56 : decode b_MD_feed 56 = .ok (.ireturn, 1) := by decide +kernel
theorem ws_MD_49 : xh_S "SpendScriptModel" 49 y_MD_isScript b_MD_isScript 1 (some .boolean) 1 := ⟨(sp_tb (List.mem_of_getElem? (i := 602) (by decide +kernel))), (sp_tb (List.mem_of_getElem? (i := 8) (by decide +kernel))), (sp_tb (List.mem_of_getElem? (i := 600) (by decide +kernel))), ⟨by decide +kernel, by decide +kernel, by decide +kernel⟩, (sp_tb (List.mem_of_getElem? (i := 601) (by decide +kernel)))⟩
theorem wf_MD_13 : xh_F "SpendScriptModel" 13 7 1 := ⟨R_MD, F_MD, 19, rfl, by decide, iw_MD, (sp_tb (List.mem_of_getElem? (i := 538) (by decide +kernel)))⟩
theorem wf_MD_7 : xh_F "SpendScriptModel" 7 7 0 := ⟨R_MD, F_MD, 19, rfl, by decide, iw_MD, (sp_tb (List.mem_of_getElem? (i := 537) (by decide +kernel)))⟩
abbrev rm_MD_feed : Room := { frames := 1, cells := 0, slots := 0, locals := 20 }
def fx_MD_feed (p1 : Int32) (p2 : Int32) (X : xh_T) : Option (Int32 × xh_T) :=
  xh_b (fx_MD_isScript p1 X) (fun (r2 : Int32) (X1 : xh_T) =>
  if r2 = 0 then
  some (0, X1)
  else xh_o p1 3 (if (X1.1 208 p1.toNatClampNeg) = 120 then
  some (0, X1)
  else xh_o p1 3 (xh_o ((120 * p1) + (X1.1 208 p1.toNatClampNeg)) 360 (xh_n (xh_i X1 207 (((120 * p1) + (X1.1 208 p1.toNatClampNeg)) : Int32).toNatClampNeg (p2 &&& 255)) (fun X2 : xh_T =>
  xh_o p1 3 (xh_o p1 3 (xh_n (xh_i X2 208 (p1 : Int32).toNatClampNeg ((X2.1 208 p1.toNatClampNeg) + 1)) (fun X3 : xh_T =>
  some (1, X3)))))))))
set_option maxRecDepth 100000 in
set_option maxHeartbeats 4000000 in
theorem cx_MD_feed (l : Launch) (D : va_G) (G : xh_G) (hD : xh_D G) (p1 : Int32) (p2 : Int32) (X : xh_T) : xh_M xh_Qi l D G y_MD_feed b_MD_feed 3 (some .boolean) rm_MD_feed [.ref (G.1 206), .int p1, .int p2] X (fx_MD_feed p1 p2 X) := by
  refine xh_enter (ls := [(0, .ref (G.1 206)), (1, .int p1), (2, .int p2)]) hD (by decide +kernel) (Nat.le_of_ble_eq_true rfl) rfl ?_
  intro p e s m args below meth c hz hr hlk
  unfold fx_MD_feed
  refine jr_iload_n hz d_MD_feed_0 rfl 1 rfl ?_
  refine jr_callSi (As := [.int p1]) (st := []) hz (cx_MD_isScript l D G hz.2.2.2.2.2.2.1 p1 X) ws_MD_49 ⟨rfl, rfl, Nat.le_of_ble_eq_true rfl, Nat.le_of_ble_eq_true rfl⟩ ⟨Nat.zero_le _, Nat.zero_le _⟩ rfl rfl (Nat.le_of_ble_eq_true rfl) d_MD_feed_1 (fun r2 X1 => ?_)
  refine jr_if_eq (tgt := 18) hz d_MD_feed_4 (by decide) ?_ ?_
  · refine jr_iconst (v := 0) hz d_MD_feed_18 (by decide) ?_
    exact jr_zret hz hr hlk (by decide) d_MD_feed_19
  · refine jr_aload_n hz d_MD_feed_7 rfl 0 rfl ?_
    refine jr_getr (j := 1) (t := 208) hz lq_206 ly_206 rfl wf_MD_13 d_MD_feed_8 ?_
    refine jr_iload_n hz d_MD_feed_11 rfl 1 rfl ?_
    refine jr_iald (n := 3) hz lq_208 ly_208 d_MD_feed_12 ?_
    refine jr_bipush (v := 120) hz d_MD_feed_13 (by decide) ?_
    refine jr_icmp_ne (tgt := 20) hz d_MD_feed_15 (by decide) ?_ ?_
    · refine jr_aload_n hz d_MD_feed_20 rfl 0 rfl ?_
      refine jr_getr (j := 0) (t := 207) hz lq_206 ly_206 rfl wf_MD_7 d_MD_feed_21 ?_
      refine jr_bipush (v := 120) hz d_MD_feed_24 (by decide) ?_
      refine jr_iload_n hz d_MD_feed_26 rfl 1 rfl ?_
      refine jr_imul hz d_MD_feed_27 ?_
      refine jr_aload_n hz d_MD_feed_28 rfl 0 rfl ?_
      refine jr_getr (j := 1) (t := 208) hz lq_206 ly_206 rfl wf_MD_13 d_MD_feed_29 ?_
      refine jr_iload_n hz d_MD_feed_32 rfl 1 rfl ?_
      refine jr_iald (n := 3) hz lq_208 ly_208 d_MD_feed_33 ?_
      refine jr_iadd hz d_MD_feed_34 ?_
      refine jr_iload_n hz d_MD_feed_35 rfl 2 rfl ?_
      refine jr_sipush (v := 255) hz d_MD_feed_36 (by decide) ?_
      refine jr_iand hz d_MD_feed_39 ?_
      refine jr_iast (n := 360) hz lq_207 ly_207 d_MD_feed_40 (fun X2 => ?_)
      refine jr_aload_n hz d_MD_feed_41 rfl 0 rfl ?_
      refine jr_getr (j := 1) (t := 208) hz lq_206 ly_206 rfl wf_MD_13 d_MD_feed_42 ?_
      refine jr_iload_n hz d_MD_feed_45 rfl 1 rfl ?_
      refine jr_aload_n hz d_MD_feed_46 rfl 0 rfl ?_
      refine jr_getr (j := 1) (t := 208) hz lq_206 ly_206 rfl wf_MD_13 d_MD_feed_47 ?_
      refine jr_iload_n hz d_MD_feed_50 rfl 1 rfl ?_
      refine jr_iald (n := 3) hz lq_208 ly_208 d_MD_feed_51 ?_
      refine jr_iconst (v := 1) hz d_MD_feed_52 (by decide) ?_
      refine jr_iadd hz d_MD_feed_53 ?_
      refine jr_iast (n := 3) hz lq_208 ly_208 d_MD_feed_54 (fun X3 => ?_)
      refine jr_iconst (v := 1) hz d_MD_feed_55 (by decide) ?_
      exact jr_zret hz hr hlk (by decide) d_MD_feed_56
    · refine jr_iconst (v := 0) hz d_MD_feed_18 (by decide) ?_
      exact jr_zret hz hr hlk (by decide) d_MD_feed_19
theorem d_MD_length_0 : decode b_MD_length 0 = .ok (.iload_n 1, 1) := by decide +kernel
theorem d_MD_length_1 : decode b_MD_length 1 = .ok (.invokestatic 49, 3) := by decide +kernel
theorem d_MD_length_4 : decode b_MD_length 4 = .ok (.ifCond .eq 12, 3) := by decide +kernel
theorem d_MD_length_7 : decode b_MD_length 7 = .ok (.aload_n 0, 1) := by decide +kernel
theorem d_MD_length_8 : decode b_MD_length 8 = .ok (.getfield 13, 3) := by decide +kernel
theorem d_MD_length_11 : decode b_MD_length 11 = .ok (.iload_n 1, 1) := by decide +kernel
theorem d_MD_length_12 : decode b_MD_length 12 = .ok (.iaload, 1) := by decide +kernel
theorem d_MD_length_13 : decode b_MD_length 13 = .ok (.goto 4, 3) := by decide +kernel
theorem d_MD_length_16 : decode b_MD_length 16 = .ok (.iconst (-1), 1) := by decide +kernel
theorem d_MD_length_17 : decode b_MD_length 17 = .ok (.ireturn, 1) := by decide +kernel
abbrev rm_MD_length : Room := { frames := 1, cells := 0, slots := 0, locals := 20 }
def fx_MD_length (p1 : Int32) (X : xh_T) : Option (Int32 × xh_T) :=
  xh_b (fx_MD_isScript p1 X) (fun (r2 : Int32) (X1 : xh_T) =>
  if r2 = 0 then
  some ((-1), X1)
  else xh_o p1 3 (some ((X1.1 208 p1.toNatClampNeg), X1)))
set_option maxRecDepth 100000 in
set_option maxHeartbeats 4000000 in
theorem cx_MD_length (l : Launch) (D : va_G) (G : xh_G) (hD : xh_D G) (p1 : Int32) (X : xh_T) : xh_M xh_Qi l D G y_MD_length b_MD_length 2 (some .int) rm_MD_length [.ref (G.1 206), .int p1] X (fx_MD_length p1 X) := by
  refine xh_enter (ls := [(0, .ref (G.1 206)), (1, .int p1)]) hD (by decide +kernel) (Nat.le_of_ble_eq_true rfl) rfl ?_
  intro p e s m args below meth c hz hr hlk
  unfold fx_MD_length
  refine jr_iload_n hz d_MD_length_0 rfl 1 rfl ?_
  refine jr_callSi (As := [.int p1]) (st := []) hz (cx_MD_isScript l D G hz.2.2.2.2.2.2.1 p1 X) ws_MD_49 ⟨rfl, rfl, Nat.le_of_ble_eq_true rfl, Nat.le_of_ble_eq_true rfl⟩ ⟨Nat.zero_le _, Nat.zero_le _⟩ rfl rfl (Nat.le_of_ble_eq_true rfl) d_MD_length_1 (fun r2 X1 => ?_)
  refine jr_if_eq (tgt := 16) hz d_MD_length_4 (by decide) ?_ ?_
  · refine jr_iconst (v := (-1)) hz d_MD_length_16 (by decide) ?_
    exact jr_iret hz hr hlk d_MD_length_17
  · refine jr_aload_n hz d_MD_length_7 rfl 0 rfl ?_
    refine jr_getr (j := 1) (t := 208) hz lq_206 ly_206 rfl wf_MD_13 d_MD_length_8 ?_
    refine jr_iload_n hz d_MD_length_11 rfl 1 rfl ?_
    refine jr_iald (n := 3) hz lq_208 ly_208 d_MD_length_12 ?_
    refine jr_goto (tgt := 17) hz d_MD_length_13 (by decide) ?_
    exact jr_iret hz hr hlk d_MD_length_17
theorem d_MD_clear_0 : decode b_MD_clear 0 = .ok (.iload_n 1, 1) := by decide +kernel
theorem d_MD_clear_1 : decode b_MD_clear 1 = .ok (.invokestatic 49, 3) := by decide +kernel
theorem d_MD_clear_4 : decode b_MD_clear 4 = .ok (.ifCond .ne 5, 3) := by decide +kernel
theorem d_MD_clear_7 : decode b_MD_clear 7 = .ok (.iconst 0, 1) := by decide +kernel
theorem d_MD_clear_8 : decode b_MD_clear 8 = .ok (.ireturn, 1) := by decide +kernel
theorem d_MD_clear_9 : decode b_MD_clear 9 = .ok (.aload_n 0, 1) := by decide +kernel
theorem d_MD_clear_10 : decode b_MD_clear 10 = .ok (.getfield 13, 3) := by decide +kernel
theorem d_MD_clear_13 : decode b_MD_clear 13 = .ok (.iload_n 1, 1) := by decide +kernel
theorem d_MD_clear_14 : decode b_MD_clear 14 = .ok (.iconst 0, 1) := by decide +kernel
theorem d_MD_clear_15 : decode b_MD_clear 15 = .ok (.iastore, 1) := by decide +kernel
theorem d_MD_clear_16 : decode b_MD_clear 16 = .ok (.iconst 1, 1) := by decide +kernel
theorem d_MD_clear_17 : decode b_MD_clear 17 = .ok (.ireturn, 1) := by decide +kernel
abbrev rm_MD_clear : Room := { frames := 1, cells := 0, slots := 0, locals := 20 }
def fx_MD_clear (p1 : Int32) (X : xh_T) : Option (Int32 × xh_T) :=
  xh_b (fx_MD_isScript p1 X) (fun (r2 : Int32) (X1 : xh_T) =>
  if r2 = 0 then
  some (0, X1)
  else xh_o p1 3 (xh_n (xh_i X1 208 (p1 : Int32).toNatClampNeg 0) (fun X2 : xh_T =>
  some (1, X2))))
set_option maxRecDepth 100000 in
set_option maxHeartbeats 4000000 in
theorem cx_MD_clear (l : Launch) (D : va_G) (G : xh_G) (hD : xh_D G) (p1 : Int32) (X : xh_T) : xh_M xh_Qi l D G y_MD_clear b_MD_clear 2 (some .boolean) rm_MD_clear [.ref (G.1 206), .int p1] X (fx_MD_clear p1 X) := by
  refine xh_enter (ls := [(0, .ref (G.1 206)), (1, .int p1)]) hD (by decide +kernel) (Nat.le_of_ble_eq_true rfl) rfl ?_
  intro p e s m args below meth c hz hr hlk
  unfold fx_MD_clear
  refine jr_iload_n hz d_MD_clear_0 rfl 1 rfl ?_
  refine jr_callSi (As := [.int p1]) (st := []) hz (cx_MD_isScript l D G hz.2.2.2.2.2.2.1 p1 X) ws_MD_49 ⟨rfl, rfl, Nat.le_of_ble_eq_true rfl, Nat.le_of_ble_eq_true rfl⟩ ⟨Nat.zero_le _, Nat.zero_le _⟩ rfl rfl (Nat.le_of_ble_eq_true rfl) d_MD_clear_1 (fun r2 X1 => ?_)
  refine jr_if_ne (tgt := 9) hz d_MD_clear_4 (by decide) ?_ ?_
  · refine jr_aload_n hz d_MD_clear_9 rfl 0 rfl ?_
    refine jr_getr (j := 1) (t := 208) hz lq_206 ly_206 rfl wf_MD_13 d_MD_clear_10 ?_
    refine jr_iload_n hz d_MD_clear_13 rfl 1 rfl ?_
    refine jr_iconst (v := 0) hz d_MD_clear_14 (by decide) ?_
    refine jr_iast (n := 3) hz lq_208 ly_208 d_MD_clear_15 (fun X2 => ?_)
    refine jr_iconst (v := 1) hz d_MD_clear_16 (by decide) ?_
    exact jr_zret hz hr hlk (by decide) d_MD_clear_17
  · refine jr_iconst (v := 0) hz d_MD_clear_7 (by decide) ?_
    exact jr_zret hz hr hlk (by decide) d_MD_clear_8
theorem d_MD_confirm_0 : decode b_MD_confirm 0 = .ok (.aload_n 0, 1) := by decide +kernel
theorem d_MD_confirm_1 : decode b_MD_confirm 1 = .ok (.getfield 53, 3) := by decide +kernel
theorem d_MD_confirm_4 : decode b_MD_confirm 4 = .ok (.bipush 8, 2) := by decide +kernel
theorem d_MD_confirm_6 : decode b_MD_confirm 6 = .ok (.if_icmp .ne 5, 3) := by decide +kernel
theorem d_MD_confirm_9 : decode b_MD_confirm 9 = .ok (.iconst 0, 1) := by decide +kernel
theorem d_MD_confirm_10 : decode b_MD_confirm 10 = .ok (.ireturn, 1) := by decide +kernel
theorem d_MD_confirm_11 : decode b_MD_confirm 11 = .ok (.aload_n 0, 1) := by decide +kernel
theorem d_MD_confirm_12 : decode b_MD_confirm 12 = .ok (.getfield 29, 3) := by decide +kernel
theorem d_MD_confirm_15 : decode b_MD_confirm 15 = .ok (.aload_n 0, 1) := by decide +kernel
theorem d_MD_confirm_16 : decode b_MD_confirm 16 = .ok (.getfield 53, 3) := by decide +kernel
theorem d_MD_confirm_19 : decode b_MD_confirm 19 = .ok (.iload_n 1, 1) := by decide +kernel
theorem d_MD_confirm_20 : decode b_MD_confirm 20 = .ok (.iastore, 1) := by decide +kernel
theorem d_MD_confirm_21 : decode b_MD_confirm 21 = .ok (.aload_n 0, 1) := by decide +kernel
theorem d_MD_confirm_22 : decode b_MD_confirm 22 = .ok (.getfield 32, 3) := by decide +kernel
theorem d_MD_confirm_25 : decode b_MD_confirm 25 = .ok (.aload_n 0, 1) := by decide +kernel
theorem d_MD_confirm_26 : decode b_MD_confirm 26 = .ok (.getfield 53, 3) := by decide +kernel
theorem d_MD_confirm_29 : decode b_MD_confirm 29 = .ok (.iload_n 2, 1) := by decide +kernel
theorem d_MD_confirm_30 : decode b_MD_confirm 30 = .ok (.iastore, 1) := by decide +kernel
theorem d_MD_confirm_31 : decode b_MD_confirm 31 = .ok (.aload_n 0, 1) := by decide +kernel
theorem d_MD_confirm_32 : decode b_MD_confirm 32 = .ok (.aload_n 0, 1) := by decide +kernel
theorem d_MD_confirm_33 : decode b_MD_confirm 33 = .ok (.getfield 53, 3) := by decide +kernel
theorem d_MD_confirm_36 : decode b_MD_confirm 36 = .ok (.iconst 1, 1) := by decide +kernel
theorem d_MD_confirm_37 : decode b_MD_confirm 37 = .ok (.iadd, 1) := by decide +kernel
theorem d_MD_confirm_38 : decode b_MD_confirm 38 = .ok (.putfield 53, 3) := by decide +kernel
theorem d_MD_confirm_41 : decode b_MD_confirm 41 = .ok (.iconst 1, 1) := by decide +kernel
theorem d_MD_confirm_42 : decode b_MD_confirm 42 = .ok (.ireturn, 1) := by decide +kernel
theorem wf_MD_53 : xh_F "SpendScriptModel" 53 7 13 := ⟨R_MD, F_MD, 19, rfl, by decide, iw_MD, (sp_tb (List.mem_of_getElem? (i := 550) (by decide +kernel)))⟩
theorem wf_MD_29 : xh_F "SpendScriptModel" 29 7 11 := ⟨R_MD, F_MD, 19, rfl, by decide, iw_MD, (sp_tb (List.mem_of_getElem? (i := 548) (by decide +kernel)))⟩
theorem wf_MD_32 : xh_F "SpendScriptModel" 32 7 12 := ⟨R_MD, F_MD, 19, rfl, by decide, iw_MD, (sp_tb (List.mem_of_getElem? (i := 549) (by decide +kernel)))⟩
theorem wp_MD_53 : xh_Fp "SpendScriptModel" 53 7 13 := ⟨R_MD, F_MD, 19, t_MD, rfl, by decide, iw_MD, (sp_tb (List.mem_of_getElem? (i := 550) (by decide +kernel))), tk_MD, nk_MD, rfl, rfl⟩
abbrev rm_MD_confirm : Room := { frames := 0, cells := 0, slots := 0, locals := 0 }
def fx_MD_confirm (p1 : Int32) (p2 : Int32) (X : xh_T) : Option (Int32 × xh_T) :=
  if X.1 206 13 = 8 then
  some (0, X)
  else xh_o (X.1 206 13) 8 (xh_n (xh_i X 213 (X.1 206 13 : Int32).toNatClampNeg p1) (fun X1 : xh_T =>
  xh_o (X1.1 206 13) 8 (xh_n (xh_i X1 214 (X1.1 206 13 : Int32).toNatClampNeg p2) (fun X2 : xh_T =>
  xh_n (xh_i X2 206 13 (X2.1 206 13 + 1)) (fun X3 : xh_T =>
  some (1, X3))))))
set_option maxRecDepth 100000 in
set_option maxHeartbeats 4000000 in
theorem cx_MD_confirm (l : Launch) (D : va_G) (G : xh_G) (hD : xh_D G) (p1 : Int32) (p2 : Int32) (X : xh_T) : xh_M xh_Qi l D G y_MD_confirm b_MD_confirm 3 (some .boolean) rm_MD_confirm [.ref (G.1 206), .int p1, .int p2] X (fx_MD_confirm p1 p2 X) := by
  refine xh_enter (ls := [(0, .ref (G.1 206)), (1, .int p1), (2, .int p2)]) hD (by decide +kernel) (Nat.le_of_ble_eq_true rfl) rfl ?_
  intro p e s m args below meth c hz hr hlk
  unfold fx_MD_confirm
  refine jr_aload_n hz d_MD_confirm_0 rfl 0 rfl ?_
  refine jr_geti (j := 13) hz lq_206 ly_206 rfl wf_MD_53 d_MD_confirm_1 ?_
  refine jr_bipush (v := 8) hz d_MD_confirm_4 (by decide) ?_
  refine jr_icmp_ne (tgt := 11) hz d_MD_confirm_6 (by decide) ?_ ?_
  · refine jr_aload_n hz d_MD_confirm_11 rfl 0 rfl ?_
    refine jr_getr (j := 11) (t := 213) hz lq_206 ly_206 rfl wf_MD_29 d_MD_confirm_12 ?_
    refine jr_aload_n hz d_MD_confirm_15 rfl 0 rfl ?_
    refine jr_geti (j := 13) hz lq_206 ly_206 rfl wf_MD_53 d_MD_confirm_16 ?_
    refine jr_iload_n hz d_MD_confirm_19 rfl 1 rfl ?_
    refine jr_iast (n := 8) hz lq_213 ly_213 d_MD_confirm_20 (fun X1 => ?_)
    refine jr_aload_n hz d_MD_confirm_21 rfl 0 rfl ?_
    refine jr_getr (j := 12) (t := 214) hz lq_206 ly_206 rfl wf_MD_32 d_MD_confirm_22 ?_
    refine jr_aload_n hz d_MD_confirm_25 rfl 0 rfl ?_
    refine jr_geti (j := 13) hz lq_206 ly_206 rfl wf_MD_53 d_MD_confirm_26 ?_
    refine jr_iload_n hz d_MD_confirm_29 rfl 2 rfl ?_
    refine jr_iast (n := 8) hz lq_214 ly_214 d_MD_confirm_30 (fun X2 => ?_)
    refine jr_aload_n hz d_MD_confirm_31 rfl 0 rfl ?_
    refine jr_aload_n hz d_MD_confirm_32 rfl 0 rfl ?_
    refine jr_geti (j := 13) hz lq_206 ly_206 rfl wf_MD_53 d_MD_confirm_33 ?_
    refine jr_iconst (v := 1) hz d_MD_confirm_36 (by decide) ?_
    refine jr_iadd hz d_MD_confirm_37 ?_
    refine jr_puti hz lq_206 ly_206 rfl wp_MD_53 d_MD_confirm_38 (fun X3 => ?_)
    refine jr_iconst (v := 1) hz d_MD_confirm_41 (by decide) ?_
    exact jr_zret hz hr hlk (by decide) d_MD_confirm_42
  · refine jr_iconst (v := 0) hz d_MD_confirm_9 (by decide) ?_
    exact jr_zret hz hr hlk (by decide) d_MD_confirm_10
theorem d_MD_digest_0 : decode b_MD_digest 0 = .ok (.iload_n 1, 1) := by decide +kernel
theorem d_MD_digest_1 : decode b_MD_digest 1 = .ok (.invokestatic 49, 3) := by decide +kernel
theorem d_MD_digest_4 : decode b_MD_digest 4 = .ok (.ifCond .eq 33, 3) := by decide +kernel
theorem d_MD_digest_7 : decode b_MD_digest 7 = .ok (.iload_n 2, 1) := by decide +kernel
theorem d_MD_digest_8 : decode b_MD_digest 8 = .ok (.ifCond .lt 29, 3) := by decide +kernel
theorem d_MD_digest_11 : decode b_MD_digest 11 = .ok (.iload_n 3, 1) := by decide +kernel
theorem d_MD_digest_12 : decode b_MD_digest 12 = .ok (.ifCond .lt 25, 3) := by decide +kernel
theorem d_MD_digest_15 : decode b_MD_digest 15 = .ok (.iload_n 2, 1) := by decide +kernel
theorem d_MD_digest_16 : decode b_MD_digest 16 = .ok (.aload_n 0, 1) := by decide +kernel
theorem d_MD_digest_17 : decode b_MD_digest 17 = .ok (.getfield 13, 3) := by decide +kernel
theorem d_MD_digest_20 : decode b_MD_digest 20 = .ok (.iload_n 1, 1) := by decide +kernel
theorem d_MD_digest_21 : decode b_MD_digest 21 = .ok (.iaload, 1) := by decide +kernel
theorem d_MD_digest_22 : decode b_MD_digest 22 = .ok (.if_icmp .gt 15, 3) := by decide +kernel
theorem d_MD_digest_25 : decode b_MD_digest 25 = .ok (.iload_n 3, 1) := by decide +kernel
theorem d_MD_digest_26 : decode b_MD_digest 26 = .ok (.aload_n 0, 1) := by decide +kernel
theorem d_MD_digest_27 : decode b_MD_digest 27 = .ok (.getfield 13, 3) := by decide +kernel
theorem d_MD_digest_30 : decode b_MD_digest 30 = .ok (.iload_n 1, 1) := by decide +kernel
theorem d_MD_digest_31 : decode b_MD_digest 31 = .ok (.iaload, 1) := by decide +kernel
theorem d_MD_digest_32 : decode b_MD_digest 32 = .ok (.iload_n 2, 1) := by decide +kernel
theorem d_MD_digest_33 : decode b_MD_digest 33 = .ok (.isub, 1) := by decide +kernel
theorem d_MD_digest_34 : decode b_MD_digest 34 = .ok (.if_icmp .le 5, 3) := by decide +kernel
theorem d_MD_digest_37 : decode b_MD_digest 37 = .ok (.iconst 0, 1) := by decide +kernel
theorem d_MD_digest_38 : decode b_MD_digest 38 = .ok (.ireturn, 1) := by decide +kernel
theorem d_MD_digest_39 : decode b_MD_digest 39 = .ok (.bipush 17, 2) := by decide +kernel
theorem d_MD_digest_41 : decode b_MD_digest 41 = .ok (.istore 4, 2) := by decide +kernel
theorem d_MD_digest_43 : decode b_MD_digest 43 = .ok (.iconst 0, 1) := by decide +kernel
theorem d_MD_digest_44 : decode b_MD_digest 44 = .ok (.istore 5, 2) := by decide +kernel
theorem d_MD_digest_46 : decode b_MD_digest 46 = .ok (.iload 5, 2) := by decide +kernel
theorem d_MD_digest_48 : decode b_MD_digest 48 = .ok (.iload_n 3, 1) := by decide +kernel
theorem d_MD_digest_49 : decode b_MD_digest 49 = .ok (.if_icmp .ge 31, 3) := by decide +kernel
theorem d_MD_digest_52 : decode b_MD_digest 52 = .ok (.iload 4, 2) := by decide +kernel
theorem d_MD_digest_54 : decode b_MD_digest 54 = .ok (.bipush 31, 2) := by decide +kernel
theorem d_MD_digest_56 : decode b_MD_digest 56 = .ok (.imul, 1) := by decide +kernel
theorem d_MD_digest_57 : decode b_MD_digest 57 = .ok (.aload_n 0, 1) := by decide +kernel
theorem d_MD_digest_58 : decode b_MD_digest 58 = .ok (.getfield 7, 3) := by decide +kernel
theorem d_MD_digest_61 : decode b_MD_digest 61 = .ok (.bipush 120, 2) := by decide +kernel
theorem d_MD_digest_63 : decode b_MD_digest 63 = .ok (.iload_n 1, 1) := by decide +kernel
theorem d_MD_digest_64 : decode b_MD_digest 64 = .ok (.imul, 1) := by decide +kernel
theorem d_MD_digest_65 : decode b_MD_digest 65 = .ok (.iload_n 2, 1) := by decide +kernel
theorem d_MD_digest_66 : decode b_MD_digest 66 = .ok (.iadd, 1) := by decide +kernel
theorem d_MD_digest_67 : decode b_MD_digest 67 = .ok (.iload 5, 2) := by decide +kernel
theorem d_MD_digest_69 : decode b_MD_digest 69 = .ok (.iadd, 1) := by decide +kernel
theorem d_MD_digest_70 : decode b_MD_digest 70 = .ok (.iaload, 1) := by decide +kernel
theorem d_MD_digest_71 : decode b_MD_digest 71 = .ok (.iadd, 1) := by decide +kernel
theorem d_MD_digest_72 : decode b_MD_digest 72 = .ok (.istore 4, 2) := by decide +kernel
theorem d_MD_digest_74 : decode b_MD_digest 74 = .ok (.iinc 5 1, 3) := by decide +kernel
theorem d_MD_digest_77 : decode b_MD_digest 77 = .ok (.goto (-31), 3) := by decide +kernel
theorem d_MD_digest_80 : decode b_MD_digest 80 = .ok (.iload 4, 2) := by decide +kernel
theorem d_MD_digest_82 : decode b_MD_digest 82 = .ok (.ireturn, 1) := by decide +kernel
abbrev rm_MD_digest : Room := { frames := 1, cells := 0, slots := 0, locals := 20 }
def fx_MD_digest_b46 : Nat → Int32 → Int32 → Int32 → Int32 → Int32 → xh_T → Option (Int32 × xh_T)
  | 0, _, _, _, _, _, _ => none
  | n + 1, a1, a2, a3, a4, a5, X => if a3 ≤ a5 then
  some (a4, X)
  else xh_o (((120 * a1) + a2) + a5) 360 (xh_n ((a4 * 31) + (X.1 207 ((((120 * a1) + a2) + a5)).toNatClampNeg)) (fun v7 : Int32 =>
  xh_n (a5 + 1) (fun v8 : Int32 =>
  fx_MD_digest_b46 n a1 a2 a3 v7 v8 X)))
set_option maxRecDepth 100000 in
set_option maxHeartbeats 4000000 in
theorem jb_MD_digest_b46 {p : Program} {l : Launch} {e : Env} {s : State} {m : MethodId} {args : Array Value} {below : List Frame} {meth : Method} {c : Code} {D : va_G} {G : xh_G} (hz : xh_C p s m args c b_MD_digest 6 "SpendScriptModel" D G (xh_A G s.heap.size)) (hr : meth.sig.returnType = (some .int)) (hlk : meth.locks = false) : ∀ (n : Nat) (a1 : Int32) (a2 : Int32) (a3 : Int32) (a4 : Int32) (a5 : Int32) (X : xh_T), xh_J p l e rm_MD_digest s m args below meth c 0 0 D G (xh_A G s.heap.size) 6 (fun r X' => MQ below (xh_Qi D G (xh_A G s.heap.size) r X') args s 0 0 (xh_A G s.heap.size)) 46 [(0, .ref (G.1 206)), (1, .int a1), (2, .int a2), (3, .int a3), (4, .int a4), (5, .int a5)] [] X (fx_MD_digest_b46 n a1 a2 a3 a4 a5 X) := by
  intro n
  induction n with
  | zero => intro a1 a2 a3 a4 a5 X; exact jr_none
  | succ n ih =>
    intro a1 a2 a3 a4 a5 X
    rw [fx_MD_digest_b46]
    refine jr_iload hz d_MD_digest_46 5 rfl ?_
    refine jr_iload_n hz d_MD_digest_48 rfl 3 rfl ?_
    refine jr_icmp_ge (tgt := 80) hz d_MD_digest_49 (by decide) ?_ ?_
    · refine jr_iload hz d_MD_digest_80 4 rfl ?_
      exact jr_iret hz hr hlk d_MD_digest_82
    · refine jr_iload hz d_MD_digest_52 4 rfl ?_
      refine jr_bipush (v := 31) hz d_MD_digest_54 (by decide) ?_
      refine jr_imul hz d_MD_digest_56 ?_
      refine jr_aload_n hz d_MD_digest_57 rfl 0 rfl ?_
      refine jr_getr (j := 0) (t := 207) hz lq_206 ly_206 rfl wf_MD_7 d_MD_digest_58 ?_
      refine jr_bipush (v := 120) hz d_MD_digest_61 (by decide) ?_
      refine jr_iload_n hz d_MD_digest_63 rfl 1 rfl ?_
      refine jr_imul hz d_MD_digest_64 ?_
      refine jr_iload_n hz d_MD_digest_65 rfl 2 rfl ?_
      refine jr_iadd hz d_MD_digest_66 ?_
      refine jr_iload hz d_MD_digest_67 5 rfl ?_
      refine jr_iadd hz d_MD_digest_69 ?_
      refine jr_iald (n := 360) hz lq_207 ly_207 d_MD_digest_70 ?_
      refine jr_iadd hz d_MD_digest_71 ?_
      refine jr_istore (lf := [(0, .ref (G.1 206)), (1, .int a1), (2, .int a2), (3, .int a3), (5, .int a5)]) hz d_MD_digest_72 (by decide) rfl (fun v7 => ?_)
      refine jr_iinc (lf := [(4, .int v7), (0, .ref (G.1 206)), (1, .int a1), (2, .int a2), (3, .int a3)]) (w := 1) hz d_MD_digest_74 5 rfl (by decide) (by decide) rfl (fun v8 => ?_)
      refine jr_goto (tgt := 46) hz d_MD_digest_77 (by decide) ?_
      refine jr_sub (ls' := [(0, .ref (G.1 206)), (1, .int a1), (2, .int a2), (3, .int a3), (4, .int v7), (5, .int v8)]) [2, 3, 4, 5, 1, 0] rfl ?_
      exact ih a1 a2 a3 v7 v8 X
def fx_MD_digest (p1 : Int32) (p2 : Int32) (p3 : Int32) (X : xh_T) : Option (Int32 × xh_T) :=
  xh_b (fx_MD_isScript p1 X) (fun (r2 : Int32) (X1 : xh_T) =>
  if r2 = 0 then
  some (0, X1)
  else if p2 < 0 then
  some (0, X1)
  else if p3 < 0 then
  some (0, X1)
  else xh_o p1 3 (if (X1.1 208 p1.toNatClampNeg) < p2 then
  some (0, X1)
  else xh_o p1 3 (if p3 ≤ ((X1.1 208 p1.toNatClampNeg) - p2) then
  xh_n 17 (fun v5 : Int32 =>
  xh_n 0 (fun v6 : Int32 =>
  fx_MD_digest_b46 sp_fuel p1 p2 p3 v5 v6 X1))
  else some (0, X1))))
set_option maxRecDepth 100000 in
set_option maxHeartbeats 4000000 in
theorem cx_MD_digest (l : Launch) (D : va_G) (G : xh_G) (hD : xh_D G) (p1 : Int32) (p2 : Int32) (p3 : Int32) (X : xh_T) : xh_M xh_Qi l D G y_MD_digest b_MD_digest 6 (some .int) rm_MD_digest [.ref (G.1 206), .int p1, .int p2, .int p3] X (fx_MD_digest p1 p2 p3 X) := by
  refine xh_enter (ls := [(0, .ref (G.1 206)), (1, .int p1), (2, .int p2), (3, .int p3)]) hD (by decide +kernel) (Nat.le_of_ble_eq_true rfl) rfl ?_
  intro p e s m args below meth c hz hr hlk
  unfold fx_MD_digest
  refine jr_iload_n hz d_MD_digest_0 rfl 1 rfl ?_
  refine jr_callSi (As := [.int p1]) (st := []) hz (cx_MD_isScript l D G hz.2.2.2.2.2.2.1 p1 X) ws_MD_49 ⟨rfl, rfl, Nat.le_of_ble_eq_true rfl, Nat.le_of_ble_eq_true rfl⟩ ⟨Nat.zero_le _, Nat.zero_le _⟩ rfl rfl (Nat.le_of_ble_eq_true rfl) d_MD_digest_1 (fun r2 X1 => ?_)
  refine jr_if_eq (tgt := 37) hz d_MD_digest_4 (by decide) ?_ ?_
  · refine jr_iconst (v := 0) hz d_MD_digest_37 (by decide) ?_
    exact jr_iret hz hr hlk d_MD_digest_38
  · refine jr_iload_n hz d_MD_digest_7 rfl 2 rfl ?_
    refine jr_if_lt (tgt := 37) hz d_MD_digest_8 (by decide) ?_ ?_
    · refine jr_iconst (v := 0) hz d_MD_digest_37 (by decide) ?_
      exact jr_iret hz hr hlk d_MD_digest_38
    · refine jr_iload_n hz d_MD_digest_11 rfl 3 rfl ?_
      refine jr_if_lt (tgt := 37) hz d_MD_digest_12 (by decide) ?_ ?_
      · refine jr_iconst (v := 0) hz d_MD_digest_37 (by decide) ?_
        exact jr_iret hz hr hlk d_MD_digest_38
      · refine jr_iload_n hz d_MD_digest_15 rfl 2 rfl ?_
        refine jr_aload_n hz d_MD_digest_16 rfl 0 rfl ?_
        refine jr_getr (j := 1) (t := 208) hz lq_206 ly_206 rfl wf_MD_13 d_MD_digest_17 ?_
        refine jr_iload_n hz d_MD_digest_20 rfl 1 rfl ?_
        refine jr_iald (n := 3) hz lq_208 ly_208 d_MD_digest_21 ?_
        refine jr_icmp_gt (tgt := 37) hz d_MD_digest_22 (by decide) ?_ ?_
        · refine jr_iconst (v := 0) hz d_MD_digest_37 (by decide) ?_
          exact jr_iret hz hr hlk d_MD_digest_38
        · refine jr_iload_n hz d_MD_digest_25 rfl 3 rfl ?_
          refine jr_aload_n hz d_MD_digest_26 rfl 0 rfl ?_
          refine jr_getr (j := 1) (t := 208) hz lq_206 ly_206 rfl wf_MD_13 d_MD_digest_27 ?_
          refine jr_iload_n hz d_MD_digest_30 rfl 1 rfl ?_
          refine jr_iald (n := 3) hz lq_208 ly_208 d_MD_digest_31 ?_
          refine jr_iload_n hz d_MD_digest_32 rfl 2 rfl ?_
          refine jr_isub hz d_MD_digest_33 ?_
          refine jr_icmp_le (tgt := 39) hz d_MD_digest_34 (by decide) ?_ ?_
          · refine jr_bipush (v := 17) hz d_MD_digest_39 (by decide) ?_
            refine jr_istore (lf := [(0, .ref (G.1 206)), (1, .int p1), (2, .int p2), (3, .int p3)]) hz d_MD_digest_41 (by decide) rfl (fun v5 => ?_)
            refine jr_iconst (v := 0) hz d_MD_digest_43 (by decide) ?_
            refine jr_istore (lf := [(4, .int v5), (0, .ref (G.1 206)), (1, .int p1), (2, .int p2), (3, .int p3)]) hz d_MD_digest_44 (by decide) rfl (fun v6 => ?_)
            refine jr_sub (ls' := [(0, .ref (G.1 206)), (1, .int p1), (2, .int p2), (3, .int p3), (4, .int v5), (5, .int v6)]) [2, 3, 4, 5, 1, 0] rfl ?_
            exact jb_MD_digest_b46 hz hr hlk sp_fuel p1 p2 p3 v5 v6 X1
          · refine jr_iconst (v := 0) hz d_MD_digest_37 (by decide) ?_
            exact jr_iret hz hr hlk d_MD_digest_38
theorem d_MD_row_0 : decode b_MD_row 0 = .ok (.bipush 33, 2) := by decide +kernel
theorem d_MD_row_2 : decode b_MD_row 2 = .ok (.aload_n 0, 1) := by decide +kernel
theorem d_MD_row_3 : decode b_MD_row 3 = .ok (.getfield 56, 3) := by decide +kernel
theorem d_MD_row_6 : decode b_MD_row 6 = .ok (.iconst 1, 1) := by decide +kernel
theorem d_MD_row_7 : decode b_MD_row 7 = .ok (.isub, 1) := by decide +kernel
theorem d_MD_row_8 : decode b_MD_row 8 = .ok (.iload_n 1, 1) := by decide +kernel
theorem d_MD_row_9 : decode b_MD_row 9 = .ok (.isub, 1) := by decide +kernel
theorem d_MD_row_10 : decode b_MD_row 10 = .ok (.imul, 1) := by decide +kernel
theorem d_MD_row_11 : decode b_MD_row 11 = .ok (.ireturn, 1) := by decide +kernel
theorem wf_MD_56 : xh_F "SpendScriptModel" 56 7 5 := ⟨R_MD, F_MD, 19, rfl, by decide, iw_MD, (sp_tb (List.mem_of_getElem? (i := 542) (by decide +kernel)))⟩
abbrev rm_MD_row : Room := { frames := 0, cells := 0, slots := 0, locals := 0 }
def fx_MD_row (p1 : Int32) (X : xh_T) : Option (Int32 × xh_T) :=
  some ((33 * ((X.1 206 5 - 1) - p1)), X)
set_option maxRecDepth 100000 in
set_option maxHeartbeats 4000000 in
theorem cx_MD_row (l : Launch) (D : va_G) (G : xh_G) (hD : xh_D G) (p1 : Int32) (X : xh_T) : xh_M xh_Qi l D G y_MD_row b_MD_row 2 (some .int) rm_MD_row [.ref (G.1 206), .int p1] X (fx_MD_row p1 X) := by
  refine xh_enter (ls := [(0, .ref (G.1 206)), (1, .int p1)]) hD (by decide +kernel) (Nat.le_of_ble_eq_true rfl) rfl ?_
  intro p e s m args below meth c hz hr hlk
  unfold fx_MD_row
  refine jr_bipush (v := 33) hz d_MD_row_0 (by decide) ?_
  refine jr_aload_n hz d_MD_row_2 rfl 0 rfl ?_
  refine jr_geti (j := 5) hz lq_206 ly_206 rfl wf_MD_56 d_MD_row_3 ?_
  refine jr_iconst (v := 1) hz d_MD_row_6 (by decide) ?_
  refine jr_isub hz d_MD_row_7 ?_
  refine jr_iload_n hz d_MD_row_8 rfl 1 rfl ?_
  refine jr_isub hz d_MD_row_9 ?_
  refine jr_imul hz d_MD_row_10 ?_
  exact jr_iret hz hr hlk d_MD_row_11
theorem d_MD_size_0 : decode b_MD_size 0 = .ok (.aload_n 0, 1) := by decide +kernel
theorem d_MD_size_1 : decode b_MD_size 1 = .ok (.getfield 16, 3) := by decide +kernel
theorem d_MD_size_4 : decode b_MD_size 4 = .ok (.aload_n 0, 1) := by decide +kernel
theorem d_MD_size_5 : decode b_MD_size 5 = .ok (.iload_n 1, 1) := by decide +kernel
theorem d_MD_size_6 : decode b_MD_size 6 = .ok (.invokevirtual 59, 3) := by decide +kernel
theorem d_MD_size_9 : decode b_MD_size 9 = .ok (.iaload, 1) := by decide +kernel
theorem d_MD_size_10 : decode b_MD_size 10 = .ok (.ireturn, 1) := by decide +kernel
theorem wf_MD_16 : xh_F "SpendScriptModel" 16 7 2 := ⟨R_MD, F_MD, 19, rfl, by decide, iw_MD, (sp_tb (List.mem_of_getElem? (i := 539) (by decide +kernel)))⟩
theorem wv_MD_59 : xh_V "SpendScriptModel" 59 7 y_MD_row b_MD_row 2 (some .int) 1 := ⟨(sp_tb (List.mem_of_getElem? (i := 666) (by decide +kernel))), (sp_tb (List.mem_of_getElem? (i := 8) (by decide +kernel))), (sp_tb (List.mem_of_getElem? (i := 663) (by decide +kernel))), ⟨by decide +kernel, by decide +kernel, by decide +kernel⟩, (sp_tb (List.mem_of_getElem? (i := 665) (by decide +kernel))), (sp_pv (q := (y_MD_row, 19)) (List.mem_of_getElem? (i := 32) (by decide +kernel))), F_MD, 19, rfl⟩
abbrev rm_MD_size : Room := { frames := 1, cells := 0, slots := 0, locals := 21 }
def fx_MD_size (p1 : Int32) (X : xh_T) : Option (Int32 × xh_T) :=
  xh_b (fx_MD_row p1 X) (fun (r1 : Int32) (X1 : xh_T) =>
  xh_o r1 1089 (some ((X1.1 209 r1.toNatClampNeg), X1)))
set_option maxRecDepth 100000 in
set_option maxHeartbeats 4000000 in
theorem cx_MD_size (l : Launch) (D : va_G) (G : xh_G) (hD : xh_D G) (p1 : Int32) (X : xh_T) : xh_M xh_Qi l D G y_MD_size b_MD_size 2 (some .int) rm_MD_size [.ref (G.1 206), .int p1] X (fx_MD_size p1 X) := by
  refine xh_enter (ls := [(0, .ref (G.1 206)), (1, .int p1)]) hD (by decide +kernel) (Nat.le_of_ble_eq_true rfl) rfl ?_
  intro p e s m args below meth c hz hr hlk
  unfold fx_MD_size
  refine jr_aload_n hz d_MD_size_0 rfl 0 rfl ?_
  refine jr_getr (j := 2) (t := 209) hz lq_206 ly_206 rfl wf_MD_16 d_MD_size_1 ?_
  refine jr_aload_n hz d_MD_size_4 rfl 0 rfl ?_
  refine jr_iload_n hz d_MD_size_5 rfl 1 rfl ?_
  refine jr_callVi (As := [.int p1]) (a := 206) (ci := 7) (st := [.ref (G.1 209)]) hz (cx_MD_row l D G hz.2.2.2.2.2.2.1 p1 X) (fun _ _ => ⟨lq_206, _, ly_206⟩) wv_MD_59 ⟨rfl, rfl, Nat.le_of_ble_eq_true rfl, Nat.le_of_ble_eq_true rfl⟩ ⟨Nat.zero_le _, Nat.zero_le _⟩ rfl rfl (Nat.le_of_ble_eq_true rfl) d_MD_size_6 (fun r1 X1 => ?_)
  refine jr_iald (n := 1089) hz lq_209 ly_209 d_MD_size_9 ?_
  exact jr_iret hz hr hlk d_MD_size_10
theorem d_MD_at_0 : decode b_MD_at 0 = .ok (.aload_n 0, 1) := by decide +kernel
theorem d_MD_at_1 : decode b_MD_at 1 = .ok (.getfield 16, 3) := by decide +kernel
theorem d_MD_at_4 : decode b_MD_at 4 = .ok (.aload_n 0, 1) := by decide +kernel
theorem d_MD_at_5 : decode b_MD_at 5 = .ok (.iload_n 1, 1) := by decide +kernel
theorem d_MD_at_6 : decode b_MD_at 6 = .ok (.invokevirtual 59, 3) := by decide +kernel
theorem d_MD_at_9 : decode b_MD_at 9 = .ok (.iconst 1, 1) := by decide +kernel
theorem d_MD_at_10 : decode b_MD_at 10 = .ok (.iadd, 1) := by decide +kernel
theorem d_MD_at_11 : decode b_MD_at 11 = .ok (.iload_n 2, 1) := by decide +kernel
theorem d_MD_at_12 : decode b_MD_at 12 = .ok (.iadd, 1) := by decide +kernel
theorem d_MD_at_13 : decode b_MD_at 13 = .ok (.iaload, 1) := by decide +kernel
theorem d_MD_at_14 : decode b_MD_at 14 = .ok (.ireturn, 1) := by decide +kernel
abbrev rm_MD_at : Room := { frames := 1, cells := 0, slots := 0, locals := 21 }
def fx_MD_at (p1 : Int32) (p2 : Int32) (X : xh_T) : Option (Int32 × xh_T) :=
  xh_b (fx_MD_row p1 X) (fun (r1 : Int32) (X1 : xh_T) =>
  xh_o ((r1 + 1) + p2) 1089 (some ((X1.1 209 (((r1 + 1) + p2)).toNatClampNeg), X1)))
set_option maxRecDepth 100000 in
set_option maxHeartbeats 4000000 in
theorem cx_MD_at (l : Launch) (D : va_G) (G : xh_G) (hD : xh_D G) (p1 : Int32) (p2 : Int32) (X : xh_T) : xh_M xh_Qi l D G y_MD_at b_MD_at 3 (some .int) rm_MD_at [.ref (G.1 206), .int p1, .int p2] X (fx_MD_at p1 p2 X) := by
  refine xh_enter (ls := [(0, .ref (G.1 206)), (1, .int p1), (2, .int p2)]) hD (by decide +kernel) (Nat.le_of_ble_eq_true rfl) rfl ?_
  intro p e s m args below meth c hz hr hlk
  unfold fx_MD_at
  refine jr_aload_n hz d_MD_at_0 rfl 0 rfl ?_
  refine jr_getr (j := 2) (t := 209) hz lq_206 ly_206 rfl wf_MD_16 d_MD_at_1 ?_
  refine jr_aload_n hz d_MD_at_4 rfl 0 rfl ?_
  refine jr_iload_n hz d_MD_at_5 rfl 1 rfl ?_
  refine jr_callVi (As := [.int p1]) (a := 206) (ci := 7) (st := [.ref (G.1 209)]) hz (cx_MD_row l D G hz.2.2.2.2.2.2.1 p1 X) (fun _ _ => ⟨lq_206, _, ly_206⟩) wv_MD_59 ⟨rfl, rfl, Nat.le_of_ble_eq_true rfl, Nat.le_of_ble_eq_true rfl⟩ ⟨Nat.zero_le _, Nat.zero_le _⟩ rfl rfl (Nat.le_of_ble_eq_true rfl) d_MD_at_6 (fun r1 X1 => ?_)
  refine jr_iconst (v := 1) hz d_MD_at_9 (by decide) ?_
  refine jr_iadd hz d_MD_at_10 ?_
  refine jr_iload_n hz d_MD_at_11 rfl 2 rfl ?_
  refine jr_iadd hz d_MD_at_12 ?_
  refine jr_iald (n := 1089) hz lq_209 ly_209 d_MD_at_13 ?_
  exact jr_iret hz hr hlk d_MD_at_14
theorem d_MD_isTrue_0 : decode b_MD_isTrue 0 = .ok (.iconst 0, 1) := by decide +kernel
theorem d_MD_isTrue_1 : decode b_MD_isTrue 1 = .ok (.istore_n 2, 1) := by decide +kernel
theorem d_MD_isTrue_2 : decode b_MD_isTrue 2 = .ok (.iload_n 2, 1) := by decide +kernel
theorem d_MD_isTrue_3 : decode b_MD_isTrue 3 = .ok (.aload_n 0, 1) := by decide +kernel
theorem d_MD_isTrue_4 : decode b_MD_isTrue 4 = .ok (.iload_n 1, 1) := by decide +kernel
theorem d_MD_isTrue_5 : decode b_MD_isTrue 5 = .ok (.invokevirtual 63, 3) := by decide +kernel
theorem d_MD_isTrue_8 : decode b_MD_isTrue 8 = .ok (.if_icmp .ge 43, 3) := by decide +kernel
theorem d_MD_isTrue_11 : decode b_MD_isTrue 11 = .ok (.aload_n 0, 1) := by decide +kernel
theorem d_MD_isTrue_12 : decode b_MD_isTrue 12 = .ok (.iload_n 1, 1) := by decide +kernel
theorem d_MD_isTrue_13 : decode b_MD_isTrue 13 = .ok (.iload_n 2, 1) := by decide +kernel
theorem d_MD_isTrue_14 : decode b_MD_isTrue 14 = .ok (.invokevirtual 66, 3) := by decide +kernel
theorem d_MD_isTrue_17 : decode b_MD_isTrue 17 = .ok (.ifCond .eq 28, 3) := by decide +kernel
theorem d_MD_isTrue_20 : decode b_MD_isTrue 20 = .ok (.iload_n 2, 1) := by decide +kernel
theorem d_MD_isTrue_21 : decode b_MD_isTrue 21 = .ok (.aload_n 0, 1) := by decide +kernel
theorem d_MD_isTrue_22 : decode b_MD_isTrue 22 = .ok (.iload_n 1, 1) := by decide +kernel
theorem d_MD_isTrue_23 : decode b_MD_isTrue 23 = .ok (.invokevirtual 63, 3) := by decide +kernel
theorem d_MD_isTrue_26 : decode b_MD_isTrue 26 = .ok (.iconst 1, 1) := by decide +kernel
theorem d_MD_isTrue_27 : decode b_MD_isTrue 27 = .ok (.isub, 1) := by decide +kernel
theorem d_MD_isTrue_28 : decode b_MD_isTrue 28 = .ok (.if_icmp .lt 15, 3) := by decide +kernel
theorem d_MD_isTrue_31 : decode b_MD_isTrue 31 = .ok (.aload_n 0, 1) := by decide +kernel
theorem d_MD_isTrue_32 : decode b_MD_isTrue 32 = .ok (.iload_n 1, 1) := by decide +kernel
theorem d_MD_isTrue_33 : decode b_MD_isTrue 33 = .ok (.iload_n 2, 1) := by decide +kernel
theorem d_MD_isTrue_34 : decode b_MD_isTrue 34 = .ok (.invokevirtual 66, 3) := by decide +kernel
theorem d_MD_isTrue_37 : decode b_MD_isTrue 37 = .ok (.sipush 128, 3) := by decide +kernel
theorem d_MD_isTrue_40 : decode b_MD_isTrue 40 = .ok (.if_icmp .eq 5, 3) := by decide +kernel
theorem d_MD_isTrue_43 : decode b_MD_isTrue 43 = .ok (.iconst 1, 1) := by decide +kernel
theorem d_MD_isTrue_44 : decode b_MD_isTrue 44 = .ok (.ireturn, 1) := by decide +kernel
theorem d_MD_isTrue_45 : decode b_MD_isTrue 45 = .ok (.iinc 2 1, 3) := by decide +kernel
theorem d_MD_isTrue_48 : decode b_MD_isTrue 48 = .ok (.goto (-46), 3) := by decide +kernel
theorem d_MD_isTrue_51 : decode b_MD_isTrue 51 = .ok (.iconst 0, 1) := by decide +kernel
theorem d_MD_isTrue_52 : decode b_MD_isTrue 52 = .ok (.ireturn, 1) := by decide +kernel
theorem wv_MD_63 : xh_V "SpendScriptModel" 63 7 y_MD_size b_MD_size 2 (some .int) 1 := ⟨(sp_tb (List.mem_of_getElem? (i := 662) (by decide +kernel))), (sp_tb (List.mem_of_getElem? (i := 8) (by decide +kernel))), (sp_tb (List.mem_of_getElem? (i := 659) (by decide +kernel))), ⟨by decide +kernel, by decide +kernel, by decide +kernel⟩, (sp_tb (List.mem_of_getElem? (i := 661) (by decide +kernel))), (sp_pv (q := (y_MD_size, 19)) (List.mem_of_getElem? (i := 31) (by decide +kernel))), F_MD, 19, rfl⟩
theorem wv_MD_66 : xh_V "SpendScriptModel" 66 7 y_MD_at b_MD_at 3 (some .int) 2 := ⟨(sp_tb (List.mem_of_getElem? (i := 670) (by decide +kernel))), (sp_tb (List.mem_of_getElem? (i := 8) (by decide +kernel))), (sp_tb (List.mem_of_getElem? (i := 667) (by decide +kernel))), ⟨by decide +kernel, by decide +kernel, by decide +kernel⟩, (sp_tb (List.mem_of_getElem? (i := 669) (by decide +kernel))), (sp_pv (q := (y_MD_at, 19)) (List.mem_of_getElem? (i := 33) (by decide +kernel))), F_MD, 19, rfl⟩
abbrev rm_MD_isTrue : Room := { frames := 2, cells := 0, slots := 0, locals := 43 }
def fx_MD_isTrue_b2 : Nat → Int32 → Int32 → xh_T → Option (Int32 × xh_T)
  | 0, _, _, _ => none
  | n + 1, a1, a2, X => xh_b (fx_MD_size a1 X) (fun (r2 : Int32) (X1 : xh_T) =>
  if r2 ≤ a2 then
  some (0, X1)
  else xh_b (fx_MD_at a1 a2 X1) (fun (r6 : Int32) (X2 : xh_T) =>
  if r6 = 0 then
  xh_n (a2 + 1) (fun v10 : Int32 =>
  fx_MD_isTrue_b2 n a1 v10 X2)
  else xh_b (fx_MD_size a1 X2) (fun (r11 : Int32) (X3 : xh_T) =>
  if a2 < (r11 - 1) then
  some (1, X3)
  else xh_b (fx_MD_at a1 a2 X3) (fun (r15 : Int32) (X4 : xh_T) =>
  if r15 = 128 then
  xh_n (a2 + 1) (fun v19 : Int32 =>
  fx_MD_isTrue_b2 n a1 v19 X4)
  else some (1, X4)))))
set_option maxRecDepth 100000 in
set_option maxHeartbeats 4000000 in
theorem jb_MD_isTrue_b2 {p : Program} {l : Launch} {e : Env} {s : State} {m : MethodId} {args : Array Value} {below : List Frame} {meth : Method} {c : Code} {D : va_G} {G : xh_G} (hz : xh_C p s m args c b_MD_isTrue 3 "SpendScriptModel" D G (xh_A G s.heap.size)) (hr : meth.sig.returnType = (some .boolean)) (hlk : meth.locks = false) : ∀ (n : Nat) (a1 : Int32) (a2 : Int32) (X : xh_T), xh_J p l e rm_MD_isTrue s m args below meth c 0 0 D G (xh_A G s.heap.size) 3 (fun r X' => MQ below (xh_Qi D G (xh_A G s.heap.size) r X') args s 0 0 (xh_A G s.heap.size)) 2 [(0, .ref (G.1 206)), (1, .int a1), (2, .int a2)] [] X (fx_MD_isTrue_b2 n a1 a2 X) := by
  intro n
  induction n with
  | zero => intro a1 a2 X; exact jr_none
  | succ n ih =>
    intro a1 a2 X
    rw [fx_MD_isTrue_b2]
    refine jr_iload_n hz d_MD_isTrue_2 rfl 2 rfl ?_
    refine jr_aload_n hz d_MD_isTrue_3 rfl 0 rfl ?_
    refine jr_iload_n hz d_MD_isTrue_4 rfl 1 rfl ?_
    refine jr_callVi (As := [.int a1]) (a := 206) (ci := 7) (st := [.int a2]) hz (cx_MD_size l D G hz.2.2.2.2.2.2.1 a1 X) (fun _ _ => ⟨lq_206, _, ly_206⟩) wv_MD_63 ⟨rfl, rfl, Nat.le_of_ble_eq_true rfl, Nat.le_of_ble_eq_true rfl⟩ ⟨Nat.zero_le _, Nat.zero_le _⟩ rfl rfl (Nat.le_of_ble_eq_true rfl) d_MD_isTrue_5 (fun r2 X1 => ?_)
    refine jr_icmp_ge (tgt := 51) hz d_MD_isTrue_8 (by decide) ?_ ?_
    · refine jr_iconst (v := 0) hz d_MD_isTrue_51 (by decide) ?_
      exact jr_zret hz hr hlk (by decide) d_MD_isTrue_52
    · refine jr_aload_n hz d_MD_isTrue_11 rfl 0 rfl ?_
      refine jr_iload_n hz d_MD_isTrue_12 rfl 1 rfl ?_
      refine jr_iload_n hz d_MD_isTrue_13 rfl 2 rfl ?_
      refine jr_callVi (As := [.int a1, .int a2]) (a := 206) (ci := 7) (st := []) hz (cx_MD_at l D G hz.2.2.2.2.2.2.1 a1 a2 X1) (fun _ _ => ⟨lq_206, _, ly_206⟩) wv_MD_66 ⟨rfl, rfl, Nat.le_of_ble_eq_true rfl, Nat.le_of_ble_eq_true rfl⟩ ⟨Nat.zero_le _, Nat.zero_le _⟩ rfl rfl (Nat.le_of_ble_eq_true rfl) d_MD_isTrue_14 (fun r6 X2 => ?_)
      refine jr_if_eq (tgt := 45) hz d_MD_isTrue_17 (by decide) ?_ ?_
      · refine jr_iinc (lf := [(0, .ref (G.1 206)), (1, .int a1)]) (w := 1) hz d_MD_isTrue_45 2 rfl (by decide) (by decide) rfl (fun v10 => ?_)
        refine jr_goto (tgt := 2) hz d_MD_isTrue_48 (by decide) ?_
        refine jr_sub (ls' := [(0, .ref (G.1 206)), (1, .int a1), (2, .int v10)]) [1, 2, 0] rfl ?_
        exact ih a1 v10 X2
      · refine jr_iload_n hz d_MD_isTrue_20 rfl 2 rfl ?_
        refine jr_aload_n hz d_MD_isTrue_21 rfl 0 rfl ?_
        refine jr_iload_n hz d_MD_isTrue_22 rfl 1 rfl ?_
        refine jr_callVi (As := [.int a1]) (a := 206) (ci := 7) (st := [.int a2]) hz (cx_MD_size l D G hz.2.2.2.2.2.2.1 a1 X2) (fun _ _ => ⟨lq_206, _, ly_206⟩) wv_MD_63 ⟨rfl, rfl, Nat.le_of_ble_eq_true rfl, Nat.le_of_ble_eq_true rfl⟩ ⟨Nat.zero_le _, Nat.zero_le _⟩ rfl rfl (Nat.le_of_ble_eq_true rfl) d_MD_isTrue_23 (fun r11 X3 => ?_)
        refine jr_iconst (v := 1) hz d_MD_isTrue_26 (by decide) ?_
        refine jr_isub hz d_MD_isTrue_27 ?_
        refine jr_icmp_lt (tgt := 43) hz d_MD_isTrue_28 (by decide) ?_ ?_
        · refine jr_iconst (v := 1) hz d_MD_isTrue_43 (by decide) ?_
          exact jr_zret hz hr hlk (by decide) d_MD_isTrue_44
        · refine jr_aload_n hz d_MD_isTrue_31 rfl 0 rfl ?_
          refine jr_iload_n hz d_MD_isTrue_32 rfl 1 rfl ?_
          refine jr_iload_n hz d_MD_isTrue_33 rfl 2 rfl ?_
          refine jr_callVi (As := [.int a1, .int a2]) (a := 206) (ci := 7) (st := []) hz (cx_MD_at l D G hz.2.2.2.2.2.2.1 a1 a2 X3) (fun _ _ => ⟨lq_206, _, ly_206⟩) wv_MD_66 ⟨rfl, rfl, Nat.le_of_ble_eq_true rfl, Nat.le_of_ble_eq_true rfl⟩ ⟨Nat.zero_le _, Nat.zero_le _⟩ rfl rfl (Nat.le_of_ble_eq_true rfl) d_MD_isTrue_34 (fun r15 X4 => ?_)
          refine jr_sipush (v := 128) hz d_MD_isTrue_37 (by decide) ?_
          refine jr_icmp_eq (tgt := 45) hz d_MD_isTrue_40 (by decide) ?_ ?_
          · refine jr_iinc (lf := [(0, .ref (G.1 206)), (1, .int a1)]) (w := 1) hz d_MD_isTrue_45 2 rfl (by decide) (by decide) rfl (fun v19 => ?_)
            refine jr_goto (tgt := 2) hz d_MD_isTrue_48 (by decide) ?_
            refine jr_sub (ls' := [(0, .ref (G.1 206)), (1, .int a1), (2, .int v19)]) [1, 2, 0] rfl ?_
            exact ih a1 v19 X4
          · refine jr_iconst (v := 1) hz d_MD_isTrue_43 (by decide) ?_
            exact jr_zret hz hr hlk (by decide) d_MD_isTrue_44
def fx_MD_isTrue (p1 : Int32) (X : xh_T) : Option (Int32 × xh_T) :=
  xh_n 0 (fun v1 : Int32 =>
  fx_MD_isTrue_b2 sp_fuel p1 v1 X)
set_option maxRecDepth 100000 in
set_option maxHeartbeats 4000000 in
theorem cx_MD_isTrue (l : Launch) (D : va_G) (G : xh_G) (hD : xh_D G) (p1 : Int32) (X : xh_T) : xh_M xh_Qi l D G y_MD_isTrue b_MD_isTrue 3 (some .boolean) rm_MD_isTrue [.ref (G.1 206), .int p1] X (fx_MD_isTrue p1 X) := by
  refine xh_enter (ls := [(0, .ref (G.1 206)), (1, .int p1)]) hD (by decide +kernel) (Nat.le_of_ble_eq_true rfl) rfl ?_
  intro p e s m args below meth c hz hr hlk
  unfold fx_MD_isTrue
  refine jr_iconst (v := 0) hz d_MD_isTrue_0 (by decide) ?_
  refine jr_istore_n (lf := [(0, .ref (G.1 206)), (1, .int p1)]) hz d_MD_isTrue_1 rfl (by decide) rfl (fun v1 => ?_)
  refine jr_sub (ls' := [(0, .ref (G.1 206)), (1, .int p1), (2, .int v1)]) [1, 2, 0] rfl ?_
  exact jb_MD_isTrue_b2 hz hr hlk sp_fuel p1 v1 X
theorem d_MD_same_0 : decode b_MD_same 0 = .ok (.aload_n 0, 1) := by decide +kernel
theorem d_MD_same_1 : decode b_MD_same 1 = .ok (.iload_n 1, 1) := by decide +kernel
theorem d_MD_same_2 : decode b_MD_same 2 = .ok (.invokevirtual 63, 3) := by decide +kernel
theorem d_MD_same_5 : decode b_MD_same 5 = .ok (.aload_n 0, 1) := by decide +kernel
theorem d_MD_same_6 : decode b_MD_same 6 = .ok (.iload_n 2, 1) := by decide +kernel
theorem d_MD_same_7 : decode b_MD_same 7 = .ok (.invokevirtual 63, 3) := by decide +kernel
theorem d_MD_same_10 : decode b_MD_same 10 = .ok (.if_icmp .eq 5, 3) := by decide +kernel
theorem d_MD_same_13 : decode b_MD_same 13 = .ok (.iconst 0, 1) := by decide +kernel
theorem d_MD_same_14 : decode b_MD_same 14 = .ok (.ireturn, 1) := by decide +kernel
theorem d_MD_same_15 : decode b_MD_same 15 = .ok (.iconst 0, 1) := by decide +kernel
theorem d_MD_same_16 : decode b_MD_same 16 = .ok (.istore_n 3, 1) := by decide +kernel
theorem d_MD_same_17 : decode b_MD_same 17 = .ok (.iload_n 3, 1) := by decide +kernel
theorem d_MD_same_18 : decode b_MD_same 18 = .ok (.aload_n 0, 1) := by decide +kernel
theorem d_MD_same_19 : decode b_MD_same 19 = .ok (.iload_n 1, 1) := by decide +kernel
theorem d_MD_same_20 : decode b_MD_same 20 = .ok (.invokevirtual 63, 3) := by decide +kernel
theorem d_MD_same_23 : decode b_MD_same 23 = .ok (.if_icmp .ge 26, 3) := by decide +kernel
theorem d_MD_same_26 : decode b_MD_same 26 = .ok (.aload_n 0, 1) := by decide +kernel
theorem d_MD_same_27 : decode b_MD_same 27 = .ok (.iload_n 1, 1) := by decide +kernel
theorem d_MD_same_28 : decode b_MD_same 28 = .ok (.iload_n 3, 1) := by decide +kernel
theorem d_MD_same_29 : decode b_MD_same 29 = .ok (.invokevirtual 66, 3) := by decide +kernel
theorem d_MD_same_32 : decode b_MD_same 32 = .ok (.aload_n 0, 1) := by decide +kernel
theorem d_MD_same_33 : decode b_MD_same 33 = .ok (.iload_n 2, 1) := by decide +kernel
theorem d_MD_same_34 : decode b_MD_same 34 = .ok (.iload_n 3, 1) := by decide +kernel
theorem d_MD_same_35 : decode b_MD_same 35 = .ok (.invokevirtual 66, 3) := by decide +kernel
theorem d_MD_same_38 : decode b_MD_same 38 = .ok (.if_icmp .eq 5, 3) := by decide +kernel
theorem d_MD_same_41 : decode b_MD_same 41 = .ok (.iconst 0, 1) := by decide +kernel
theorem d_MD_same_42 : decode b_MD_same 42 = .ok (.ireturn, 1) := by decide +kernel
theorem d_MD_same_43 : decode b_MD_same 43 = .ok (.iinc 3 1, 3) := by decide +kernel
theorem d_MD_same_46 : decode b_MD_same 46 = .ok (.goto (-29), 3) := by decide +kernel
theorem d_MD_same_49 : decode b_MD_same 49 = .ok (.iconst 1, 1) := by decide +kernel
theorem d_MD_same_50 : decode b_MD_same 50 = .ok (.ireturn, 1) := by decide +kernel
abbrev rm_MD_same : Room := { frames := 2, cells := 0, slots := 0, locals := 43 }
def fx_MD_same_b17 : Nat → Int32 → Int32 → Int32 → xh_T → Option (Int32 × xh_T)
  | 0, _, _, _, _ => none
  | n + 1, a1, a2, a3, X => xh_b (fx_MD_size a1 X) (fun (r10 : Int32) (X3 : xh_T) =>
  if r10 ≤ a3 then
  some (1, X3)
  else xh_b (fx_MD_at a1 a3 X3) (fun (r14 : Int32) (X4 : xh_T) =>
  xh_b (fx_MD_at a2 a3 X4) (fun (r18 : Int32) (X5 : xh_T) =>
  if r14 = r18 then
  xh_n (a3 + 1) (fun v22 : Int32 =>
  fx_MD_same_b17 n a1 a2 v22 X5)
  else some (0, X5))))
set_option maxRecDepth 100000 in
set_option maxHeartbeats 4000000 in
theorem jb_MD_same_b17 {p : Program} {l : Launch} {e : Env} {s : State} {m : MethodId} {args : Array Value} {below : List Frame} {meth : Method} {c : Code} {D : va_G} {G : xh_G} (hz : xh_C p s m args c b_MD_same 4 "SpendScriptModel" D G (xh_A G s.heap.size)) (hr : meth.sig.returnType = (some .boolean)) (hlk : meth.locks = false) : ∀ (n : Nat) (a1 : Int32) (a2 : Int32) (a3 : Int32) (X : xh_T), xh_J p l e rm_MD_same s m args below meth c 0 0 D G (xh_A G s.heap.size) 4 (fun r X' => MQ below (xh_Qi D G (xh_A G s.heap.size) r X') args s 0 0 (xh_A G s.heap.size)) 17 [(0, .ref (G.1 206)), (1, .int a1), (2, .int a2), (3, .int a3)] [] X (fx_MD_same_b17 n a1 a2 a3 X) := by
  intro n
  induction n with
  | zero => intro a1 a2 a3 X; exact jr_none
  | succ n ih =>
    intro a1 a2 a3 X
    rw [fx_MD_same_b17]
    refine jr_iload_n hz d_MD_same_17 rfl 3 rfl ?_
    refine jr_aload_n hz d_MD_same_18 rfl 0 rfl ?_
    refine jr_iload_n hz d_MD_same_19 rfl 1 rfl ?_
    refine jr_callVi (As := [.int a1]) (a := 206) (ci := 7) (st := [.int a3]) hz (cx_MD_size l D G hz.2.2.2.2.2.2.1 a1 X) (fun _ _ => ⟨lq_206, _, ly_206⟩) wv_MD_63 ⟨rfl, rfl, Nat.le_of_ble_eq_true rfl, Nat.le_of_ble_eq_true rfl⟩ ⟨Nat.zero_le _, Nat.zero_le _⟩ rfl rfl (Nat.le_of_ble_eq_true rfl) d_MD_same_20 (fun r10 X3 => ?_)
    refine jr_icmp_ge (tgt := 49) hz d_MD_same_23 (by decide) ?_ ?_
    · refine jr_iconst (v := 1) hz d_MD_same_49 (by decide) ?_
      exact jr_zret hz hr hlk (by decide) d_MD_same_50
    · refine jr_aload_n hz d_MD_same_26 rfl 0 rfl ?_
      refine jr_iload_n hz d_MD_same_27 rfl 1 rfl ?_
      refine jr_iload_n hz d_MD_same_28 rfl 3 rfl ?_
      refine jr_callVi (As := [.int a1, .int a3]) (a := 206) (ci := 7) (st := []) hz (cx_MD_at l D G hz.2.2.2.2.2.2.1 a1 a3 X3) (fun _ _ => ⟨lq_206, _, ly_206⟩) wv_MD_66 ⟨rfl, rfl, Nat.le_of_ble_eq_true rfl, Nat.le_of_ble_eq_true rfl⟩ ⟨Nat.zero_le _, Nat.zero_le _⟩ rfl rfl (Nat.le_of_ble_eq_true rfl) d_MD_same_29 (fun r14 X4 => ?_)
      refine jr_aload_n hz d_MD_same_32 rfl 0 rfl ?_
      refine jr_iload_n hz d_MD_same_33 rfl 2 rfl ?_
      refine jr_iload_n hz d_MD_same_34 rfl 3 rfl ?_
      refine jr_callVi (As := [.int a2, .int a3]) (a := 206) (ci := 7) (st := [.int r14]) hz (cx_MD_at l D G hz.2.2.2.2.2.2.1 a2 a3 X4) (fun _ _ => ⟨lq_206, _, ly_206⟩) wv_MD_66 ⟨rfl, rfl, Nat.le_of_ble_eq_true rfl, Nat.le_of_ble_eq_true rfl⟩ ⟨Nat.zero_le _, Nat.zero_le _⟩ rfl rfl (Nat.le_of_ble_eq_true rfl) d_MD_same_35 (fun r18 X5 => ?_)
      refine jr_icmp_eq (tgt := 43) hz d_MD_same_38 (by decide) ?_ ?_
      · refine jr_iinc (lf := [(0, .ref (G.1 206)), (1, .int a1), (2, .int a2)]) (w := 1) hz d_MD_same_43 3 rfl (by decide) (by decide) rfl (fun v22 => ?_)
        refine jr_goto (tgt := 17) hz d_MD_same_46 (by decide) ?_
        refine jr_sub (ls' := [(0, .ref (G.1 206)), (1, .int a1), (2, .int a2), (3, .int v22)]) [1, 2, 3, 0] rfl ?_
        exact ih a1 a2 v22 X5
      · refine jr_iconst (v := 0) hz d_MD_same_41 (by decide) ?_
        exact jr_zret hz hr hlk (by decide) d_MD_same_42
def fx_MD_same (p1 : Int32) (p2 : Int32) (X : xh_T) : Option (Int32 × xh_T) :=
  xh_b (fx_MD_size p1 X) (fun (r1 : Int32) (X1 : xh_T) =>
  xh_b (fx_MD_size p2 X1) (fun (r5 : Int32) (X2 : xh_T) =>
  if r1 = r5 then
  xh_n 0 (fun v9 : Int32 =>
  fx_MD_same_b17 sp_fuel p1 p2 v9 X2)
  else some (0, X2)))
set_option maxRecDepth 100000 in
set_option maxHeartbeats 4000000 in
theorem cx_MD_same (l : Launch) (D : va_G) (G : xh_G) (hD : xh_D G) (p1 : Int32) (p2 : Int32) (X : xh_T) : xh_M xh_Qi l D G y_MD_same b_MD_same 4 (some .boolean) rm_MD_same [.ref (G.1 206), .int p1, .int p2] X (fx_MD_same p1 p2 X) := by
  refine xh_enter (ls := [(0, .ref (G.1 206)), (1, .int p1), (2, .int p2)]) hD (by decide +kernel) (Nat.le_of_ble_eq_true rfl) rfl ?_
  intro p e s m args below meth c hz hr hlk
  unfold fx_MD_same
  refine jr_aload_n hz d_MD_same_0 rfl 0 rfl ?_
  refine jr_iload_n hz d_MD_same_1 rfl 1 rfl ?_
  refine jr_callVi (As := [.int p1]) (a := 206) (ci := 7) (st := []) hz (cx_MD_size l D G hz.2.2.2.2.2.2.1 p1 X) (fun _ _ => ⟨lq_206, _, ly_206⟩) wv_MD_63 ⟨rfl, rfl, Nat.le_of_ble_eq_true rfl, Nat.le_of_ble_eq_true rfl⟩ ⟨Nat.zero_le _, Nat.zero_le _⟩ rfl rfl (Nat.le_of_ble_eq_true rfl) d_MD_same_2 (fun r1 X1 => ?_)
  refine jr_aload_n hz d_MD_same_5 rfl 0 rfl ?_
  refine jr_iload_n hz d_MD_same_6 rfl 2 rfl ?_
  refine jr_callVi (As := [.int p2]) (a := 206) (ci := 7) (st := [.int r1]) hz (cx_MD_size l D G hz.2.2.2.2.2.2.1 p2 X1) (fun _ _ => ⟨lq_206, _, ly_206⟩) wv_MD_63 ⟨rfl, rfl, Nat.le_of_ble_eq_true rfl, Nat.le_of_ble_eq_true rfl⟩ ⟨Nat.zero_le _, Nat.zero_le _⟩ rfl rfl (Nat.le_of_ble_eq_true rfl) d_MD_same_7 (fun r5 X2 => ?_)
  refine jr_icmp_eq (tgt := 15) hz d_MD_same_10 (by decide) ?_ ?_
  · refine jr_iconst (v := 0) hz d_MD_same_15 (by decide) ?_
    refine jr_istore_n (lf := [(0, .ref (G.1 206)), (1, .int p1), (2, .int p2)]) hz d_MD_same_16 rfl (by decide) rfl (fun v9 => ?_)
    refine jr_sub (ls' := [(0, .ref (G.1 206)), (1, .int p1), (2, .int p2), (3, .int v9)]) [1, 2, 3, 0] rfl ?_
    exact jb_MD_same_b17 hz hr hlk sp_fuel p1 p2 v9 X2
  · refine jr_iconst (v := 0) hz d_MD_same_13 (by decide) ?_
    exact jr_zret hz hr hlk (by decide) d_MD_same_14

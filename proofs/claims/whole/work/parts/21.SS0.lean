/-! printed by wip/whole/gen_walks.py -/
theorem d_SS_isFed_0 : decode b_SS_isFed 0 = .ok (.iload_n 0, 1) := by decide +kernel
theorem d_SS_isFed_1 : decode b_SS_isFed 1 = .ok (.ifCond .eq 8, 3) := by decide +kernel
theorem d_SS_isFed_4 : decode b_SS_isFed 4 = .ok (.iload_n 0, 1) := by decide +kernel
theorem d_SS_isFed_5 : decode b_SS_isFed 5 = .ok (.iconst 1, 1) := by decide +kernel
theorem d_SS_isFed_6 : decode b_SS_isFed 6 = .ok (.if_icmp .ne 7, 3) := by decide +kernel
theorem d_SS_isFed_9 : decode b_SS_isFed 9 = .ok (.iconst 1, 1) := by decide +kernel
theorem d_SS_isFed_10 : decode b_SS_isFed 10 = .ok (.goto 4, 3) := by decide +kernel
theorem d_SS_isFed_13 : decode b_SS_isFed 13 = .ok (.iconst 0, 1) := by decide +kernel
theorem d_SS_isFed_14 : decode b_SS_isFed 14 = .ok (.ireturn, 1) := by decide +kernel
abbrev rm_SS_isFed : Room := { frames := 0, cells := 0, slots := 0, locals := 0 }
def fx_SS_isFed_b9 (X : xh_T) : Option (Int32 × xh_T) :=
  some (1, X)
set_option maxRecDepth 100000 in
set_option maxHeartbeats 4000000 in
theorem jb_SS_isFed_b9 {p : Program} {l : Launch} {e : Env} {s : State} {m : MethodId} {args : Array Value} {below : List Frame} {meth : Method} {c : Code} {D : va_G} {G : xh_G} (hz : xh_C p s m args c b_SS_isFed 1 "SpendScript" D G (xh_A G s.heap.size)) (hr : meth.sig.returnType = (some .boolean)) (hlk : meth.locks = false) (X : xh_T) : xh_J p l e rm_SS_isFed s m args below meth c 0 0 D G (xh_A G s.heap.size) 1 (fun r X' => MQ below (xh_Qi D G (xh_A G s.heap.size) r X') args s 0 0 (xh_A G s.heap.size)) 9 [] [] X (fx_SS_isFed_b9 X) := by
  unfold fx_SS_isFed_b9
  refine jr_iconst (v := 1) hz d_SS_isFed_9 (by decide) ?_
  refine jr_goto (tgt := 14) hz d_SS_isFed_10 (by decide) ?_
  exact jr_zret hz hr hlk (by decide) d_SS_isFed_14
def fx_SS_isFed (p1 : Int32) (X : xh_T) : Option (Int32 × xh_T) :=
  if p1 = 0 then
  fx_SS_isFed_b9 X
  else if p1 = 1 then
  fx_SS_isFed_b9 X
  else some (0, X)
set_option maxRecDepth 100000 in
set_option maxHeartbeats 4000000 in
theorem cx_SS_isFed (l : Launch) (D : va_G) (G : xh_G) (hD : xh_D G) (p1 : Int32) (X : xh_T) : xh_M xh_Qi l D G y_SS_isFed b_SS_isFed 1 (some .boolean) rm_SS_isFed [.int p1] X (fx_SS_isFed p1 X) := by
  refine xh_enter (ls := [(0, .int p1)]) hD (by decide +kernel) (Nat.le_of_ble_eq_true rfl) rfl ?_
  intro p e s m args below meth c hz hr hlk
  unfold fx_SS_isFed
  refine jr_iload_n hz d_SS_isFed_0 rfl 0 rfl ?_
  refine jr_if_eq (tgt := 9) hz d_SS_isFed_1 (by decide) ?_ ?_
  · refine jr_sub (ls' := []) [] rfl ?_
    exact jb_SS_isFed_b9 hz hr hlk X
  · refine jr_iload_n hz d_SS_isFed_4 rfl 0 rfl ?_
    refine jr_iconst (v := 1) hz d_SS_isFed_5 (by decide) ?_
    refine jr_icmp_ne (tgt := 13) hz d_SS_isFed_6 (by decide) ?_ ?_
    · refine jr_iconst (v := 0) hz d_SS_isFed_13 (by decide) ?_
      exact jr_zret hz hr hlk (by decide) d_SS_isFed_14
    · refine jr_sub (ls' := []) [] rfl ?_
      exact jb_SS_isFed_b9 hz hr hlk X
theorem d_SS_scriptAt_0 : decode b_SS_scriptAt 0 = .ok (.iload_n 1, 1) := by decide +kernel
theorem d_SS_scriptAt_1 : decode b_SS_scriptAt 1 = .ok (.ifCond .ne 10, 3) := by decide +kernel
theorem d_SS_scriptAt_4 : decode b_SS_scriptAt 4 = .ok (.aload_n 0, 1) := by decide +kernel
theorem d_SS_scriptAt_5 : decode b_SS_scriptAt 5 = .ok (.getfield 14, 3) := by decide +kernel
theorem d_SS_scriptAt_8 : decode b_SS_scriptAt 8 = .ok (.goto 7, 3) := by decide +kernel
theorem d_SS_scriptAt_11 : decode b_SS_scriptAt 11 = .ok (.aload_n 0, 1) := by decide +kernel
theorem d_SS_scriptAt_12 : decode b_SS_scriptAt 12 = .ok (.getfield 18, 3) := by decide +kernel
theorem d_SS_scriptAt_15 : decode b_SS_scriptAt 15 = .ok (.areturn, 1) := by decide +kernel
theorem wf_SS_18 : xh_F "SpendScript" 18 6 1 := ⟨R_SS, F_SS, 10, rfl, by decide, iw_SS, (sp_tb (List.mem_of_getElem? (i := 129) (by decide +kernel)))⟩
theorem wf_SS_14 : xh_F "SpendScript" 14 6 0 := ⟨R_SS, F_SS, 10, rfl, by decide, iw_SS, (sp_tb (List.mem_of_getElem? (i := 128) (by decide +kernel)))⟩
abbrev rm_SS_scriptAt : Room := { frames := 0, cells := 0, slots := 0, locals := 0 }
def fx_SS_scriptAt (p1 : Int32) (X : xh_T) : Option (Nat × xh_T) :=
  if p1 = 0 then
  some (1, X)
  else some (3, X)
set_option maxRecDepth 100000 in
set_option maxHeartbeats 4000000 in
theorem cx_SS_scriptAt (l : Launch) (D : va_G) (G : xh_G) (hD : xh_D G) (p1 : Int32) (X : xh_T) : xh_M xh_Qr l D G y_SS_scriptAt b_SS_scriptAt 2 (some (.object "SpendScript$ByteString")) rm_SS_scriptAt [.ref (G.1 0), .int p1] X (fx_SS_scriptAt p1 X) := by
  refine xh_enter (ls := [(0, .ref (G.1 0)), (1, .int p1)]) hD (by decide +kernel) (Nat.le_of_ble_eq_true rfl) rfl ?_
  intro p e s m args below meth c hz hr hlk
  unfold fx_SS_scriptAt
  refine jr_iload_n hz d_SS_scriptAt_0 rfl 1 rfl ?_
  refine jr_if_ne (tgt := 11) hz d_SS_scriptAt_1 (by decide) ?_ ?_
  · refine jr_aload_n hz d_SS_scriptAt_11 rfl 0 rfl ?_
    refine jr_getr (j := 1) (t := 3) hz lq_0 ly_0 rfl wf_SS_18 d_SS_scriptAt_12 ?_
    exact jr_aret hz hr hlk d_SS_scriptAt_15
  · refine jr_aload_n hz d_SS_scriptAt_4 rfl 0 rfl ?_
    refine jr_getr (j := 0) (t := 1) hz lq_0 ly_0 rfl wf_SS_14 d_SS_scriptAt_5 ?_
    refine jr_goto (tgt := 15) hz d_SS_scriptAt_8 (by decide) ?_
    exact jr_aret hz hr hlk d_SS_scriptAt_15
theorem d_SS_feed_0 : decode b_SS_feed 0 = .ok (.iload_n 1, 1) := by decide +kernel
theorem d_SS_feed_1 : decode b_SS_feed 1 = .ok (.invokestatic 60, 3) := by decide +kernel
theorem d_SS_feed_4 : decode b_SS_feed 4 = .ok (.ifCond .eq 19, 3) := by decide +kernel
theorem d_SS_feed_7 : decode b_SS_feed 7 = .ok (.aload_n 0, 1) := by decide +kernel
theorem d_SS_feed_8 : decode b_SS_feed 8 = .ok (.iload_n 1, 1) := by decide +kernel
theorem d_SS_feed_9 : decode b_SS_feed 9 = .ok (.invokevirtual 64, 3) := by decide +kernel
theorem d_SS_feed_12 : decode b_SS_feed 12 = .ok (.iload_n 2, 1) := by decide +kernel
theorem d_SS_feed_13 : decode b_SS_feed 13 = .ok (.invokevirtual 68, 3) := by decide +kernel
theorem d_SS_feed_16 : decode b_SS_feed 16 = .ok (.ifCond .eq 7, 3) := by decide +kernel
theorem d_SS_feed_19 : decode b_SS_feed 19 = .ok (.iconst 1, 1) := by decide +kernel
theorem d_SS_feed_20 : decode b_SS_feed 20 = .ok (.goto 4, 3) := by decide +kernel
theorem d_SS_feed_23 : decode b_SS_feed 23 = .ok (.iconst 0, 1) := by decide +kernel
theorem d_SS_feed_24 : decode b_SS_feed 24 = .ok (.ireturn, 1) := by decide +kernel
theorem ws_SS_60 : xh_S "SpendScript" 60 y_SS_isFed b_SS_isFed 1 (some .boolean) 1 := ⟨(sp_tb (List.mem_of_getElem? (i := 165) (by decide +kernel))), (sp_tb (List.mem_of_getElem? (i := 1) (by decide +kernel))), (sp_tb (List.mem_of_getElem? (i := 163) (by decide +kernel))), ⟨by decide +kernel, by decide +kernel, by decide +kernel⟩, (sp_tb (List.mem_of_getElem? (i := 164) (by decide +kernel)))⟩
theorem wv_SS_64 : xh_V "SpendScript" 64 6 y_SS_scriptAt b_SS_scriptAt 2 (some (.object "SpendScript$ByteString")) 1 := ⟨(sp_tb (List.mem_of_getElem? (i := 169) (by decide +kernel))), (sp_tb (List.mem_of_getElem? (i := 1) (by decide +kernel))), (sp_tb (List.mem_of_getElem? (i := 166) (by decide +kernel))), ⟨by decide +kernel, by decide +kernel, by decide +kernel⟩, (sp_tb (List.mem_of_getElem? (i := 168) (by decide +kernel))), (sp_pv (q := (y_SS_scriptAt, 10)) (List.mem_of_getElem? (i := 0) (by decide +kernel))), F_SS, 10, rfl⟩
theorem wv_SS_68 : xh_V "SpendScript" 68 0 y_BS_append b_BS_append 2 (some .boolean) 1 := ⟨(sp_tb (List.mem_of_getElem? (i := 173) (by decide +kernel))), (sp_tb (List.mem_of_getElem? (i := 2) (by decide +kernel))), (sp_tb (List.mem_of_getElem? (i := 170) (by decide +kernel))), ⟨by decide +kernel, by decide +kernel, by decide +kernel⟩, (sp_tb (List.mem_of_getElem? (i := 171) (by decide +kernel))), (sp_tb (List.mem_of_getElem? (i := 172) (by decide +kernel))), F_BS, 2, rfl⟩
abbrev rm_SS_feed : Room := { frames := 1, cells := 0, slots := 0, locals := 21 }
def fx_SS_feed (p1 : Int32) (p2 : Int32) (X : xh_T) : Option (Int32 × xh_T) :=
  xh_b (fx_SS_isFed p1 X) (fun (r2 : Int32) (X1 : xh_T) =>
  if r2 = 0 then
  some (0, X1)
  else xh_b (fx_SS_scriptAt p1 X1) (fun (q8 : Nat) (X2 : xh_T) =>
  xh_b (fx_BS_append q8 p2 X2) (fun (r10 : Int32) (X3 : xh_T) =>
  if r10 = 0 then
  some (0, X3)
  else some (1, X3))))
set_option maxRecDepth 100000 in
set_option maxHeartbeats 4000000 in
theorem cx_SS_feed (l : Launch) (D : va_G) (G : xh_G) (hD : xh_D G) (p1 : Int32) (p2 : Int32) (X : xh_T) : xh_M xh_Qi l D G y_SS_feed b_SS_feed 3 (some .boolean) rm_SS_feed [.ref (G.1 0), .int p1, .int p2] X (fx_SS_feed p1 p2 X) := by
  refine xh_enter (ls := [(0, .ref (G.1 0)), (1, .int p1), (2, .int p2)]) hD (by decide +kernel) (Nat.le_of_ble_eq_true rfl) rfl ?_
  intro p e s m args below meth c hz hr hlk
  unfold fx_SS_feed
  refine jr_iload_n hz d_SS_feed_0 rfl 1 rfl ?_
  refine jr_callSi (As := [.int p1]) (st := []) hz (cx_SS_isFed l D G hz.2.2.2.2.2.2.1 p1 X) ws_SS_60 ⟨rfl, rfl, Nat.le_of_ble_eq_true rfl, Nat.le_of_ble_eq_true rfl⟩ ⟨Nat.zero_le _, Nat.zero_le _⟩ rfl rfl (Nat.le_of_ble_eq_true rfl) d_SS_feed_1 (fun r2 X1 => ?_)
  refine jr_if_eq (tgt := 23) hz d_SS_feed_4 (by decide) ?_ ?_
  · refine jr_iconst (v := 0) hz d_SS_feed_23 (by decide) ?_
    exact jr_zret hz hr hlk (by decide) d_SS_feed_24
  · refine jr_aload_n hz d_SS_feed_7 rfl 0 rfl ?_
    refine jr_iload_n hz d_SS_feed_8 rfl 1 rfl ?_
    refine jr_callVr (As := [.int p1]) (a := 0) (ci := 6) (st := []) hz (cx_SS_scriptAt l D G hz.2.2.2.2.2.2.1 p1 X1) (fun _ _ => ⟨lq_0, _, ly_0⟩) wv_SS_64 ⟨rfl, rfl, Nat.le_of_ble_eq_true rfl, Nat.le_of_ble_eq_true rfl⟩ ⟨Nat.zero_le _, Nat.zero_le _⟩ rfl rfl (Nat.le_of_ble_eq_true rfl) d_SS_feed_9 (fun q8 X2 => ?_)
    refine jr_iload_n hz d_SS_feed_12 rfl 2 rfl ?_
    refine jr_callVi (As := [.int p2]) (a := q8) (ci := 0) (st := []) hz (cx_BS_append l D G hz.2.2.2.2.2.2.1 q8 p2 X2) (fun z h => sp_bs_v (xh_k_t h)) wv_SS_68 ⟨rfl, rfl, Nat.le_of_ble_eq_true rfl, Nat.le_of_ble_eq_true rfl⟩ ⟨Nat.zero_le _, Nat.zero_le _⟩ rfl rfl (Nat.le_of_ble_eq_true rfl) d_SS_feed_13 (fun r10 X3 => ?_)
    refine jr_if_eq (tgt := 23) hz d_SS_feed_16 (by decide) ?_ ?_
    · refine jr_iconst (v := 0) hz d_SS_feed_23 (by decide) ?_
      exact jr_zret hz hr hlk (by decide) d_SS_feed_24
    · refine jr_iconst (v := 1) hz d_SS_feed_19 (by decide) ?_
      refine jr_goto (tgt := 24) hz d_SS_feed_20 (by decide) ?_
      exact jr_zret hz hr hlk (by decide) d_SS_feed_24
theorem d_SS_length_0 : decode b_SS_length 0 = .ok (.iload_n 1, 1) := by decide +kernel
theorem d_SS_length_1 : decode b_SS_length 1 = .ok (.invokestatic 60, 3) := by decide +kernel
theorem d_SS_length_4 : decode b_SS_length 4 = .ok (.ifCond .eq 14, 3) := by decide +kernel
theorem d_SS_length_7 : decode b_SS_length 7 = .ok (.aload_n 0, 1) := by decide +kernel
theorem d_SS_length_8 : decode b_SS_length 8 = .ok (.iload_n 1, 1) := by decide +kernel
theorem d_SS_length_9 : decode b_SS_length 9 = .ok (.invokevirtual 64, 3) := by decide +kernel
theorem d_SS_length_12 : decode b_SS_length 12 = .ok (.invokevirtual 71, 3) := by decide +kernel
theorem d_SS_length_15 : decode b_SS_length 15 = .ok (.goto 4, 3) := by decide +kernel
theorem d_SS_length_18 : decode b_SS_length 18 = .ok (.iconst (-1), 1) := by decide +kernel
theorem d_SS_length_19 : decode b_SS_length 19 = .ok (.ireturn, 1) := by decide +kernel
theorem wv_SS_71 : xh_V "SpendScript" 71 0 y_BS_size b_BS_size 1 (some .int) 0 := ⟨(sp_tb (List.mem_of_getElem? (i := 181) (by decide +kernel))), (sp_tb (List.mem_of_getElem? (i := 2) (by decide +kernel))), (sp_tb (List.mem_of_getElem? (i := 178) (by decide +kernel))), ⟨by decide +kernel, by decide +kernel, by decide +kernel⟩, (sp_tb (List.mem_of_getElem? (i := 179) (by decide +kernel))), (sp_tb (List.mem_of_getElem? (i := 180) (by decide +kernel))), F_BS, 2, rfl⟩
abbrev rm_SS_length : Room := { frames := 1, cells := 0, slots := 0, locals := 21 }
def fx_SS_length (p1 : Int32) (X : xh_T) : Option (Int32 × xh_T) :=
  xh_b (fx_SS_isFed p1 X) (fun (r2 : Int32) (X1 : xh_T) =>
  if r2 = 0 then
  some ((-1), X1)
  else xh_b (fx_SS_scriptAt p1 X1) (fun (q8 : Nat) (X2 : xh_T) =>
  xh_b (fx_BS_size q8 X2) (fun (r9 : Int32) (X3 : xh_T) =>
  some (r9, X3))))
set_option maxRecDepth 100000 in
set_option maxHeartbeats 4000000 in
theorem cx_SS_length (l : Launch) (D : va_G) (G : xh_G) (hD : xh_D G) (p1 : Int32) (X : xh_T) : xh_M xh_Qi l D G y_SS_length b_SS_length 2 (some .int) rm_SS_length [.ref (G.1 0), .int p1] X (fx_SS_length p1 X) := by
  refine xh_enter (ls := [(0, .ref (G.1 0)), (1, .int p1)]) hD (by decide +kernel) (Nat.le_of_ble_eq_true rfl) rfl ?_
  intro p e s m args below meth c hz hr hlk
  unfold fx_SS_length
  refine jr_iload_n hz d_SS_length_0 rfl 1 rfl ?_
  refine jr_callSi (As := [.int p1]) (st := []) hz (cx_SS_isFed l D G hz.2.2.2.2.2.2.1 p1 X) ws_SS_60 ⟨rfl, rfl, Nat.le_of_ble_eq_true rfl, Nat.le_of_ble_eq_true rfl⟩ ⟨Nat.zero_le _, Nat.zero_le _⟩ rfl rfl (Nat.le_of_ble_eq_true rfl) d_SS_length_1 (fun r2 X1 => ?_)
  refine jr_if_eq (tgt := 18) hz d_SS_length_4 (by decide) ?_ ?_
  · refine jr_iconst (v := (-1)) hz d_SS_length_18 (by decide) ?_
    exact jr_iret hz hr hlk d_SS_length_19
  · refine jr_aload_n hz d_SS_length_7 rfl 0 rfl ?_
    refine jr_iload_n hz d_SS_length_8 rfl 1 rfl ?_
    refine jr_callVr (As := [.int p1]) (a := 0) (ci := 6) (st := []) hz (cx_SS_scriptAt l D G hz.2.2.2.2.2.2.1 p1 X1) (fun _ _ => ⟨lq_0, _, ly_0⟩) wv_SS_64 ⟨rfl, rfl, Nat.le_of_ble_eq_true rfl, Nat.le_of_ble_eq_true rfl⟩ ⟨Nat.zero_le _, Nat.zero_le _⟩ rfl rfl (Nat.le_of_ble_eq_true rfl) d_SS_length_9 (fun q8 X2 => ?_)
    refine jr_callVi (As := []) (a := q8) (ci := 0) (st := []) hz (cx_BS_size l D G hz.2.2.2.2.2.2.1 q8 X2) (fun z h => sp_bs_v (xh_k_t h)) wv_SS_71 ⟨rfl, rfl, Nat.le_of_ble_eq_true rfl, Nat.le_of_ble_eq_true rfl⟩ ⟨Nat.zero_le _, Nat.zero_le _⟩ rfl rfl (Nat.le_of_ble_eq_true rfl) d_SS_length_12 (fun r9 X3 => ?_)
    refine jr_goto (tgt := 19) hz d_SS_length_15 (by decide) ?_
    exact jr_iret hz hr hlk d_SS_length_19
theorem d_SS_clear_0 : decode b_SS_clear 0 = .ok (.iload_n 1, 1) := by decide +kernel
theorem d_SS_clear_1 : decode b_SS_clear 1 = .ok (.invokestatic 60, 3) := by decide +kernel
theorem d_SS_clear_4 : decode b_SS_clear 4 = .ok (.ifCond .ne 5, 3) := by decide +kernel
theorem d_SS_clear_7 : decode b_SS_clear 7 = .ok (.iconst 0, 1) := by decide +kernel
theorem d_SS_clear_8 : decode b_SS_clear 8 = .ok (.ireturn, 1) := by decide +kernel
theorem d_SS_clear_9 : decode b_SS_clear 9 = .ok (.aload_n 0, 1) := by decide +kernel
theorem d_SS_clear_10 : decode b_SS_clear 10 = .ok (.iload_n 1, 1) := by decide +kernel
theorem d_SS_clear_11 : decode b_SS_clear 11 = .ok (.invokevirtual 64, 3) := by decide +kernel
theorem d_SS_clear_14 : decode b_SS_clear 14 = .ok (.invokevirtual 75, 3) := by decide +kernel
theorem d_SS_clear_17 : decode b_SS_clear 17 = .ok (.iconst 1, 1) := by decide +kernel
theorem d_SS_clear_18 : decode b_SS_clear 18 = .ok (.ireturn, 1) := by decide +kernel
theorem wv_SS_75 : xh_V "SpendScript" 75 0 y_BS_makeEmpty b_BS_makeEmpty 1 none 0 := ⟨(sp_tb (List.mem_of_getElem? (i := 189) (by decide +kernel))), (sp_tb (List.mem_of_getElem? (i := 2) (by decide +kernel))), (sp_tb (List.mem_of_getElem? (i := 186) (by decide +kernel))), ⟨by decide +kernel, by decide +kernel, by decide +kernel⟩, (sp_tb (List.mem_of_getElem? (i := 187) (by decide +kernel))), (sp_tb (List.mem_of_getElem? (i := 188) (by decide +kernel))), F_BS, 2, rfl⟩
abbrev rm_SS_clear : Room := { frames := 1, cells := 0, slots := 0, locals := 21 }
def fx_SS_clear (p1 : Int32) (X : xh_T) : Option (Int32 × xh_T) :=
  xh_b (fx_SS_isFed p1 X) (fun (r2 : Int32) (X1 : xh_T) =>
  if r2 = 0 then
  some (0, X1)
  else xh_b (fx_SS_scriptAt p1 X1) (fun (q8 : Nat) (X2 : xh_T) =>
  xh_b (fx_BS_makeEmpty q8 X2) (fun (_ : Unit) (X3 : xh_T) =>
  some (1, X3))))
set_option maxRecDepth 100000 in
set_option maxHeartbeats 4000000 in
theorem cx_SS_clear (l : Launch) (D : va_G) (G : xh_G) (hD : xh_D G) (p1 : Int32) (X : xh_T) : xh_M xh_Qi l D G y_SS_clear b_SS_clear 2 (some .boolean) rm_SS_clear [.ref (G.1 0), .int p1] X (fx_SS_clear p1 X) := by
  refine xh_enter (ls := [(0, .ref (G.1 0)), (1, .int p1)]) hD (by decide +kernel) (Nat.le_of_ble_eq_true rfl) rfl ?_
  intro p e s m args below meth c hz hr hlk
  unfold fx_SS_clear
  refine jr_iload_n hz d_SS_clear_0 rfl 1 rfl ?_
  refine jr_callSi (As := [.int p1]) (st := []) hz (cx_SS_isFed l D G hz.2.2.2.2.2.2.1 p1 X) ws_SS_60 ⟨rfl, rfl, Nat.le_of_ble_eq_true rfl, Nat.le_of_ble_eq_true rfl⟩ ⟨Nat.zero_le _, Nat.zero_le _⟩ rfl rfl (Nat.le_of_ble_eq_true rfl) d_SS_clear_1 (fun r2 X1 => ?_)
  refine jr_if_ne (tgt := 9) hz d_SS_clear_4 (by decide) ?_ ?_
  · refine jr_aload_n hz d_SS_clear_9 rfl 0 rfl ?_
    refine jr_iload_n hz d_SS_clear_10 rfl 1 rfl ?_
    refine jr_callVr (As := [.int p1]) (a := 0) (ci := 6) (st := []) hz (cx_SS_scriptAt l D G hz.2.2.2.2.2.2.1 p1 X1) (fun _ _ => ⟨lq_0, _, ly_0⟩) wv_SS_64 ⟨rfl, rfl, Nat.le_of_ble_eq_true rfl, Nat.le_of_ble_eq_true rfl⟩ ⟨Nat.zero_le _, Nat.zero_le _⟩ rfl rfl (Nat.le_of_ble_eq_true rfl) d_SS_clear_11 (fun q8 X2 => ?_)
    refine jr_callVv (As := []) (a := q8) (ci := 0) (st := []) hz (cx_BS_makeEmpty l D G hz.2.2.2.2.2.2.1 q8 X2) (fun z h => sp_bs_v (xh_k_t h)) wv_SS_75 ⟨rfl, rfl, Nat.le_of_ble_eq_true rfl, Nat.le_of_ble_eq_true rfl⟩ ⟨Nat.zero_le _, Nat.zero_le _⟩ rfl rfl (Nat.le_of_ble_eq_true rfl) d_SS_clear_14 (fun _ X3 => ?_)
    refine jr_iconst (v := 1) hz d_SS_clear_17 (by decide) ?_
    exact jr_zret hz hr hlk (by decide) d_SS_clear_18
  · refine jr_iconst (v := 0) hz d_SS_clear_7 (by decide) ?_
    exact jr_zret hz hr hlk (by decide) d_SS_clear_8
theorem d_SS_confirm_0 : decode b_SS_confirm 0 = .ok (.aload_n 0, 1) := by decide +kernel
theorem d_SS_confirm_1 : decode b_SS_confirm 1 = .ok (.getfield 27, 3) := by decide +kernel
theorem d_SS_confirm_4 : decode b_SS_confirm 4 = .ok (.iload_n 1, 1) := by decide +kernel
theorem d_SS_confirm_5 : decode b_SS_confirm 5 = .ok (.iload_n 2, 1) := by decide +kernel
theorem d_SS_confirm_6 : decode b_SS_confirm 6 = .ok (.invokevirtual 78, 3) := by decide +kernel
theorem d_SS_confirm_9 : decode b_SS_confirm 9 = .ok (.ireturn, 1) := by decide +kernel
theorem wf_SS_27 : xh_F "SpendScript" 27 6 3 := ⟨R_SS, F_SS, 10, rfl, by decide, iw_SS, (sp_tb (List.mem_of_getElem? (i := 131) (by decide +kernel)))⟩
theorem wv_SS_78 : xh_V "SpendScript" 78 2 y_ST_add b_ST_add 3 (some .boolean) 2 := ⟨(sp_tb (List.mem_of_getElem? (i := 197) (by decide +kernel))), (sp_tb (List.mem_of_getElem? (i := 3) (by decide +kernel))), (sp_tb (List.mem_of_getElem? (i := 194) (by decide +kernel))), ⟨by decide +kernel, by decide +kernel, by decide +kernel⟩, (sp_tb (List.mem_of_getElem? (i := 195) (by decide +kernel))), (sp_tb (List.mem_of_getElem? (i := 196) (by decide +kernel))), F_ST, 3, rfl⟩
abbrev rm_SS_confirm : Room := { frames := 1, cells := 0, slots := 0, locals := 22 }
def fx_SS_confirm (p1 : Int32) (p2 : Int32) (X : xh_T) : Option (Int32 × xh_T) :=
  xh_b (fx_ST_add p1 p2 X) (fun (r2 : Int32) (X1 : xh_T) =>
  xh_z r2 (some (r2, X1)))
set_option maxRecDepth 100000 in
set_option maxHeartbeats 4000000 in
theorem cx_SS_confirm (l : Launch) (D : va_G) (G : xh_G) (hD : xh_D G) (p1 : Int32) (p2 : Int32) (X : xh_T) : xh_M xh_Qi l D G y_SS_confirm b_SS_confirm 3 (some .boolean) rm_SS_confirm [.ref (G.1 0), .int p1, .int p2] X (fx_SS_confirm p1 p2 X) := by
  refine xh_enter (ls := [(0, .ref (G.1 0)), (1, .int p1), (2, .int p2)]) hD (by decide +kernel) (Nat.le_of_ble_eq_true rfl) rfl ?_
  intro p e s m args below meth c hz hr hlk
  unfold fx_SS_confirm
  refine jr_aload_n hz d_SS_confirm_0 rfl 0 rfl ?_
  refine jr_getr (j := 3) (t := 7) hz lq_0 ly_0 rfl wf_SS_27 d_SS_confirm_1 ?_
  refine jr_iload_n hz d_SS_confirm_4 rfl 1 rfl ?_
  refine jr_iload_n hz d_SS_confirm_5 rfl 2 rfl ?_
  refine jr_callVi (As := [.int p1, .int p2]) (a := 7) (ci := 2) (st := []) hz (cx_ST_add l D G hz.2.2.2.2.2.2.1 p1 p2 X) (fun _ _ => ⟨lq_7, _, ly_7⟩) wv_SS_78 ⟨rfl, rfl, Nat.le_of_ble_eq_true rfl, Nat.le_of_ble_eq_true rfl⟩ ⟨Nat.zero_le _, Nat.zero_le _⟩ rfl rfl (Nat.le_of_ble_eq_true rfl) d_SS_confirm_6 (fun r2 X1 => ?_)
  refine jr_z (fun hz01 => ?_)
  exact jr_zret hz hr hlk (xh_nar hz01) d_SS_confirm_9
theorem d_SS_digest_0 : decode b_SS_digest 0 = .ok (.iload_n 1, 1) := by decide +kernel
theorem d_SS_digest_1 : decode b_SS_digest 1 = .ok (.invokestatic 60, 3) := by decide +kernel
theorem d_SS_digest_4 : decode b_SS_digest 4 = .ok (.ifCond .eq 16, 3) := by decide +kernel
theorem d_SS_digest_7 : decode b_SS_digest 7 = .ok (.aload_n 0, 1) := by decide +kernel
theorem d_SS_digest_8 : decode b_SS_digest 8 = .ok (.iload_n 1, 1) := by decide +kernel
theorem d_SS_digest_9 : decode b_SS_digest 9 = .ok (.invokevirtual 64, 3) := by decide +kernel
theorem d_SS_digest_12 : decode b_SS_digest 12 = .ok (.iload_n 2, 1) := by decide +kernel
theorem d_SS_digest_13 : decode b_SS_digest 13 = .ok (.iload_n 3, 1) := by decide +kernel
theorem d_SS_digest_14 : decode b_SS_digest 14 = .ok (.invokevirtual 82, 3) := by decide +kernel
theorem d_SS_digest_17 : decode b_SS_digest 17 = .ok (.ifCond .ne 5, 3) := by decide +kernel
theorem d_SS_digest_20 : decode b_SS_digest 20 = .ok (.iconst 0, 1) := by decide +kernel
theorem d_SS_digest_21 : decode b_SS_digest 21 = .ok (.ireturn, 1) := by decide +kernel
theorem d_SS_digest_22 : decode b_SS_digest 22 = .ok (.aload_n 0, 1) := by decide +kernel
theorem d_SS_digest_23 : decode b_SS_digest 23 = .ok (.iload_n 1, 1) := by decide +kernel
theorem d_SS_digest_24 : decode b_SS_digest 24 = .ok (.invokevirtual 64, 3) := by decide +kernel
theorem d_SS_digest_27 : decode b_SS_digest 27 = .ok (.iload_n 2, 1) := by decide +kernel
theorem d_SS_digest_28 : decode b_SS_digest 28 = .ok (.iload_n 3, 1) := by decide +kernel
theorem d_SS_digest_29 : decode b_SS_digest 29 = .ok (.invokevirtual 85, 3) := by decide +kernel
theorem d_SS_digest_32 : decode b_SS_digest 32 = .ok (.ireturn, 1) := by decide +kernel
theorem wv_SS_82 : xh_V "SpendScript" 82 0 y_BS_hasPart b_BS_hasPart 3 (some .boolean) 2 := ⟨(sp_tb (List.mem_of_getElem? (i := 205) (by decide +kernel))), (sp_tb (List.mem_of_getElem? (i := 2) (by decide +kernel))), (sp_tb (List.mem_of_getElem? (i := 202) (by decide +kernel))), ⟨by decide +kernel, by decide +kernel, by decide +kernel⟩, (sp_tb (List.mem_of_getElem? (i := 203) (by decide +kernel))), (sp_tb (List.mem_of_getElem? (i := 204) (by decide +kernel))), F_BS, 2, rfl⟩
theorem wv_SS_85 : xh_V "SpendScript" 85 0 y_BS_hash b_BS_hash 5 (some .int) 2 := ⟨(sp_tb (List.mem_of_getElem? (i := 209) (by decide +kernel))), (sp_tb (List.mem_of_getElem? (i := 2) (by decide +kernel))), (sp_tb (List.mem_of_getElem? (i := 206) (by decide +kernel))), ⟨by decide +kernel, by decide +kernel, by decide +kernel⟩, (sp_tb (List.mem_of_getElem? (i := 207) (by decide +kernel))), (sp_tb (List.mem_of_getElem? (i := 208) (by decide +kernel))), F_BS, 2, rfl⟩
abbrev rm_SS_digest : Room := { frames := 1, cells := 0, slots := 0, locals := 24 }
def fx_SS_digest (p1 : Int32) (p2 : Int32) (p3 : Int32) (X : xh_T) : Option (Int32 × xh_T) :=
  xh_b (fx_SS_isFed p1 X) (fun (r2 : Int32) (X1 : xh_T) =>
  if r2 = 0 then
  some (0, X1)
  else xh_b (fx_SS_scriptAt p1 X1) (fun (q8 : Nat) (X2 : xh_T) =>
  xh_b (fx_BS_hasPart q8 p2 p3 X2) (fun (r10 : Int32) (X3 : xh_T) =>
  if r10 = 0 then
  some (0, X3)
  else xh_b (fx_SS_scriptAt p1 X3) (fun (q16 : Nat) (X4 : xh_T) =>
  xh_b (fx_BS_hash q16 p2 p3 X4) (fun (r17 : Int32) (X5 : xh_T) =>
  some (r17, X5))))))
set_option maxRecDepth 100000 in
set_option maxHeartbeats 4000000 in
theorem cx_SS_digest (l : Launch) (D : va_G) (G : xh_G) (hD : xh_D G) (p1 : Int32) (p2 : Int32) (p3 : Int32) (X : xh_T) : xh_M xh_Qi l D G y_SS_digest b_SS_digest 4 (some .int) rm_SS_digest [.ref (G.1 0), .int p1, .int p2, .int p3] X (fx_SS_digest p1 p2 p3 X) := by
  refine xh_enter (ls := [(0, .ref (G.1 0)), (1, .int p1), (2, .int p2), (3, .int p3)]) hD (by decide +kernel) (Nat.le_of_ble_eq_true rfl) rfl ?_
  intro p e s m args below meth c hz hr hlk
  unfold fx_SS_digest
  refine jr_iload_n hz d_SS_digest_0 rfl 1 rfl ?_
  refine jr_callSi (As := [.int p1]) (st := []) hz (cx_SS_isFed l D G hz.2.2.2.2.2.2.1 p1 X) ws_SS_60 ⟨rfl, rfl, Nat.le_of_ble_eq_true rfl, Nat.le_of_ble_eq_true rfl⟩ ⟨Nat.zero_le _, Nat.zero_le _⟩ rfl rfl (Nat.le_of_ble_eq_true rfl) d_SS_digest_1 (fun r2 X1 => ?_)
  refine jr_if_eq (tgt := 20) hz d_SS_digest_4 (by decide) ?_ ?_
  · refine jr_iconst (v := 0) hz d_SS_digest_20 (by decide) ?_
    exact jr_iret hz hr hlk d_SS_digest_21
  · refine jr_aload_n hz d_SS_digest_7 rfl 0 rfl ?_
    refine jr_iload_n hz d_SS_digest_8 rfl 1 rfl ?_
    refine jr_callVr (As := [.int p1]) (a := 0) (ci := 6) (st := []) hz (cx_SS_scriptAt l D G hz.2.2.2.2.2.2.1 p1 X1) (fun _ _ => ⟨lq_0, _, ly_0⟩) wv_SS_64 ⟨rfl, rfl, Nat.le_of_ble_eq_true rfl, Nat.le_of_ble_eq_true rfl⟩ ⟨Nat.zero_le _, Nat.zero_le _⟩ rfl rfl (Nat.le_of_ble_eq_true rfl) d_SS_digest_9 (fun q8 X2 => ?_)
    refine jr_iload_n hz d_SS_digest_12 rfl 2 rfl ?_
    refine jr_iload_n hz d_SS_digest_13 rfl 3 rfl ?_
    refine jr_callVi (As := [.int p2, .int p3]) (a := q8) (ci := 0) (st := []) hz (cx_BS_hasPart l D G hz.2.2.2.2.2.2.1 q8 p2 p3 X2) (fun z h => sp_bs_v (xh_k_t h)) wv_SS_82 ⟨rfl, rfl, Nat.le_of_ble_eq_true rfl, Nat.le_of_ble_eq_true rfl⟩ ⟨Nat.zero_le _, Nat.zero_le _⟩ rfl rfl (Nat.le_of_ble_eq_true rfl) d_SS_digest_14 (fun r10 X3 => ?_)
    refine jr_if_ne (tgt := 22) hz d_SS_digest_17 (by decide) ?_ ?_
    · refine jr_aload_n hz d_SS_digest_22 rfl 0 rfl ?_
      refine jr_iload_n hz d_SS_digest_23 rfl 1 rfl ?_
      refine jr_callVr (As := [.int p1]) (a := 0) (ci := 6) (st := []) hz (cx_SS_scriptAt l D G hz.2.2.2.2.2.2.1 p1 X3) (fun _ _ => ⟨lq_0, _, ly_0⟩) wv_SS_64 ⟨rfl, rfl, Nat.le_of_ble_eq_true rfl, Nat.le_of_ble_eq_true rfl⟩ ⟨Nat.zero_le _, Nat.zero_le _⟩ rfl rfl (Nat.le_of_ble_eq_true rfl) d_SS_digest_24 (fun q16 X4 => ?_)
      refine jr_iload_n hz d_SS_digest_27 rfl 2 rfl ?_
      refine jr_iload_n hz d_SS_digest_28 rfl 3 rfl ?_
      refine jr_callVi (As := [.int p2, .int p3]) (a := q16) (ci := 0) (st := []) hz (cx_BS_hash l D G hz.2.2.2.2.2.2.1 q16 p2 p3 X4) (fun z h => sp_bs_v (xh_k_t h)) wv_SS_85 ⟨rfl, rfl, Nat.le_of_ble_eq_true rfl, Nat.le_of_ble_eq_true rfl⟩ ⟨Nat.zero_le _, Nat.zero_le _⟩ rfl rfl (Nat.le_of_ble_eq_true rfl) d_SS_digest_29 (fun r17 X5 => ?_)
      exact jr_iret hz hr hlk d_SS_digest_32
    · refine jr_iconst (v := 0) hz d_SS_digest_20 (by decide) ?_
      exact jr_iret hz hr hlk d_SS_digest_21
theorem d_SS_truthFault_0 : decode b_SS_truthFault 0 = .ok (.aload_n 0, 1) := by decide +kernel
theorem d_SS_truthFault_1 : decode b_SS_truthFault 1 = .ok (.getfield 34, 3) := by decide +kernel
theorem d_SS_truthFault_4 : decode b_SS_truthFault 4 = .ok (.iconst 0, 1) := by decide +kernel
theorem d_SS_truthFault_5 : decode b_SS_truthFault 5 = .ok (.invokevirtual 120, 3) := by decide +kernel
theorem d_SS_truthFault_8 : decode b_SS_truthFault 8 = .ok (.invokevirtual 127, 3) := by decide +kernel
theorem d_SS_truthFault_11 : decode b_SS_truthFault 11 = .ok (.ifCond .eq 7, 3) := by decide +kernel
theorem d_SS_truthFault_14 : decode b_SS_truthFault 14 = .ok (.iconst 0, 1) := by decide +kernel
theorem d_SS_truthFault_15 : decode b_SS_truthFault 15 = .ok (.goto 5, 3) := by decide +kernel
theorem d_SS_truthFault_18 : decode b_SS_truthFault 18 = .ok (.bipush 16, 2) := by decide +kernel
theorem d_SS_truthFault_20 : decode b_SS_truthFault 20 = .ok (.ireturn, 1) := by decide +kernel
theorem wf_SS_34 : xh_F "SpendScript" 34 6 4 := ⟨R_SS, F_SS, 10, rfl, by decide, iw_SS, (sp_tb (List.mem_of_getElem? (i := 132) (by decide +kernel)))⟩
theorem wv_SS_120 : xh_V "SpendScript" 120 1 y_IS_item b_IS_item 2 (some (.object "SpendScript$ByteString")) 1 := ⟨(sp_tb (List.mem_of_getElem? (i := 300) (by decide +kernel))), (sp_tb (List.mem_of_getElem? (i := 4) (by decide +kernel))), (sp_tb (List.mem_of_getElem? (i := 480) (by decide +kernel))), ⟨by decide +kernel, by decide +kernel, by decide +kernel⟩, (sp_tb (List.mem_of_getElem? (i := 298) (by decide +kernel))), (sp_tb (List.mem_of_getElem? (i := 299) (by decide +kernel))), F_IS, 3, rfl⟩
theorem wv_SS_127 : xh_V "SpendScript" 127 0 y_BS_isTrue b_BS_isTrue 3 (some .boolean) 0 := ⟨(sp_tb (List.mem_of_getElem? (i := 304) (by decide +kernel))), (sp_tb (List.mem_of_getElem? (i := 2) (by decide +kernel))), (sp_tb (List.mem_of_getElem? (i := 481) (by decide +kernel))), ⟨by decide +kernel, by decide +kernel, by decide +kernel⟩, (sp_tb (List.mem_of_getElem? (i := 302) (by decide +kernel))), (sp_tb (List.mem_of_getElem? (i := 303) (by decide +kernel))), F_BS, 2, rfl⟩
abbrev rm_SS_truthFault : Room := { frames := 1, cells := 0, slots := 0, locals := 22 }
def fx_SS_truthFault (X : xh_T) : Option (Int32 × xh_T) :=
  xh_b (fx_IS_item 10 0 X) (fun (q4 : Nat) (X1 : xh_T) =>
  xh_b (fx_BS_isTrue q4 X1) (fun (r6 : Int32) (X2 : xh_T) =>
  if r6 = 0 then
  some (16, X2)
  else some (0, X2)))
set_option maxRecDepth 100000 in
set_option maxHeartbeats 4000000 in
theorem cx_SS_truthFault (l : Launch) (D : va_G) (G : xh_G) (hD : xh_D G) (X : xh_T) : xh_M xh_Qi l D G y_SS_truthFault b_SS_truthFault 1 (some .int) rm_SS_truthFault [.ref (G.1 0)] X (fx_SS_truthFault X) := by
  refine xh_enter (ls := [(0, .ref (G.1 0))]) hD (by decide +kernel) (Nat.le_of_ble_eq_true rfl) rfl ?_
  intro p e s m args below meth c hz hr hlk
  unfold fx_SS_truthFault
  refine jr_aload_n hz d_SS_truthFault_0 rfl 0 rfl ?_
  refine jr_getr (j := 4) (t := 10) hz lq_0 ly_0 rfl wf_SS_34 d_SS_truthFault_1 ?_
  refine jr_iconst (v := 0) hz d_SS_truthFault_4 (by decide) ?_
  refine jr_callVr (As := [.int 0]) (a := 10) (ci := 1) (st := []) hz (cx_IS_item l D G hz.2.2.2.2.2.2.1 10 0 X) (fun z h => sp_is_v (xh_k_t h)) wv_SS_120 ⟨rfl, rfl, Nat.le_of_ble_eq_true rfl, Nat.le_of_ble_eq_true rfl⟩ ⟨Nat.zero_le _, Nat.zero_le _⟩ rfl rfl (Nat.le_of_ble_eq_true rfl) d_SS_truthFault_5 (fun q4 X1 => ?_)
  refine jr_callVi (As := []) (a := q4) (ci := 0) (st := []) hz (cx_BS_isTrue l D G hz.2.2.2.2.2.2.1 q4 X1) (fun z h => sp_bs_v (xh_k_t h)) wv_SS_127 ⟨rfl, rfl, Nat.le_of_ble_eq_true rfl, Nat.le_of_ble_eq_true rfl⟩ ⟨Nat.zero_le _, Nat.zero_le _⟩ rfl rfl (Nat.le_of_ble_eq_true rfl) d_SS_truthFault_8 (fun r6 X2 => ?_)
  refine jr_if_eq (tgt := 18) hz d_SS_truthFault_11 (by decide) ?_ ?_
  · refine jr_bipush (v := 16) hz d_SS_truthFault_18 (by decide) ?_
    exact jr_iret hz hr hlk d_SS_truthFault_20
  · refine jr_iconst (v := 0) hz d_SS_truthFault_14 (by decide) ?_
    refine jr_goto (tgt := 20) hz d_SS_truthFault_15 (by decide) ?_
    exact jr_iret hz hr hlk d_SS_truthFault_20
theorem d_SS_locksByDigest_0 : decode b_SS_locksByDigest 0 = .ok (.aload_n 0, 1) := by decide +kernel
theorem d_SS_locksByDigest_1 : decode b_SS_locksByDigest 1 = .ok (.getfield 18, 3) := by decide +kernel
theorem d_SS_locksByDigest_4 : decode b_SS_locksByDigest 4 = .ok (.invokevirtual 71, 3) := by decide +kernel
theorem d_SS_locksByDigest_7 : decode b_SS_locksByDigest 7 = .ok (.bipush 7, 2) := by decide +kernel
theorem d_SS_locksByDigest_9 : decode b_SS_locksByDigest 9 = .ok (.if_icmp .ne 48, 3) := by decide +kernel
theorem d_SS_locksByDigest_12 : decode b_SS_locksByDigest 12 = .ok (.aload_n 0, 1) := by decide +kernel
theorem d_SS_locksByDigest_13 : decode b_SS_locksByDigest 13 = .ok (.getfield 18, 3) := by decide +kernel
theorem d_SS_locksByDigest_16 : decode b_SS_locksByDigest 16 = .ok (.iconst 0, 1) := by decide +kernel
theorem d_SS_locksByDigest_17 : decode b_SS_locksByDigest 17 = .ok (.invokevirtual 123, 3) := by decide +kernel
theorem d_SS_locksByDigest_20 : decode b_SS_locksByDigest 20 = .ok (.sipush 169, 3) := by decide +kernel
theorem d_SS_locksByDigest_23 : decode b_SS_locksByDigest 23 = .ok (.if_icmp .ne 34, 3) := by decide +kernel
theorem d_SS_locksByDigest_26 : decode b_SS_locksByDigest 26 = .ok (.aload_n 0, 1) := by decide +kernel
theorem d_SS_locksByDigest_27 : decode b_SS_locksByDigest 27 = .ok (.getfield 18, 3) := by decide +kernel
theorem d_SS_locksByDigest_30 : decode b_SS_locksByDigest 30 = .ok (.iconst 1, 1) := by decide +kernel
theorem d_SS_locksByDigest_31 : decode b_SS_locksByDigest 31 = .ok (.invokevirtual 123, 3) := by decide +kernel
theorem d_SS_locksByDigest_34 : decode b_SS_locksByDigest 34 = .ok (.iconst 4, 1) := by decide +kernel
theorem d_SS_locksByDigest_35 : decode b_SS_locksByDigest 35 = .ok (.if_icmp .ne 22, 3) := by decide +kernel
theorem d_SS_locksByDigest_38 : decode b_SS_locksByDigest 38 = .ok (.aload_n 0, 1) := by decide +kernel
theorem d_SS_locksByDigest_39 : decode b_SS_locksByDigest 39 = .ok (.getfield 18, 3) := by decide +kernel
theorem d_SS_locksByDigest_42 : decode b_SS_locksByDigest 42 = .ok (.bipush 6, 2) := by decide +kernel
theorem d_SS_locksByDigest_44 : decode b_SS_locksByDigest 44 = .ok (.invokevirtual 123, 3) := by decide +kernel
theorem d_SS_locksByDigest_47 : decode b_SS_locksByDigest 47 = .ok (.sipush 135, 3) := by decide +kernel
theorem d_SS_locksByDigest_50 : decode b_SS_locksByDigest 50 = .ok (.if_icmp .ne 7, 3) := by decide +kernel
theorem d_SS_locksByDigest_53 : decode b_SS_locksByDigest 53 = .ok (.iconst 1, 1) := by decide +kernel
theorem d_SS_locksByDigest_54 : decode b_SS_locksByDigest 54 = .ok (.goto 4, 3) := by decide +kernel
theorem d_SS_locksByDigest_57 : decode b_SS_locksByDigest 57 = .ok (.iconst 0, 1) := by decide +kernel
theorem d_SS_locksByDigest_58 : decode b_SS_locksByDigest 58 = .ok (.ireturn, 1) := by decide +kernel
theorem wv_SS_123 : xh_V "SpendScript" 123 0 y_BS_byteAt b_BS_byteAt 2 (some .int) 1 := ⟨(sp_tb (List.mem_of_getElem? (i := 234) (by decide +kernel))), (sp_tb (List.mem_of_getElem? (i := 2) (by decide +kernel))), (sp_tb (List.mem_of_getElem? (i := 486) (by decide +kernel))), ⟨by decide +kernel, by decide +kernel, by decide +kernel⟩, (sp_tb (List.mem_of_getElem? (i := 232) (by decide +kernel))), (sp_tb (List.mem_of_getElem? (i := 233) (by decide +kernel))), F_BS, 2, rfl⟩
abbrev rm_SS_locksByDigest : Room := { frames := 1, cells := 0, slots := 0, locals := 21 }
def fx_SS_locksByDigest (X : xh_T) : Option (Int32 × xh_T) :=
  xh_b (fx_BS_size 3 X) (fun (r1 : Int32) (X1 : xh_T) =>
  if r1 = 7 then
  xh_b (fx_BS_byteAt 3 0 X1) (fun (r5 : Int32) (X2 : xh_T) =>
  if r5 = 169 then
  xh_b (fx_BS_byteAt 3 1 X2) (fun (r9 : Int32) (X3 : xh_T) =>
  if r9 = 4 then
  xh_b (fx_BS_byteAt 3 6 X3) (fun (r13 : Int32) (X4 : xh_T) =>
  if r13 = 135 then
  some (1, X4)
  else some (0, X4))
  else some (0, X3))
  else some (0, X2))
  else some (0, X1))
set_option maxRecDepth 100000 in
set_option maxHeartbeats 4000000 in
theorem cx_SS_locksByDigest (l : Launch) (D : va_G) (G : xh_G) (hD : xh_D G) (X : xh_T) : xh_M xh_Qi l D G y_SS_locksByDigest b_SS_locksByDigest 1 (some .boolean) rm_SS_locksByDigest [.ref (G.1 0)] X (fx_SS_locksByDigest X) := by
  refine xh_enter (ls := [(0, .ref (G.1 0))]) hD (by decide +kernel) (Nat.le_of_ble_eq_true rfl) rfl ?_
  intro p e s m args below meth c hz hr hlk
  unfold fx_SS_locksByDigest
  refine jr_aload_n hz d_SS_locksByDigest_0 rfl 0 rfl ?_
  refine jr_getr (j := 1) (t := 3) hz lq_0 ly_0 rfl wf_SS_18 d_SS_locksByDigest_1 ?_
  refine jr_callVi (As := []) (a := 3) (ci := 0) (st := []) hz (cx_BS_size l D G hz.2.2.2.2.2.2.1 3 X) (fun z h => sp_bs_v (xh_k_t h)) wv_SS_71 ⟨rfl, rfl, Nat.le_of_ble_eq_true rfl, Nat.le_of_ble_eq_true rfl⟩ ⟨Nat.zero_le _, Nat.zero_le _⟩ rfl rfl (Nat.le_of_ble_eq_true rfl) d_SS_locksByDigest_4 (fun r1 X1 => ?_)
  refine jr_bipush (v := 7) hz d_SS_locksByDigest_7 (by decide) ?_
  refine jr_icmp_ne (tgt := 57) hz d_SS_locksByDigest_9 (by decide) ?_ ?_
  · refine jr_iconst (v := 0) hz d_SS_locksByDigest_57 (by decide) ?_
    exact jr_zret hz hr hlk (by decide) d_SS_locksByDigest_58
  · refine jr_aload_n hz d_SS_locksByDigest_12 rfl 0 rfl ?_
    refine jr_getr (j := 1) (t := 3) hz lq_0 ly_0 rfl wf_SS_18 d_SS_locksByDigest_13 ?_
    refine jr_iconst (v := 0) hz d_SS_locksByDigest_16 (by decide) ?_
    refine jr_callVi (As := [.int 0]) (a := 3) (ci := 0) (st := []) hz (cx_BS_byteAt l D G hz.2.2.2.2.2.2.1 3 0 X1) (fun z h => sp_bs_v (xh_k_t h)) wv_SS_123 ⟨rfl, rfl, Nat.le_of_ble_eq_true rfl, Nat.le_of_ble_eq_true rfl⟩ ⟨Nat.zero_le _, Nat.zero_le _⟩ rfl rfl (Nat.le_of_ble_eq_true rfl) d_SS_locksByDigest_17 (fun r5 X2 => ?_)
    refine jr_sipush (v := 169) hz d_SS_locksByDigest_20 (by decide) ?_
    refine jr_icmp_ne (tgt := 57) hz d_SS_locksByDigest_23 (by decide) ?_ ?_
    · refine jr_iconst (v := 0) hz d_SS_locksByDigest_57 (by decide) ?_
      exact jr_zret hz hr hlk (by decide) d_SS_locksByDigest_58
    · refine jr_aload_n hz d_SS_locksByDigest_26 rfl 0 rfl ?_
      refine jr_getr (j := 1) (t := 3) hz lq_0 ly_0 rfl wf_SS_18 d_SS_locksByDigest_27 ?_
      refine jr_iconst (v := 1) hz d_SS_locksByDigest_30 (by decide) ?_
      refine jr_callVi (As := [.int 1]) (a := 3) (ci := 0) (st := []) hz (cx_BS_byteAt l D G hz.2.2.2.2.2.2.1 3 1 X2) (fun z h => sp_bs_v (xh_k_t h)) wv_SS_123 ⟨rfl, rfl, Nat.le_of_ble_eq_true rfl, Nat.le_of_ble_eq_true rfl⟩ ⟨Nat.zero_le _, Nat.zero_le _⟩ rfl rfl (Nat.le_of_ble_eq_true rfl) d_SS_locksByDigest_31 (fun r9 X3 => ?_)
      refine jr_iconst (v := 4) hz d_SS_locksByDigest_34 (by decide) ?_
      refine jr_icmp_ne (tgt := 57) hz d_SS_locksByDigest_35 (by decide) ?_ ?_
      · refine jr_iconst (v := 0) hz d_SS_locksByDigest_57 (by decide) ?_
        exact jr_zret hz hr hlk (by decide) d_SS_locksByDigest_58
      · refine jr_aload_n hz d_SS_locksByDigest_38 rfl 0 rfl ?_
        refine jr_getr (j := 1) (t := 3) hz lq_0 ly_0 rfl wf_SS_18 d_SS_locksByDigest_39 ?_
        refine jr_bipush (v := 6) hz d_SS_locksByDigest_42 (by decide) ?_
        refine jr_callVi (As := [.int 6]) (a := 3) (ci := 0) (st := []) hz (cx_BS_byteAt l D G hz.2.2.2.2.2.2.1 3 6 X3) (fun z h => sp_bs_v (xh_k_t h)) wv_SS_123 ⟨rfl, rfl, Nat.le_of_ble_eq_true rfl, Nat.le_of_ble_eq_true rfl⟩ ⟨Nat.zero_le _, Nat.zero_le _⟩ rfl rfl (Nat.le_of_ble_eq_true rfl) d_SS_locksByDigest_44 (fun r13 X4 => ?_)
        refine jr_sipush (v := 135) hz d_SS_locksByDigest_47 (by decide) ?_
        refine jr_icmp_ne (tgt := 57) hz d_SS_locksByDigest_50 (by decide) ?_ ?_
        · refine jr_iconst (v := 0) hz d_SS_locksByDigest_57 (by decide) ?_
          exact jr_zret hz hr hlk (by decide) d_SS_locksByDigest_58
        · refine jr_iconst (v := 1) hz d_SS_locksByDigest_53 (by decide) ?_
          refine jr_goto (tgt := 58) hz d_SS_locksByDigest_54 (by decide) ?_
          exact jr_zret hz hr hlk (by decide) d_SS_locksByDigest_58
theorem d_SS_takeScriptFromStack_0 : decode b_SS_takeScriptFromStack 0 = .ok (.aload_n 0, 1) := by decide +kernel
theorem d_SS_takeScriptFromStack_1 : decode b_SS_takeScriptFromStack 1 = .ok (.getfield 34, 3) := by decide +kernel
theorem d_SS_takeScriptFromStack_4 : decode b_SS_takeScriptFromStack 4 = .ok (.aload_n 0, 1) := by decide +kernel
theorem d_SS_takeScriptFromStack_5 : decode b_SS_takeScriptFromStack 5 = .ok (.getfield 38, 3) := by decide +kernel
theorem d_SS_takeScriptFromStack_8 : decode b_SS_takeScriptFromStack 8 = .ok (.invokevirtual 96, 3) := by decide +kernel
theorem d_SS_takeScriptFromStack_11 : decode b_SS_takeScriptFromStack 11 = .ok (.aload_n 0, 1) := by decide +kernel
theorem d_SS_takeScriptFromStack_12 : decode b_SS_takeScriptFromStack 12 = .ok (.getfield 21, 3) := by decide +kernel
theorem d_SS_takeScriptFromStack_15 : decode b_SS_takeScriptFromStack 15 = .ok (.aload_n 0, 1) := by decide +kernel
theorem d_SS_takeScriptFromStack_16 : decode b_SS_takeScriptFromStack 16 = .ok (.getfield 34, 3) := by decide +kernel
theorem d_SS_takeScriptFromStack_19 : decode b_SS_takeScriptFromStack 19 = .ok (.iconst 0, 1) := by decide +kernel
theorem d_SS_takeScriptFromStack_20 : decode b_SS_takeScriptFromStack 20 = .ok (.invokevirtual 120, 3) := by decide +kernel
theorem d_SS_takeScriptFromStack_23 : decode b_SS_takeScriptFromStack 23 = .ok (.invokevirtual 132, 3) := by decide +kernel
theorem d_SS_takeScriptFromStack_26 : decode b_SS_takeScriptFromStack 26 = .ok (.aload_n 0, 1) := by decide +kernel
theorem d_SS_takeScriptFromStack_27 : decode b_SS_takeScriptFromStack 27 = .ok (.getfield 34, 3) := by decide +kernel
theorem d_SS_takeScriptFromStack_30 : decode b_SS_takeScriptFromStack 30 = .ok (.iconst 1, 1) := by decide +kernel
theorem d_SS_takeScriptFromStack_31 : decode b_SS_takeScriptFromStack 31 = .ok (.invokevirtual 135, 3) := by decide +kernel
theorem d_SS_takeScriptFromStack_34 : decode b_SS_takeScriptFromStack 34 = .ok (.return_, 1) := by decide +kernel
theorem wf_SS_38 : xh_F "SpendScript" 38 6 5 := ⟨R_SS, F_SS, 10, rfl, by decide, iw_SS, (sp_tb (List.mem_of_getElem? (i := 133) (by decide +kernel)))⟩
theorem wv_SS_96 : xh_V "SpendScript" 96 1 y_IS_becomeCopyOf b_IS_becomeCopyOf 3 none 1 := ⟨(sp_tb (List.mem_of_getElem? (i := 475) (by decide +kernel))), (sp_tb (List.mem_of_getElem? (i := 4) (by decide +kernel))), (sp_tb (List.mem_of_getElem? (i := 472) (by decide +kernel))), ⟨by decide +kernel, by decide +kernel, by decide +kernel⟩, (sp_tb (List.mem_of_getElem? (i := 473) (by decide +kernel))), (sp_tb (List.mem_of_getElem? (i := 474) (by decide +kernel))), F_IS, 3, rfl⟩
theorem wf_SS_21 : xh_F "SpendScript" 21 6 2 := ⟨R_SS, F_SS, 10, rfl, by decide, iw_SS, (sp_tb (List.mem_of_getElem? (i := 130) (by decide +kernel)))⟩
theorem wv_SS_132 : xh_V "SpendScript" 132 0 y_BS_becomeCopyOf b_BS_becomeCopyOf 2 none 1 := ⟨(sp_tb (List.mem_of_getElem? (i := 383) (by decide +kernel))), (sp_tb (List.mem_of_getElem? (i := 2) (by decide +kernel))), (sp_tb (List.mem_of_getElem? (i := 491) (by decide +kernel))), ⟨by decide +kernel, by decide +kernel, by decide +kernel⟩, (sp_tb (List.mem_of_getElem? (i := 381) (by decide +kernel))), (sp_tb (List.mem_of_getElem? (i := 382) (by decide +kernel))), F_BS, 2, rfl⟩
theorem wv_SS_135 : xh_V "SpendScript" 135 1 y_IS_drop b_IS_drop 2 none 1 := ⟨(sp_tb (List.mem_of_getElem? (i := 308) (by decide +kernel))), (sp_tb (List.mem_of_getElem? (i := 4) (by decide +kernel))), (sp_tb (List.mem_of_getElem? (i := 492) (by decide +kernel))), ⟨by decide +kernel, by decide +kernel, by decide +kernel⟩, (sp_tb (List.mem_of_getElem? (i := 306) (by decide +kernel))), (sp_tb (List.mem_of_getElem? (i := 307) (by decide +kernel))), F_IS, 3, rfl⟩
abbrev rm_SS_takeScriptFromStack : Room := { frames := 3, cells := 0, slots := 0, locals := 123 }
def fx_SS_takeScriptFromStack (X : xh_T) : Option (Unit × xh_T) :=
  xh_b (fx_IS_becomeCopyOf 10 74 X) (fun (_ : Unit) (X1 : xh_T) =>
  xh_b (fx_IS_item 10 0 X1) (fun (q8 : Nat) (X2 : xh_T) =>
  xh_b (fx_BS_becomeCopyOf 5 q8 X2) (fun (_ : Unit) (X3 : xh_T) =>
  xh_b (fx_IS_drop 10 1 X3) (fun (_ : Unit) (X4 : xh_T) =>
  some ((), X4)))))
set_option maxRecDepth 100000 in
set_option maxHeartbeats 4000000 in
theorem cx_SS_takeScriptFromStack (l : Launch) (D : va_G) (G : xh_G) (hD : xh_D G) (X : xh_T) : xh_M xh_Qv l D G y_SS_takeScriptFromStack b_SS_takeScriptFromStack 1 none rm_SS_takeScriptFromStack [.ref (G.1 0)] X (fx_SS_takeScriptFromStack X) := by
  refine xh_enter (ls := [(0, .ref (G.1 0))]) hD (by decide +kernel) (Nat.le_of_ble_eq_true rfl) rfl ?_
  intro p e s m args below meth c hz hr hlk
  unfold fx_SS_takeScriptFromStack
  refine jr_aload_n hz d_SS_takeScriptFromStack_0 rfl 0 rfl ?_
  refine jr_getr (j := 4) (t := 10) hz lq_0 ly_0 rfl wf_SS_34 d_SS_takeScriptFromStack_1 ?_
  refine jr_aload_n hz d_SS_takeScriptFromStack_4 rfl 0 rfl ?_
  refine jr_getr (j := 5) (t := 74) hz lq_0 ly_0 rfl wf_SS_38 d_SS_takeScriptFromStack_5 ?_
  refine jr_callVv (As := [.ref (G.1 74)]) (a := 10) (ci := 1) (st := []) hz (cx_IS_becomeCopyOf l D G hz.2.2.2.2.2.2.1 10 74 X) (fun z h => sp_is_v (xh_k_t h)) wv_SS_96 ⟨rfl, rfl, Nat.le_of_ble_eq_true rfl, Nat.le_of_ble_eq_true rfl⟩ ⟨Nat.zero_le _, Nat.zero_le _⟩ rfl rfl (Nat.le_of_ble_eq_true rfl) d_SS_takeScriptFromStack_8 (fun _ X1 => ?_)
  refine jr_aload_n hz d_SS_takeScriptFromStack_11 rfl 0 rfl ?_
  refine jr_getr (j := 2) (t := 5) hz lq_0 ly_0 rfl wf_SS_21 d_SS_takeScriptFromStack_12 ?_
  refine jr_aload_n hz d_SS_takeScriptFromStack_15 rfl 0 rfl ?_
  refine jr_getr (j := 4) (t := 10) hz lq_0 ly_0 rfl wf_SS_34 d_SS_takeScriptFromStack_16 ?_
  refine jr_iconst (v := 0) hz d_SS_takeScriptFromStack_19 (by decide) ?_
  refine jr_callVr (As := [.int 0]) (a := 10) (ci := 1) (st := [.ref (G.1 5)]) hz (cx_IS_item l D G hz.2.2.2.2.2.2.1 10 0 X1) (fun z h => sp_is_v (xh_k_t h)) wv_SS_120 ⟨rfl, rfl, Nat.le_of_ble_eq_true rfl, Nat.le_of_ble_eq_true rfl⟩ ⟨Nat.zero_le _, Nat.zero_le _⟩ rfl rfl (Nat.le_of_ble_eq_true rfl) d_SS_takeScriptFromStack_20 (fun q8 X2 => ?_)
  refine jr_callVv (As := [.ref (G.1 q8)]) (a := 5) (ci := 0) (st := []) hz (cx_BS_becomeCopyOf l D G hz.2.2.2.2.2.2.1 5 q8 X2) (fun z h => sp_bs_v (xh_k_t h)) wv_SS_132 ⟨rfl, rfl, Nat.le_of_ble_eq_true rfl, Nat.le_of_ble_eq_true rfl⟩ ⟨Nat.zero_le _, Nat.zero_le _⟩ rfl rfl (Nat.le_of_ble_eq_true rfl) d_SS_takeScriptFromStack_23 (fun _ X3 => ?_)
  refine jr_aload_n hz d_SS_takeScriptFromStack_26 rfl 0 rfl ?_
  refine jr_getr (j := 4) (t := 10) hz lq_0 ly_0 rfl wf_SS_34 d_SS_takeScriptFromStack_27 ?_
  refine jr_iconst (v := 1) hz d_SS_takeScriptFromStack_30 (by decide) ?_
  refine jr_callVv (As := [.int 1]) (a := 10) (ci := 1) (st := []) hz (cx_IS_drop l D G hz.2.2.2.2.2.2.1 10 1 X3) (fun z h => sp_is_v (xh_k_t h)) wv_SS_135 ⟨rfl, rfl, Nat.le_of_ble_eq_true rfl, Nat.le_of_ble_eq_true rfl⟩ ⟨Nat.zero_le _, Nat.zero_le _⟩ rfl rfl (Nat.le_of_ble_eq_true rfl) d_SS_takeScriptFromStack_31 (fun _ X4 => ?_)
  exact jr_vret hz hr hlk d_SS_takeScriptFromStack_34
theorem d_SS_spend_0 : decode b_SS_spend 0 = .ok (.aload_n 0, 1) := by decide +kernel
theorem d_SS_spend_1 : decode b_SS_spend 1 = .ok (.getfield 46, 3) := by decide +kernel
theorem d_SS_spend_4 : decode b_SS_spend 4 = .ok (.invokevirtual 89, 3) := by decide +kernel
theorem d_SS_spend_7 : decode b_SS_spend 7 = .ok (.aload_n 0, 1) := by decide +kernel
theorem d_SS_spend_8 : decode b_SS_spend 8 = .ok (.iconst 0, 1) := by decide +kernel
theorem d_SS_spend_9 : decode b_SS_spend 9 = .ok (.putfield 54, 3) := by decide +kernel
theorem d_SS_spend_12 : decode b_SS_spend 12 = .ok (.aload_n 0, 1) := by decide +kernel
theorem d_SS_spend_13 : decode b_SS_spend 13 = .ok (.getfield 46, 3) := by decide +kernel
theorem d_SS_spend_16 : decode b_SS_spend 16 = .ok (.aload_n 0, 1) := by decide +kernel
theorem d_SS_spend_17 : decode b_SS_spend 17 = .ok (.getfield 14, 3) := by decide +kernel
theorem d_SS_spend_20 : decode b_SS_spend 20 = .ok (.iconst 1, 1) := by decide +kernel
theorem d_SS_spend_21 : decode b_SS_spend 21 = .ok (.invokevirtual 92, 3) := by decide +kernel
theorem d_SS_spend_24 : decode b_SS_spend 24 = .ok (.istore_n 1, 1) := by decide +kernel
theorem d_SS_spend_25 : decode b_SS_spend 25 = .ok (.iload_n 1, 1) := by decide +kernel
theorem d_SS_spend_26 : decode b_SS_spend 26 = .ok (.ifCond .ne 32, 3) := by decide +kernel
theorem d_SS_spend_29 : decode b_SS_spend 29 = .ok (.aload_n 0, 1) := by decide +kernel
theorem d_SS_spend_30 : decode b_SS_spend 30 = .ok (.getfield 38, 3) := by decide +kernel
theorem d_SS_spend_33 : decode b_SS_spend 33 = .ok (.aload_n 0, 1) := by decide +kernel
theorem d_SS_spend_34 : decode b_SS_spend 34 = .ok (.getfield 34, 3) := by decide +kernel
theorem d_SS_spend_37 : decode b_SS_spend 37 = .ok (.invokevirtual 96, 3) := by decide +kernel
theorem d_SS_spend_40 : decode b_SS_spend 40 = .ok (.aload_n 0, 1) := by decide +kernel
theorem d_SS_spend_41 : decode b_SS_spend 41 = .ok (.iconst 1, 1) := by decide +kernel
theorem d_SS_spend_42 : decode b_SS_spend 42 = .ok (.putfield 54, 3) := by decide +kernel
theorem d_SS_spend_45 : decode b_SS_spend 45 = .ok (.aload_n 0, 1) := by decide +kernel
theorem d_SS_spend_46 : decode b_SS_spend 46 = .ok (.getfield 46, 3) := by decide +kernel
theorem d_SS_spend_49 : decode b_SS_spend 49 = .ok (.aload_n 0, 1) := by decide +kernel
theorem d_SS_spend_50 : decode b_SS_spend 50 = .ok (.getfield 18, 3) := by decide +kernel
theorem d_SS_spend_53 : decode b_SS_spend 53 = .ok (.iconst 0, 1) := by decide +kernel
theorem d_SS_spend_54 : decode b_SS_spend 54 = .ok (.invokevirtual 92, 3) := by decide +kernel
theorem d_SS_spend_57 : decode b_SS_spend 57 = .ok (.istore_n 1, 1) := by decide +kernel
theorem d_SS_spend_58 : decode b_SS_spend 58 = .ok (.iload_n 1, 1) := by decide +kernel
theorem d_SS_spend_59 : decode b_SS_spend 59 = .ok (.ifCond .ne 8, 3) := by decide +kernel
theorem d_SS_spend_62 : decode b_SS_spend 62 = .ok (.aload_n 0, 1) := by decide +kernel
theorem d_SS_spend_63 : decode b_SS_spend 63 = .ok (.invokevirtual 100, 3) := by decide +kernel
theorem d_SS_spend_66 : decode b_SS_spend 66 = .ok (.istore_n 1, 1) := by decide +kernel
theorem d_SS_spend_67 : decode b_SS_spend 67 = .ok (.iload_n 1, 1) := by decide +kernel
theorem d_SS_spend_68 : decode b_SS_spend 68 = .ok (.ifCond .ne 41, 3) := by decide +kernel
theorem d_SS_spend_71 : decode b_SS_spend 71 = .ok (.aload_n 0, 1) := by decide +kernel
theorem d_SS_spend_72 : decode b_SS_spend 72 = .ok (.invokevirtual 103, 3) := by decide +kernel
theorem d_SS_spend_75 : decode b_SS_spend 75 = .ok (.ifCond .eq 34, 3) := by decide +kernel
theorem d_SS_spend_78 : decode b_SS_spend 78 = .ok (.aload_n 0, 1) := by decide +kernel
theorem d_SS_spend_79 : decode b_SS_spend 79 = .ok (.invokevirtual 107, 3) := by decide +kernel
theorem d_SS_spend_82 : decode b_SS_spend 82 = .ok (.aload_n 0, 1) := by decide +kernel
theorem d_SS_spend_83 : decode b_SS_spend 83 = .ok (.iconst 2, 1) := by decide +kernel
theorem d_SS_spend_84 : decode b_SS_spend 84 = .ok (.putfield 54, 3) := by decide +kernel
theorem d_SS_spend_87 : decode b_SS_spend 87 = .ok (.aload_n 0, 1) := by decide +kernel
theorem d_SS_spend_88 : decode b_SS_spend 88 = .ok (.getfield 46, 3) := by decide +kernel
theorem d_SS_spend_91 : decode b_SS_spend 91 = .ok (.aload_n 0, 1) := by decide +kernel
theorem d_SS_spend_92 : decode b_SS_spend 92 = .ok (.getfield 21, 3) := by decide +kernel
theorem d_SS_spend_95 : decode b_SS_spend 95 = .ok (.iconst 0, 1) := by decide +kernel
theorem d_SS_spend_96 : decode b_SS_spend 96 = .ok (.invokevirtual 92, 3) := by decide +kernel
theorem d_SS_spend_99 : decode b_SS_spend 99 = .ok (.istore_n 1, 1) := by decide +kernel
theorem d_SS_spend_100 : decode b_SS_spend 100 = .ok (.iload_n 1, 1) := by decide +kernel
theorem d_SS_spend_101 : decode b_SS_spend 101 = .ok (.ifCond .ne 8, 3) := by decide +kernel
theorem d_SS_spend_104 : decode b_SS_spend 104 = .ok (.aload_n 0, 1) := by decide +kernel
theorem d_SS_spend_105 : decode b_SS_spend 105 = .ok (.invokevirtual 100, 3) := by decide +kernel
theorem d_SS_spend_108 : decode b_SS_spend 108 = .ok (.istore_n 1, 1) := by decide +kernel
theorem d_SS_spend_109 : decode b_SS_spend 109 = .ok (.aload_n 0, 1) := by decide +kernel
theorem d_SS_spend_110 : decode b_SS_spend 110 = .ok (.iload_n 1, 1) := by decide +kernel
theorem d_SS_spend_111 : decode b_SS_spend 111 = .ok (.putfield 50, 3) := by decide +kernel
theorem d_SS_spend_114 : decode b_SS_spend 114 = .ok (.aload_n 0, 1) := by decide +kernel
theorem d_SS_spend_115 : decode b_SS_spend 115 = .ok (.iload_n 1, 1) := by decide +kernel
theorem d_SS_spend_116 : decode b_SS_spend 116 = .ok (.ifCond .ne 7, 3) := by decide +kernel
theorem d_SS_spend_119 : decode b_SS_spend 119 = .ok (.iconst (-1), 1) := by decide +kernel
theorem d_SS_spend_120 : decode b_SS_spend 120 = .ok (.goto 10, 3) := by decide +kernel
theorem d_SS_spend_123 : decode b_SS_spend 123 = .ok (.aload_n 0, 1) := by decide +kernel
theorem d_SS_spend_124 : decode b_SS_spend 124 = .ok (.getfield 46, 3) := by decide +kernel
theorem d_SS_spend_127 : decode b_SS_spend 127 = .ok (.invokevirtual 110, 3) := by decide +kernel
theorem d_SS_spend_130 : decode b_SS_spend 130 = .ok (.putfield 57, 3) := by decide +kernel
theorem d_SS_spend_133 : decode b_SS_spend 133 = .ok (.iload_n 1, 1) := by decide +kernel
theorem d_SS_spend_134 : decode b_SS_spend 134 = .ok (.ireturn, 1) := by decide +kernel
theorem wf_SS_46 : xh_F "SpendScript" 46 6 6 := ⟨R_SS, F_SS, 10, rfl, by decide, iw_SS, (sp_tb (List.mem_of_getElem? (i := 134) (by decide +kernel)))⟩
theorem wv_SS_89 : xh_V "SpendScript" 89 4 y_MC_restart b_MC_restart 1 none 0 := ⟨(sp_tb (List.mem_of_getElem? (i := 217) (by decide +kernel))), (sp_tb (List.mem_of_getElem? (i := 5) (by decide +kernel))), (sp_tb (List.mem_of_getElem? (i := 214) (by decide +kernel))), ⟨by decide +kernel, by decide +kernel, by decide +kernel⟩, (sp_tb (List.mem_of_getElem? (i := 215) (by decide +kernel))), (sp_tb (List.mem_of_getElem? (i := 216) (by decide +kernel))), F_MC, 7, rfl⟩
theorem wp_SS_54 : xh_Fp "SpendScript" 54 6 8 := ⟨R_SS, F_SS, 10, t_SS, rfl, by decide, iw_SS, (sp_tb (List.mem_of_getElem? (i := 136) (by decide +kernel))), tk_SS, nk_SS, rfl, rfl⟩
theorem wv_SS_92 : xh_V "SpendScript" 92 4 y_MC_run b_MC_run 7 (some .int) 2 := ⟨(sp_tb (List.mem_of_getElem? (i := 225) (by decide +kernel))), (sp_tb (List.mem_of_getElem? (i := 5) (by decide +kernel))), (sp_tb (List.mem_of_getElem? (i := 222) (by decide +kernel))), ⟨by decide +kernel, by decide +kernel, by decide +kernel⟩, (sp_tb (List.mem_of_getElem? (i := 223) (by decide +kernel))), (sp_tb (List.mem_of_getElem? (i := 224) (by decide +kernel))), F_MC, 7, rfl⟩
theorem wv_SS_100 : xh_V "SpendScript" 100 6 y_SS_truthFault b_SS_truthFault 1 (some .int) 0 := ⟨(sp_tb (List.mem_of_getElem? (i := 479) (by decide +kernel))), (sp_tb (List.mem_of_getElem? (i := 1) (by decide +kernel))), (sp_tb (List.mem_of_getElem? (i := 476) (by decide +kernel))), ⟨by decide +kernel, by decide +kernel, by decide +kernel⟩, (sp_tb (List.mem_of_getElem? (i := 478) (by decide +kernel))), (sp_pv (q := (y_SS_truthFault, 10)) (List.mem_of_getElem? (i := 20) (by decide +kernel))), F_SS, 10, rfl⟩
theorem wv_SS_103 : xh_V "SpendScript" 103 6 y_SS_locksByDigest b_SS_locksByDigest 1 (some .boolean) 0 := ⟨(sp_tb (List.mem_of_getElem? (i := 485) (by decide +kernel))), (sp_tb (List.mem_of_getElem? (i := 1) (by decide +kernel))), (sp_tb (List.mem_of_getElem? (i := 482) (by decide +kernel))), ⟨by decide +kernel, by decide +kernel, by decide +kernel⟩, (sp_tb (List.mem_of_getElem? (i := 484) (by decide +kernel))), (sp_pv (q := (y_SS_locksByDigest, 10)) (List.mem_of_getElem? (i := 21) (by decide +kernel))), F_SS, 10, rfl⟩
theorem wv_SS_107 : xh_V "SpendScript" 107 6 y_SS_takeScriptFromStack b_SS_takeScriptFromStack 1 none 0 := ⟨(sp_tb (List.mem_of_getElem? (i := 490) (by decide +kernel))), (sp_tb (List.mem_of_getElem? (i := 1) (by decide +kernel))), (sp_tb (List.mem_of_getElem? (i := 487) (by decide +kernel))), ⟨by decide +kernel, by decide +kernel, by decide +kernel⟩, (sp_tb (List.mem_of_getElem? (i := 489) (by decide +kernel))), (sp_pv (q := (y_SS_takeScriptFromStack, 10)) (List.mem_of_getElem? (i := 22) (by decide +kernel))), F_SS, 10, rfl⟩
theorem wp_SS_50 : xh_Fp "SpendScript" 50 6 7 := ⟨R_SS, F_SS, 10, t_SS, rfl, by decide, iw_SS, (sp_tb (List.mem_of_getElem? (i := 135) (by decide +kernel))), tk_SS, nk_SS, rfl, rfl⟩
theorem wv_SS_110 : xh_V "SpendScript" 110 4 y_MC_place b_MC_place 1 (some .int) 0 := ⟨(sp_tb (List.mem_of_getElem? (i := 496) (by decide +kernel))), (sp_tb (List.mem_of_getElem? (i := 5) (by decide +kernel))), (sp_tb (List.mem_of_getElem? (i := 493) (by decide +kernel))), ⟨by decide +kernel, by decide +kernel, by decide +kernel⟩, (sp_tb (List.mem_of_getElem? (i := 494) (by decide +kernel))), (sp_tb (List.mem_of_getElem? (i := 495) (by decide +kernel))), F_MC, 7, rfl⟩
theorem wp_SS_57 : xh_Fp "SpendScript" 57 6 9 := ⟨R_SS, F_SS, 10, t_SS, rfl, by decide, iw_SS, (sp_tb (List.mem_of_getElem? (i := 137) (by decide +kernel))), tk_SS, nk_SS, rfl, rfl⟩
abbrev rm_SS_spend : Room := { frames := 7, cells := 0, slots := 0, locals := 226 }
def fx_SS_spend_b109 (a1 : Int32) (X : xh_T) : Option (Int32 × xh_T) :=
  xh_n (xh_i X 0 7 a1) (fun X13 : xh_T =>
  if a1 = 0 then
  xh_n (xh_i X13 0 9 (-1)) (fun X16 : xh_T =>
  some (a1, X16))
  else xh_b (fx_MC_place X13) (fun (r42 : Int32) (X14 : xh_T) =>
  xh_n (xh_i X14 0 9 r42) (fun X15 : xh_T =>
  some (a1, X15))))
set_option maxRecDepth 100000 in
set_option maxHeartbeats 4000000 in
theorem jb_SS_spend_b109 {p : Program} {l : Launch} {e : Env} {s : State} {m : MethodId} {args : Array Value} {below : List Frame} {meth : Method} {c : Code} {D : va_G} {G : xh_G} (hz : xh_C p s m args c b_SS_spend 2 "SpendScript" D G (xh_A G s.heap.size)) (hr : meth.sig.returnType = (some .int)) (hlk : meth.locks = false) (a1 : Int32) (X : xh_T) : xh_J p l e rm_SS_spend s m args below meth c 0 0 D G (xh_A G s.heap.size) 2 (fun r X' => MQ below (xh_Qi D G (xh_A G s.heap.size) r X') args s 0 0 (xh_A G s.heap.size)) 109 [(0, .ref (G.1 0)), (1, .int a1)] [] X (fx_SS_spend_b109 a1 X) := by
  unfold fx_SS_spend_b109
  refine jr_aload_n hz d_SS_spend_109 rfl 0 rfl ?_
  refine jr_iload_n hz d_SS_spend_110 rfl 1 rfl ?_
  refine jr_puti hz lq_0 ly_0 rfl wp_SS_50 d_SS_spend_111 (fun X13 => ?_)
  refine jr_aload_n hz d_SS_spend_114 rfl 0 rfl ?_
  refine jr_iload_n hz d_SS_spend_115 rfl 1 rfl ?_
  refine jr_if_ne (tgt := 123) hz d_SS_spend_116 (by decide) ?_ ?_
  · refine jr_aload_n hz d_SS_spend_123 rfl 0 rfl ?_
    refine jr_getr (j := 6) (t := 138) hz lq_0 ly_0 rfl wf_SS_46 d_SS_spend_124 ?_
    refine jr_callVi (As := []) (a := 138) (ci := 4) (st := [.ref (G.1 0)]) hz (cx_MC_place l D G hz.2.2.2.2.2.2.1 X13) (fun _ _ => ⟨lq_138, _, ly_138⟩) wv_SS_110 ⟨rfl, rfl, Nat.le_of_ble_eq_true rfl, Nat.le_of_ble_eq_true rfl⟩ ⟨Nat.zero_le _, Nat.zero_le _⟩ rfl rfl (Nat.le_of_ble_eq_true rfl) d_SS_spend_127 (fun r42 X14 => ?_)
    refine jr_puti hz lq_0 ly_0 rfl wp_SS_57 d_SS_spend_130 (fun X15 => ?_)
    refine jr_iload_n hz d_SS_spend_133 rfl 1 rfl ?_
    exact jr_iret hz hr hlk d_SS_spend_134
  · refine jr_iconst (v := (-1)) hz d_SS_spend_119 (by decide) ?_
    refine jr_goto (tgt := 130) hz d_SS_spend_120 (by decide) ?_
    refine jr_puti hz lq_0 ly_0 rfl wp_SS_57 d_SS_spend_130 (fun X16 => ?_)
    refine jr_iload_n hz d_SS_spend_133 rfl 1 rfl ?_
    exact jr_iret hz hr hlk d_SS_spend_134
def fx_SS_spend_b67 (a1 : Int32) (X : xh_T) : Option (Int32 × xh_T) :=
  if a1 = 0 then
  xh_b (fx_SS_locksByDigest X) (fun (r25 : Int32) (X8 : xh_T) =>
  if r25 = 0 then
  fx_SS_spend_b109 a1 X8
  else xh_b (fx_SS_takeScriptFromStack X8) (fun (_ : Unit) (X9 : xh_T) =>
  xh_n (xh_i X9 0 8 2) (fun X10 : xh_T =>
  xh_b (fx_MC_run 5 0 X10) (fun (r32 : Int32) (X11 : xh_T) =>
  xh_n r32 (fun v36 : Int32 =>
  if v36 = 0 then
  xh_b (fx_SS_truthFault X11) (fun (r37 : Int32) (X12 : xh_T) =>
  xh_n r37 (fun v41 : Int32 =>
  fx_SS_spend_b109 v41 X12))
  else fx_SS_spend_b109 v36 X11)))))
  else fx_SS_spend_b109 a1 X
set_option maxRecDepth 100000 in
set_option maxHeartbeats 4000000 in
theorem jb_SS_spend_b67 {p : Program} {l : Launch} {e : Env} {s : State} {m : MethodId} {args : Array Value} {below : List Frame} {meth : Method} {c : Code} {D : va_G} {G : xh_G} (hz : xh_C p s m args c b_SS_spend 2 "SpendScript" D G (xh_A G s.heap.size)) (hr : meth.sig.returnType = (some .int)) (hlk : meth.locks = false) (a1 : Int32) (X : xh_T) : xh_J p l e rm_SS_spend s m args below meth c 0 0 D G (xh_A G s.heap.size) 2 (fun r X' => MQ below (xh_Qi D G (xh_A G s.heap.size) r X') args s 0 0 (xh_A G s.heap.size)) 67 [(0, .ref (G.1 0)), (1, .int a1)] [] X (fx_SS_spend_b67 a1 X) := by
  unfold fx_SS_spend_b67
  refine jr_iload_n hz d_SS_spend_67 rfl 1 rfl ?_
  refine jr_if_ne (tgt := 109) hz d_SS_spend_68 (by decide) ?_ ?_
  · refine jr_sub (ls' := [(0, .ref (G.1 0)), (1, .int a1)]) [0, 1] rfl ?_
    exact jb_SS_spend_b109 hz hr hlk a1 X
  · refine jr_aload_n hz d_SS_spend_71 rfl 0 rfl ?_
    refine jr_callVi (As := []) (a := 0) (ci := 6) (st := []) hz (cx_SS_locksByDigest l D G hz.2.2.2.2.2.2.1 X) (fun _ _ => ⟨lq_0, _, ly_0⟩) wv_SS_103 ⟨rfl, rfl, Nat.le_of_ble_eq_true rfl, Nat.le_of_ble_eq_true rfl⟩ ⟨Nat.zero_le _, Nat.zero_le _⟩ rfl rfl (Nat.le_of_ble_eq_true rfl) d_SS_spend_72 (fun r25 X8 => ?_)
    refine jr_if_eq (tgt := 109) hz d_SS_spend_75 (by decide) ?_ ?_
    · refine jr_sub (ls' := [(0, .ref (G.1 0)), (1, .int a1)]) [0, 1] rfl ?_
      exact jb_SS_spend_b109 hz hr hlk a1 X8
    · refine jr_aload_n hz d_SS_spend_78 rfl 0 rfl ?_
      refine jr_callVv (As := []) (a := 0) (ci := 6) (st := []) hz (cx_SS_takeScriptFromStack l D G hz.2.2.2.2.2.2.1 X8) (fun _ _ => ⟨lq_0, _, ly_0⟩) wv_SS_107 ⟨rfl, rfl, Nat.le_of_ble_eq_true rfl, Nat.le_of_ble_eq_true rfl⟩ ⟨Nat.zero_le _, Nat.zero_le _⟩ rfl rfl (Nat.le_of_ble_eq_true rfl) d_SS_spend_79 (fun _ X9 => ?_)
      refine jr_aload_n hz d_SS_spend_82 rfl 0 rfl ?_
      refine jr_iconst (v := 2) hz d_SS_spend_83 (by decide) ?_
      refine jr_puti hz lq_0 ly_0 rfl wp_SS_54 d_SS_spend_84 (fun X10 => ?_)
      refine jr_aload_n hz d_SS_spend_87 rfl 0 rfl ?_
      refine jr_getr (j := 6) (t := 138) hz lq_0 ly_0 rfl wf_SS_46 d_SS_spend_88 ?_
      refine jr_aload_n hz d_SS_spend_91 rfl 0 rfl ?_
      refine jr_getr (j := 2) (t := 5) hz lq_0 ly_0 rfl wf_SS_21 d_SS_spend_92 ?_
      refine jr_iconst (v := 0) hz d_SS_spend_95 (by decide) ?_
      refine jr_callVi (As := [.ref (G.1 5), .int 0]) (a := 138) (ci := 4) (st := []) hz (cx_MC_run l D G hz.2.2.2.2.2.2.1 5 0 X10) (fun _ _ => ⟨lq_138, _, ly_138⟩) wv_SS_92 ⟨rfl, rfl, Nat.le_of_ble_eq_true rfl, Nat.le_of_ble_eq_true rfl⟩ ⟨Nat.zero_le _, Nat.zero_le _⟩ rfl rfl (Nat.le_of_ble_eq_true rfl) d_SS_spend_96 (fun r32 X11 => ?_)
      refine jr_istore_n (lf := [(0, .ref (G.1 0))]) hz d_SS_spend_99 rfl (by decide) rfl (fun v36 => ?_)
      refine jr_iload_n hz d_SS_spend_100 rfl 0 rfl ?_
      refine jr_if_ne (tgt := 109) hz d_SS_spend_101 (by decide) ?_ ?_
      · refine jr_sub (ls' := [(0, .ref (G.1 0)), (1, .int v36)]) [1, 0] rfl ?_
        exact jb_SS_spend_b109 hz hr hlk v36 X11
      · refine jr_aload_n hz d_SS_spend_104 rfl 1 rfl ?_
        refine jr_callVi (As := []) (a := 0) (ci := 6) (st := []) hz (cx_SS_truthFault l D G hz.2.2.2.2.2.2.1 X11) (fun _ _ => ⟨lq_0, _, ly_0⟩) wv_SS_100 ⟨rfl, rfl, Nat.le_of_ble_eq_true rfl, Nat.le_of_ble_eq_true rfl⟩ ⟨Nat.zero_le _, Nat.zero_le _⟩ rfl rfl (Nat.le_of_ble_eq_true rfl) d_SS_spend_105 (fun r37 X12 => ?_)
        refine jr_istore_n (lf := [(0, .ref (G.1 0))]) hz d_SS_spend_108 rfl (by decide) rfl (fun v41 => ?_)
        refine jr_sub (ls' := [(0, .ref (G.1 0)), (1, .int v41)]) [1, 0] rfl ?_
        exact jb_SS_spend_b109 hz hr hlk v41 X12
def fx_SS_spend_b58 (a1 : Int32) (X : xh_T) : Option (Int32 × xh_T) :=
  if a1 = 0 then
  xh_b (fx_SS_truthFault X) (fun (r19 : Int32) (X7 : xh_T) =>
  xh_n r19 (fun v23 : Int32 =>
  fx_SS_spend_b67 v23 X7))
  else fx_SS_spend_b67 a1 X
set_option maxRecDepth 100000 in
set_option maxHeartbeats 4000000 in
theorem jb_SS_spend_b58 {p : Program} {l : Launch} {e : Env} {s : State} {m : MethodId} {args : Array Value} {below : List Frame} {meth : Method} {c : Code} {D : va_G} {G : xh_G} (hz : xh_C p s m args c b_SS_spend 2 "SpendScript" D G (xh_A G s.heap.size)) (hr : meth.sig.returnType = (some .int)) (hlk : meth.locks = false) (a1 : Int32) (X : xh_T) : xh_J p l e rm_SS_spend s m args below meth c 0 0 D G (xh_A G s.heap.size) 2 (fun r X' => MQ below (xh_Qi D G (xh_A G s.heap.size) r X') args s 0 0 (xh_A G s.heap.size)) 58 [(0, .ref (G.1 0)), (1, .int a1)] [] X (fx_SS_spend_b58 a1 X) := by
  unfold fx_SS_spend_b58
  refine jr_iload_n hz d_SS_spend_58 rfl 1 rfl ?_
  refine jr_if_ne (tgt := 67) hz d_SS_spend_59 (by decide) ?_ ?_
  · refine jr_sub (ls' := [(0, .ref (G.1 0)), (1, .int a1)]) [0, 1] rfl ?_
    exact jb_SS_spend_b67 hz hr hlk a1 X
  · refine jr_aload_n hz d_SS_spend_62 rfl 0 rfl ?_
    refine jr_callVi (As := []) (a := 0) (ci := 6) (st := []) hz (cx_SS_truthFault l D G hz.2.2.2.2.2.2.1 X) (fun _ _ => ⟨lq_0, _, ly_0⟩) wv_SS_100 ⟨rfl, rfl, Nat.le_of_ble_eq_true rfl, Nat.le_of_ble_eq_true rfl⟩ ⟨Nat.zero_le _, Nat.zero_le _⟩ rfl rfl (Nat.le_of_ble_eq_true rfl) d_SS_spend_63 (fun r19 X7 => ?_)
    refine jr_istore_n (lf := [(0, .ref (G.1 0))]) hz d_SS_spend_66 rfl (by decide) rfl (fun v23 => ?_)
    refine jr_sub (ls' := [(0, .ref (G.1 0)), (1, .int v23)]) [1, 0] rfl ?_
    exact jb_SS_spend_b67 hz hr hlk v23 X7
def fx_SS_spend (X : xh_T) : Option (Int32 × xh_T) :=
  xh_b (fx_MC_restart X) (fun (_ : Unit) (X1 : xh_T) =>
  xh_n (xh_i X1 0 8 0) (fun X2 : xh_T =>
  xh_b (fx_MC_run 1 1 X2) (fun (r5 : Int32) (X3 : xh_T) =>
  xh_n r5 (fun v9 : Int32 =>
  if v9 = 0 then
  xh_b (fx_IS_becomeCopyOf 74 10 X3) (fun (_ : Unit) (X4 : xh_T) =>
  xh_n (xh_i X4 0 8 1) (fun X5 : xh_T =>
  xh_b (fx_MC_run 3 0 X5) (fun (r14 : Int32) (X6 : xh_T) =>
  xh_n r14 (fun v18 : Int32 =>
  fx_SS_spend_b58 v18 X6))))
  else fx_SS_spend_b58 v9 X3))))
set_option maxRecDepth 100000 in
set_option maxHeartbeats 4000000 in
theorem cx_SS_spend (l : Launch) (D : va_G) (G : xh_G) (hD : xh_D G) (X : xh_T) : xh_M xh_Qi l D G y_SS_spend b_SS_spend 2 (some .int) rm_SS_spend [.ref (G.1 0)] X (fx_SS_spend X) := by
  refine xh_enter (ls := [(0, .ref (G.1 0))]) hD (by decide +kernel) (Nat.le_of_ble_eq_true rfl) rfl ?_
  intro p e s m args below meth c hz hr hlk
  unfold fx_SS_spend
  refine jr_aload_n hz d_SS_spend_0 rfl 0 rfl ?_
  refine jr_getr (j := 6) (t := 138) hz lq_0 ly_0 rfl wf_SS_46 d_SS_spend_1 ?_
  refine jr_callVv (As := []) (a := 138) (ci := 4) (st := []) hz (cx_MC_restart l D G hz.2.2.2.2.2.2.1 X) (fun _ _ => ⟨lq_138, _, ly_138⟩) wv_SS_89 ⟨rfl, rfl, Nat.le_of_ble_eq_true rfl, Nat.le_of_ble_eq_true rfl⟩ ⟨Nat.zero_le _, Nat.zero_le _⟩ rfl rfl (Nat.le_of_ble_eq_true rfl) d_SS_spend_4 (fun _ X1 => ?_)
  refine jr_aload_n hz d_SS_spend_7 rfl 0 rfl ?_
  refine jr_iconst (v := 0) hz d_SS_spend_8 (by decide) ?_
  refine jr_puti hz lq_0 ly_0 rfl wp_SS_54 d_SS_spend_9 (fun X2 => ?_)
  refine jr_aload_n hz d_SS_spend_12 rfl 0 rfl ?_
  refine jr_getr (j := 6) (t := 138) hz lq_0 ly_0 rfl wf_SS_46 d_SS_spend_13 ?_
  refine jr_aload_n hz d_SS_spend_16 rfl 0 rfl ?_
  refine jr_getr (j := 0) (t := 1) hz lq_0 ly_0 rfl wf_SS_14 d_SS_spend_17 ?_
  refine jr_iconst (v := 1) hz d_SS_spend_20 (by decide) ?_
  refine jr_callVi (As := [.ref (G.1 1), .int 1]) (a := 138) (ci := 4) (st := []) hz (cx_MC_run l D G hz.2.2.2.2.2.2.1 1 1 X2) (fun _ _ => ⟨lq_138, _, ly_138⟩) wv_SS_92 ⟨rfl, rfl, Nat.le_of_ble_eq_true rfl, Nat.le_of_ble_eq_true rfl⟩ ⟨Nat.zero_le _, Nat.zero_le _⟩ rfl rfl (Nat.le_of_ble_eq_true rfl) d_SS_spend_21 (fun r5 X3 => ?_)
  refine jr_istore_n (lf := [(0, .ref (G.1 0))]) hz d_SS_spend_24 rfl (by decide) rfl (fun v9 => ?_)
  refine jr_iload_n hz d_SS_spend_25 rfl 0 rfl ?_
  refine jr_if_ne (tgt := 58) hz d_SS_spend_26 (by decide) ?_ ?_
  · refine jr_sub (ls' := [(0, .ref (G.1 0)), (1, .int v9)]) [1, 0] rfl ?_
    exact jb_SS_spend_b58 hz hr hlk v9 X3
  · refine jr_aload_n hz d_SS_spend_29 rfl 1 rfl ?_
    refine jr_getr (j := 5) (t := 74) hz lq_0 ly_0 rfl wf_SS_38 d_SS_spend_30 ?_
    refine jr_aload_n hz d_SS_spend_33 rfl 1 rfl ?_
    refine jr_getr (j := 4) (t := 10) hz lq_0 ly_0 rfl wf_SS_34 d_SS_spend_34 ?_
    refine jr_callVv (As := [.ref (G.1 10)]) (a := 74) (ci := 1) (st := []) hz (cx_IS_becomeCopyOf l D G hz.2.2.2.2.2.2.1 74 10 X3) (fun z h => sp_is_v (xh_k_t h)) wv_SS_96 ⟨rfl, rfl, Nat.le_of_ble_eq_true rfl, Nat.le_of_ble_eq_true rfl⟩ ⟨Nat.zero_le _, Nat.zero_le _⟩ rfl rfl (Nat.le_of_ble_eq_true rfl) d_SS_spend_37 (fun _ X4 => ?_)
    refine jr_aload_n hz d_SS_spend_40 rfl 1 rfl ?_
    refine jr_iconst (v := 1) hz d_SS_spend_41 (by decide) ?_
    refine jr_puti hz lq_0 ly_0 rfl wp_SS_54 d_SS_spend_42 (fun X5 => ?_)
    refine jr_aload_n hz d_SS_spend_45 rfl 1 rfl ?_
    refine jr_getr (j := 6) (t := 138) hz lq_0 ly_0 rfl wf_SS_46 d_SS_spend_46 ?_
    refine jr_aload_n hz d_SS_spend_49 rfl 1 rfl ?_
    refine jr_getr (j := 1) (t := 3) hz lq_0 ly_0 rfl wf_SS_18 d_SS_spend_50 ?_
    refine jr_iconst (v := 0) hz d_SS_spend_53 (by decide) ?_
    refine jr_callVi (As := [.ref (G.1 3), .int 0]) (a := 138) (ci := 4) (st := []) hz (cx_MC_run l D G hz.2.2.2.2.2.2.1 3 0 X5) (fun _ _ => ⟨lq_138, _, ly_138⟩) wv_SS_92 ⟨rfl, rfl, Nat.le_of_ble_eq_true rfl, Nat.le_of_ble_eq_true rfl⟩ ⟨Nat.zero_le _, Nat.zero_le _⟩ rfl rfl (Nat.le_of_ble_eq_true rfl) d_SS_spend_54 (fun r14 X6 => ?_)
    refine jr_istore_n (lf := [(0, .ref (G.1 0))]) hz d_SS_spend_57 rfl (by decide) rfl (fun v18 => ?_)
    refine jr_sub (ls' := [(0, .ref (G.1 0)), (1, .int v18)]) [1, 0] rfl ?_
    exact jb_SS_spend_b58 hz hr hlk v18 X6
theorem d_SS_result_0 : decode b_SS_result 0 = .ok (.aload_n 0, 1) := by decide +kernel
theorem d_SS_result_1 : decode b_SS_result 1 = .ok (.getfield 50, 3) := by decide +kernel
theorem d_SS_result_4 : decode b_SS_result 4 = .ok (.ireturn, 1) := by decide +kernel
theorem wf_SS_50 : xh_F "SpendScript" 50 6 7 := ⟨R_SS, F_SS, 10, rfl, by decide, iw_SS, (sp_tb (List.mem_of_getElem? (i := 135) (by decide +kernel)))⟩
abbrev rm_SS_result : Room := { frames := 0, cells := 0, slots := 0, locals := 0 }
def fx_SS_result (X : xh_T) : Option (Int32 × xh_T) :=
  some (X.1 0 7, X)
set_option maxRecDepth 100000 in
set_option maxHeartbeats 4000000 in
theorem cx_SS_result (l : Launch) (D : va_G) (G : xh_G) (hD : xh_D G) (X : xh_T) : xh_M xh_Qi l D G y_SS_result b_SS_result 1 (some .int) rm_SS_result [.ref (G.1 0)] X (fx_SS_result X) := by
  refine xh_enter (ls := [(0, .ref (G.1 0))]) hD (by decide +kernel) (Nat.le_of_ble_eq_true rfl) rfl ?_
  intro p e s m args below meth c hz hr hlk
  unfold fx_SS_result
  refine jr_aload_n hz d_SS_result_0 rfl 0 rfl ?_
  refine jr_geti (j := 7) hz lq_0 ly_0 rfl wf_SS_50 d_SS_result_1 ?_
  exact jr_iret hz hr hlk d_SS_result_4
theorem d_SS_ended_0 : decode b_SS_ended 0 = .ok (.aload_n 0, 1) := by decide +kernel
theorem d_SS_ended_1 : decode b_SS_ended 1 = .ok (.getfield 54, 3) := by decide +kernel
theorem d_SS_ended_4 : decode b_SS_ended 4 = .ok (.ireturn, 1) := by decide +kernel
theorem wf_SS_54 : xh_F "SpendScript" 54 6 8 := ⟨R_SS, F_SS, 10, rfl, by decide, iw_SS, (sp_tb (List.mem_of_getElem? (i := 136) (by decide +kernel)))⟩
abbrev rm_SS_ended : Room := { frames := 0, cells := 0, slots := 0, locals := 0 }
def fx_SS_ended (X : xh_T) : Option (Int32 × xh_T) :=
  some (X.1 0 8, X)
set_option maxRecDepth 100000 in
set_option maxHeartbeats 4000000 in
theorem cx_SS_ended (l : Launch) (D : va_G) (G : xh_G) (hD : xh_D G) (X : xh_T) : xh_M xh_Qi l D G y_SS_ended b_SS_ended 1 (some .int) rm_SS_ended [.ref (G.1 0)] X (fx_SS_ended X) := by
  refine xh_enter (ls := [(0, .ref (G.1 0))]) hD (by decide +kernel) (Nat.le_of_ble_eq_true rfl) rfl ?_
  intro p e s m args below meth c hz hr hlk
  unfold fx_SS_ended
  refine jr_aload_n hz d_SS_ended_0 rfl 0 rfl ?_
  refine jr_geti (j := 8) hz lq_0 ly_0 rfl wf_SS_54 d_SS_ended_1 ?_
  exact jr_iret hz hr hlk d_SS_ended_4
theorem d_SS_faultAt_0 : decode b_SS_faultAt 0 = .ok (.aload_n 0, 1) := by decide +kernel
theorem d_SS_faultAt_1 : decode b_SS_faultAt 1 = .ok (.getfield 57, 3) := by decide +kernel
theorem d_SS_faultAt_4 : decode b_SS_faultAt 4 = .ok (.ireturn, 1) := by decide +kernel
theorem wf_SS_57 : xh_F "SpendScript" 57 6 9 := ⟨R_SS, F_SS, 10, rfl, by decide, iw_SS, (sp_tb (List.mem_of_getElem? (i := 137) (by decide +kernel)))⟩
abbrev rm_SS_faultAt : Room := { frames := 0, cells := 0, slots := 0, locals := 0 }
def fx_SS_faultAt (X : xh_T) : Option (Int32 × xh_T) :=
  some (X.1 0 9, X)
set_option maxRecDepth 100000 in
set_option maxHeartbeats 4000000 in
theorem cx_SS_faultAt (l : Launch) (D : va_G) (G : xh_G) (hD : xh_D G) (X : xh_T) : xh_M xh_Qi l D G y_SS_faultAt b_SS_faultAt 1 (some .int) rm_SS_faultAt [.ref (G.1 0)] X (fx_SS_faultAt X) := by
  refine xh_enter (ls := [(0, .ref (G.1 0))]) hD (by decide +kernel) (Nat.le_of_ble_eq_true rfl) rfl ?_
  intro p e s m args below meth c hz hr hlk
  unfold fx_SS_faultAt
  refine jr_aload_n hz d_SS_faultAt_0 rfl 0 rfl ?_
  refine jr_geti (j := 9) hz lq_0 ly_0 rfl wf_SS_57 d_SS_faultAt_1 ?_
  exact jr_iret hz hr hlk d_SS_faultAt_4
theorem d_SS_done_0 : decode b_SS_done 0 = .ok (.aload_n 0, 1) := by decide +kernel
theorem d_SS_done_1 : decode b_SS_done 1 = .ok (.getfield 46, 3) := by decide +kernel
theorem d_SS_done_4 : decode b_SS_done 4 = .ok (.invokevirtual 113, 3) := by decide +kernel
theorem d_SS_done_7 : decode b_SS_done 7 = .ok (.ireturn, 1) := by decide +kernel
theorem wv_SS_113 : xh_V "SpendScript" 113 4 y_MC_doneCount b_MC_doneCount 1 (some .int) 0 := ⟨(sp_tb (List.mem_of_getElem? (i := 516) (by decide +kernel))), (sp_tb (List.mem_of_getElem? (i := 5) (by decide +kernel))), (sp_tb (List.mem_of_getElem? (i := 513) (by decide +kernel))), ⟨by decide +kernel, by decide +kernel, by decide +kernel⟩, (sp_tb (List.mem_of_getElem? (i := 514) (by decide +kernel))), (sp_tb (List.mem_of_getElem? (i := 515) (by decide +kernel))), F_MC, 7, rfl⟩
abbrev rm_SS_done : Room := { frames := 1, cells := 0, slots := 0, locals := 20 }
def fx_SS_done (X : xh_T) : Option (Int32 × xh_T) :=
  xh_b (fx_MC_doneCount X) (fun (r1 : Int32) (X1 : xh_T) =>
  some (r1, X1))
set_option maxRecDepth 100000 in
set_option maxHeartbeats 4000000 in
theorem cx_SS_done (l : Launch) (D : va_G) (G : xh_G) (hD : xh_D G) (X : xh_T) : xh_M xh_Qi l D G y_SS_done b_SS_done 1 (some .int) rm_SS_done [.ref (G.1 0)] X (fx_SS_done X) := by
  refine xh_enter (ls := [(0, .ref (G.1 0))]) hD (by decide +kernel) (Nat.le_of_ble_eq_true rfl) rfl ?_
  intro p e s m args below meth c hz hr hlk
  unfold fx_SS_done
  refine jr_aload_n hz d_SS_done_0 rfl 0 rfl ?_
  refine jr_getr (j := 6) (t := 138) hz lq_0 ly_0 rfl wf_SS_46 d_SS_done_1 ?_
  refine jr_callVi (As := []) (a := 138) (ci := 4) (st := []) hz (cx_MC_doneCount l D G hz.2.2.2.2.2.2.1 X) (fun _ _ => ⟨lq_138, _, ly_138⟩) wv_SS_113 ⟨rfl, rfl, Nat.le_of_ble_eq_true rfl, Nat.le_of_ble_eq_true rfl⟩ ⟨Nat.zero_le _, Nat.zero_le _⟩ rfl rfl (Nat.le_of_ble_eq_true rfl) d_SS_done_4 (fun r1 X1 => ?_)
  exact jr_iret hz hr hlk d_SS_done_7
theorem d_SS_items_0 : decode b_SS_items 0 = .ok (.aload_n 0, 1) := by decide +kernel
theorem d_SS_items_1 : decode b_SS_items 1 = .ok (.getfield 34, 3) := by decide +kernel
theorem d_SS_items_4 : decode b_SS_items 4 = .ok (.invokevirtual 116, 3) := by decide +kernel
theorem d_SS_items_7 : decode b_SS_items 7 = .ok (.ireturn, 1) := by decide +kernel
theorem wv_SS_116 : xh_V "SpendScript" 116 1 y_IS_size b_IS_size 1 (some .int) 0 := ⟨(sp_tb (List.mem_of_getElem? (i := 251) (by decide +kernel))), (sp_tb (List.mem_of_getElem? (i := 4) (by decide +kernel))), (sp_tb (List.mem_of_getElem? (i := 521) (by decide +kernel))), ⟨by decide +kernel, by decide +kernel, by decide +kernel⟩, (sp_tb (List.mem_of_getElem? (i := 249) (by decide +kernel))), (sp_tb (List.mem_of_getElem? (i := 250) (by decide +kernel))), F_IS, 3, rfl⟩
abbrev rm_SS_items : Room := { frames := 1, cells := 0, slots := 0, locals := 20 }
def fx_SS_items (X : xh_T) : Option (Int32 × xh_T) :=
  xh_b (fx_IS_size 10 X) (fun (r1 : Int32) (X1 : xh_T) =>
  some (r1, X1))
set_option maxRecDepth 100000 in
set_option maxHeartbeats 4000000 in
theorem cx_SS_items (l : Launch) (D : va_G) (G : xh_G) (hD : xh_D G) (X : xh_T) : xh_M xh_Qi l D G y_SS_items b_SS_items 1 (some .int) rm_SS_items [.ref (G.1 0)] X (fx_SS_items X) := by
  refine xh_enter (ls := [(0, .ref (G.1 0))]) hD (by decide +kernel) (Nat.le_of_ble_eq_true rfl) rfl ?_
  intro p e s m args below meth c hz hr hlk
  unfold fx_SS_items
  refine jr_aload_n hz d_SS_items_0 rfl 0 rfl ?_
  refine jr_getr (j := 4) (t := 10) hz lq_0 ly_0 rfl wf_SS_34 d_SS_items_1 ?_
  refine jr_callVi (As := []) (a := 10) (ci := 1) (st := []) hz (cx_IS_size l D G hz.2.2.2.2.2.2.1 10 X) (fun z h => sp_is_v (xh_k_t h)) wv_SS_116 ⟨rfl, rfl, Nat.le_of_ble_eq_true rfl, Nat.le_of_ble_eq_true rfl⟩ ⟨Nat.zero_le _, Nat.zero_le _⟩ rfl rfl (Nat.le_of_ble_eq_true rfl) d_SS_items_4 (fun r1 X1 => ?_)
  exact jr_iret hz hr hlk d_SS_items_7
theorem d_SS_itemLength_0 : decode b_SS_itemLength 0 = .ok (.aload_n 0, 1) := by decide +kernel
theorem d_SS_itemLength_1 : decode b_SS_itemLength 1 = .ok (.getfield 34, 3) := by decide +kernel
theorem d_SS_itemLength_4 : decode b_SS_itemLength 4 = .ok (.iload_n 1, 1) := by decide +kernel
theorem d_SS_itemLength_5 : decode b_SS_itemLength 5 = .ok (.invokevirtual 117, 3) := by decide +kernel
theorem d_SS_itemLength_8 : decode b_SS_itemLength 8 = .ok (.ifCond .eq 17, 3) := by decide +kernel
theorem d_SS_itemLength_11 : decode b_SS_itemLength 11 = .ok (.aload_n 0, 1) := by decide +kernel
theorem d_SS_itemLength_12 : decode b_SS_itemLength 12 = .ok (.getfield 34, 3) := by decide +kernel
theorem d_SS_itemLength_15 : decode b_SS_itemLength 15 = .ok (.iload_n 1, 1) := by decide +kernel
theorem d_SS_itemLength_16 : decode b_SS_itemLength 16 = .ok (.invokevirtual 120, 3) := by decide +kernel
theorem d_SS_itemLength_19 : decode b_SS_itemLength 19 = .ok (.invokevirtual 71, 3) := by decide +kernel
theorem d_SS_itemLength_22 : decode b_SS_itemLength 22 = .ok (.goto 4, 3) := by decide +kernel
theorem d_SS_itemLength_25 : decode b_SS_itemLength 25 = .ok (.iconst (-1), 1) := by decide +kernel
theorem d_SS_itemLength_26 : decode b_SS_itemLength 26 = .ok (.ireturn, 1) := by decide +kernel
theorem wv_SS_117 : xh_V "SpendScript" 117 1 y_IS_has b_IS_has 2 (some .boolean) 1 := ⟨(sp_tb (List.mem_of_getElem? (i := 296) (by decide +kernel))), (sp_tb (List.mem_of_getElem? (i := 4) (by decide +kernel))), (sp_tb (List.mem_of_getElem? (i := 526) (by decide +kernel))), ⟨by decide +kernel, by decide +kernel, by decide +kernel⟩, (sp_tb (List.mem_of_getElem? (i := 294) (by decide +kernel))), (sp_tb (List.mem_of_getElem? (i := 295) (by decide +kernel))), F_IS, 3, rfl⟩
abbrev rm_SS_itemLength : Room := { frames := 1, cells := 0, slots := 0, locals := 21 }
def fx_SS_itemLength (p1 : Int32) (X : xh_T) : Option (Int32 × xh_T) :=
  xh_b (fx_IS_has 10 p1 X) (fun (r2 : Int32) (X1 : xh_T) =>
  if r2 = 0 then
  some ((-1), X1)
  else xh_b (fx_IS_item 10 p1 X1) (fun (q8 : Nat) (X2 : xh_T) =>
  xh_b (fx_BS_size q8 X2) (fun (r9 : Int32) (X3 : xh_T) =>
  some (r9, X3))))
set_option maxRecDepth 100000 in
set_option maxHeartbeats 4000000 in
theorem cx_SS_itemLength (l : Launch) (D : va_G) (G : xh_G) (hD : xh_D G) (p1 : Int32) (X : xh_T) : xh_M xh_Qi l D G y_SS_itemLength b_SS_itemLength 2 (some .int) rm_SS_itemLength [.ref (G.1 0), .int p1] X (fx_SS_itemLength p1 X) := by
  refine xh_enter (ls := [(0, .ref (G.1 0)), (1, .int p1)]) hD (by decide +kernel) (Nat.le_of_ble_eq_true rfl) rfl ?_
  intro p e s m args below meth c hz hr hlk
  unfold fx_SS_itemLength
  refine jr_aload_n hz d_SS_itemLength_0 rfl 0 rfl ?_
  refine jr_getr (j := 4) (t := 10) hz lq_0 ly_0 rfl wf_SS_34 d_SS_itemLength_1 ?_
  refine jr_iload_n hz d_SS_itemLength_4 rfl 1 rfl ?_
  refine jr_callVi (As := [.int p1]) (a := 10) (ci := 1) (st := []) hz (cx_IS_has l D G hz.2.2.2.2.2.2.1 10 p1 X) (fun z h => sp_is_v (xh_k_t h)) wv_SS_117 ⟨rfl, rfl, Nat.le_of_ble_eq_true rfl, Nat.le_of_ble_eq_true rfl⟩ ⟨Nat.zero_le _, Nat.zero_le _⟩ rfl rfl (Nat.le_of_ble_eq_true rfl) d_SS_itemLength_5 (fun r2 X1 => ?_)
  refine jr_if_eq (tgt := 25) hz d_SS_itemLength_8 (by decide) ?_ ?_
  · refine jr_iconst (v := (-1)) hz d_SS_itemLength_25 (by decide) ?_
    exact jr_iret hz hr hlk d_SS_itemLength_26
  · refine jr_aload_n hz d_SS_itemLength_11 rfl 0 rfl ?_
    refine jr_getr (j := 4) (t := 10) hz lq_0 ly_0 rfl wf_SS_34 d_SS_itemLength_12 ?_
    refine jr_iload_n hz d_SS_itemLength_15 rfl 1 rfl ?_
    refine jr_callVr (As := [.int p1]) (a := 10) (ci := 1) (st := []) hz (cx_IS_item l D G hz.2.2.2.2.2.2.1 10 p1 X1) (fun z h => sp_is_v (xh_k_t h)) wv_SS_120 ⟨rfl, rfl, Nat.le_of_ble_eq_true rfl, Nat.le_of_ble_eq_true rfl⟩ ⟨Nat.zero_le _, Nat.zero_le _⟩ rfl rfl (Nat.le_of_ble_eq_true rfl) d_SS_itemLength_16 (fun q8 X2 => ?_)
    refine jr_callVi (As := []) (a := q8) (ci := 0) (st := []) hz (cx_BS_size l D G hz.2.2.2.2.2.2.1 q8 X2) (fun z h => sp_bs_v (xh_k_t h)) wv_SS_71 ⟨rfl, rfl, Nat.le_of_ble_eq_true rfl, Nat.le_of_ble_eq_true rfl⟩ ⟨Nat.zero_le _, Nat.zero_le _⟩ rfl rfl (Nat.le_of_ble_eq_true rfl) d_SS_itemLength_19 (fun r9 X3 => ?_)
    refine jr_goto (tgt := 26) hz d_SS_itemLength_22 (by decide) ?_
    exact jr_iret hz hr hlk d_SS_itemLength_26

/-! printed by wip/whole/gen_walks.py -/
theorem d_MC_restart_0 : decode b_MC_restart 0 = .ok (.aload_n 0, 1) := by decide +kernel
theorem d_MC_restart_1 : decode b_MC_restart 1 = .ok (.getfield 9, 3) := by decide +kernel
theorem d_MC_restart_4 : decode b_MC_restart 4 = .ok (.invokevirtual 47, 3) := by decide +kernel
theorem d_MC_restart_7 : decode b_MC_restart 7 = .ok (.aload_n 0, 1) := by decide +kernel
theorem d_MC_restart_8 : decode b_MC_restart 8 = .ok (.iconst 0, 1) := by decide +kernel
theorem d_MC_restart_9 : decode b_MC_restart 9 = .ok (.putfield 44, 3) := by decide +kernel
theorem d_MC_restart_12 : decode b_MC_restart 12 = .ok (.return_, 1) := by decide +kernel
theorem wf_MC_9 : xh_F "SpendScript$Machine" 9 4 0 := ⟨R_MC, F_MC, 7, rfl, by decide, iw_MC, (sp_tb (List.mem_of_getElem? (i := 106) (by decide +kernel)))⟩
theorem wv_MC_47 : xh_V "SpendScript$Machine" 47 1 y_IS_makeEmpty b_IS_makeEmpty 1 none 0 := ⟨(sp_tb (List.mem_of_getElem? (i := 221) (by decide +kernel))), (sp_tb (List.mem_of_getElem? (i := 4) (by decide +kernel))), (sp_tb (List.mem_of_getElem? (i := 218) (by decide +kernel))), ⟨by decide +kernel, by decide +kernel, by decide +kernel⟩, (sp_tb (List.mem_of_getElem? (i := 219) (by decide +kernel))), (sp_tb (List.mem_of_getElem? (i := 220) (by decide +kernel))), F_IS, 3, rfl⟩
theorem wp_MC_44 : xh_Fp "SpendScript$Machine" 44 4 6 := ⟨R_MC, F_MC, 7, t_MC, rfl, by decide, iw_MC, (sp_tb (List.mem_of_getElem? (i := 112) (by decide +kernel))), tk_MC, nk_MC, rfl, rfl⟩
abbrev rm_MC_restart : Room := { frames := 1, cells := 0, slots := 0, locals := 20 }
def fx_MC_restart (X : xh_T) : Option (Unit × xh_T) :=
  xh_b (fx_IS_makeEmpty 10 X) (fun (_ : Unit) (X1 : xh_T) =>
  xh_n (xh_i X1 138 6 0) (fun X2 : xh_T =>
  some ((), X2)))
set_option maxRecDepth 100000 in
set_option maxHeartbeats 4000000 in
theorem cx_MC_restart (l : Launch) (D : va_G) (G : xh_G) (hD : xh_D G) (X : xh_T) : xh_M xh_Qv l D G y_MC_restart b_MC_restart 1 none rm_MC_restart [.ref (G.1 138)] X (fx_MC_restart X) := by
  refine xh_enter (ls := [(0, .ref (G.1 138))]) hD (by decide +kernel) (Nat.le_of_ble_eq_true rfl) rfl ?_
  intro p e s m args below meth c hz hr hlk
  unfold fx_MC_restart
  refine jr_aload_n hz d_MC_restart_0 rfl 0 rfl ?_
  refine jr_getr (j := 0) (t := 10) hz lq_138 ly_138 rfl wf_MC_9 d_MC_restart_1 ?_
  refine jr_callVv (As := []) (a := 10) (ci := 1) (st := []) hz (cx_IS_makeEmpty l D G hz.2.2.2.2.2.2.1 10 X) (fun z h => sp_is_v (xh_k_t h)) wv_MC_47 ⟨rfl, rfl, Nat.le_of_ble_eq_true rfl, Nat.le_of_ble_eq_true rfl⟩ ⟨Nat.zero_le _, Nat.zero_le _⟩ rfl rfl (Nat.le_of_ble_eq_true rfl) d_MC_restart_4 (fun _ X1 => ?_)
  refine jr_aload_n hz d_MC_restart_7 rfl 0 rfl ?_
  refine jr_iconst (v := 0) hz d_MC_restart_8 (by decide) ?_
  refine jr_puti hz lq_138 ly_138 rfl wp_MC_44 d_MC_restart_9 (fun X2 => ?_)
  exact jr_vret hz hr hlk d_MC_restart_12
theorem d_MC_place_0 : decode b_MC_place 0 = .ok (.aload_n 0, 1) := by decide +kernel
theorem d_MC_place_1 : decode b_MC_place 1 = .ok (.getfield 41, 3) := by decide +kernel
theorem d_MC_place_4 : decode b_MC_place 4 = .ok (.ireturn, 1) := by decide +kernel
theorem wf_MC_41 : xh_F "SpendScript$Machine" 41 4 5 := ⟨R_MC, F_MC, 7, rfl, by decide, iw_MC, (sp_tb (List.mem_of_getElem? (i := 111) (by decide +kernel)))⟩
abbrev rm_MC_place : Room := { frames := 0, cells := 0, slots := 0, locals := 0 }
def fx_MC_place (X : xh_T) : Option (Int32 × xh_T) :=
  some (X.1 138 5, X)
set_option maxRecDepth 100000 in
set_option maxHeartbeats 4000000 in
theorem cx_MC_place (l : Launch) (D : va_G) (G : xh_G) (hD : xh_D G) (X : xh_T) : xh_M xh_Qi l D G y_MC_place b_MC_place 1 (some .int) rm_MC_place [.ref (G.1 138)] X (fx_MC_place X) := by
  refine xh_enter (ls := [(0, .ref (G.1 138))]) hD (by decide +kernel) (Nat.le_of_ble_eq_true rfl) rfl ?_
  intro p e s m args below meth c hz hr hlk
  unfold fx_MC_place
  refine jr_aload_n hz d_MC_place_0 rfl 0 rfl ?_
  refine jr_geti (j := 5) hz lq_138 ly_138 rfl wf_MC_41 d_MC_place_1 ?_
  exact jr_iret hz hr hlk d_MC_place_4
theorem d_MC_doneCount_0 : decode b_MC_doneCount 0 = .ok (.aload_n 0, 1) := by decide +kernel
theorem d_MC_doneCount_1 : decode b_MC_doneCount 1 = .ok (.getfield 44, 3) := by decide +kernel
theorem d_MC_doneCount_4 : decode b_MC_doneCount 4 = .ok (.ireturn, 1) := by decide +kernel
theorem wf_MC_44 : xh_F "SpendScript$Machine" 44 4 6 := ⟨R_MC, F_MC, 7, rfl, by decide, iw_MC, (sp_tb (List.mem_of_getElem? (i := 112) (by decide +kernel)))⟩
abbrev rm_MC_doneCount : Room := { frames := 0, cells := 0, slots := 0, locals := 0 }
def fx_MC_doneCount (X : xh_T) : Option (Int32 × xh_T) :=
  some (X.1 138 6, X)
set_option maxRecDepth 100000 in
set_option maxHeartbeats 4000000 in
theorem cx_MC_doneCount (l : Launch) (D : va_G) (G : xh_G) (hD : xh_D G) (X : xh_T) : xh_M xh_Qi l D G y_MC_doneCount b_MC_doneCount 1 (some .int) rm_MC_doneCount [.ref (G.1 138)] X (fx_MC_doneCount X) := by
  refine xh_enter (ls := [(0, .ref (G.1 138))]) hD (by decide +kernel) (Nat.le_of_ble_eq_true rfl) rfl ?_
  intro p e s m args below meth c hz hr hlk
  unfold fx_MC_doneCount
  refine jr_aload_n hz d_MC_doneCount_0 rfl 0 rfl ?_
  refine jr_geti (j := 6) hz lq_138 ly_138 rfl wf_MC_44 d_MC_doneCount_1 ?_
  exact jr_iret hz hr hlk d_MC_doneCount_4
theorem d_MC_formFault_0 : decode b_MC_formFault 0 = .ok (.iload_n 2, 1) := by decide +kernel
theorem d_MC_formFault_1 : decode b_MC_formFault 1 = .ok (.bipush 32, 2) := by decide +kernel
theorem d_MC_formFault_3 : decode b_MC_formFault 3 = .ok (.if_icmp .le 21, 3) := by decide +kernel
theorem d_MC_formFault_6 : decode b_MC_formFault 6 = .ok (.iload_n 2, 1) := by decide +kernel
theorem d_MC_formFault_7 : decode b_MC_formFault 7 = .ok (.bipush 79, 2) := by decide +kernel
theorem d_MC_formFault_9 : decode b_MC_formFault 9 = .ok (.if_icmp .eq 9, 3) := by decide +kernel
theorem d_MC_formFault_12 : decode b_MC_formFault 12 = .ok (.iload_n 2, 1) := by decide +kernel
theorem d_MC_formFault_13 : decode b_MC_formFault 13 = .ok (.bipush 81, 2) := by decide +kernel
theorem d_MC_formFault_15 : decode b_MC_formFault 15 = .ok (.if_icmp .lt 7, 3) := by decide +kernel
theorem d_MC_formFault_18 : decode b_MC_formFault 18 = .ok (.iconst 0, 1) := by decide +kernel
theorem d_MC_formFault_19 : decode b_MC_formFault 19 = .ok (.goto 4, 3) := by decide +kernel
theorem d_MC_formFault_22 : decode b_MC_formFault 22 = .ok (.iconst 2, 1) := by decide +kernel
theorem d_MC_formFault_23 : decode b_MC_formFault 23 = .ok (.ireturn, 1) := by decide +kernel
theorem d_MC_formFault_24 : decode b_MC_formFault 24 = .ok (.aload_n 1, 1) := by decide +kernel
theorem d_MC_formFault_25 : decode b_MC_formFault 25 = .ok (.aload_n 0, 1) := by decide +kernel
theorem d_MC_formFault_26 : decode b_MC_formFault 26 = .ok (.getfield 41, 3) := by decide +kernel
theorem d_MC_formFault_29 : decode b_MC_formFault 29 = .ok (.iconst 1, 1) := by decide +kernel
theorem d_MC_formFault_30 : decode b_MC_formFault 30 = .ok (.iadd, 1) := by decide +kernel
theorem d_MC_formFault_31 : decode b_MC_formFault 31 = .ok (.iload_n 2, 1) := by decide +kernel
theorem d_MC_formFault_32 : decode b_MC_formFault 32 = .ok (.invokevirtual 98, 3) := by decide +kernel
theorem d_MC_formFault_35 : decode b_MC_formFault 35 = .ok (.ifCond .ne 5, 3) := by decide +kernel
theorem d_MC_formFault_38 : decode b_MC_formFault 38 = .ok (.iconst 3, 1) := by decide +kernel
theorem d_MC_formFault_39 : decode b_MC_formFault 39 = .ok (.ireturn, 1) := by decide +kernel
theorem d_MC_formFault_40 : decode b_MC_formFault 40 = .ok (.aload_n 1, 1) := by decide +kernel
theorem d_MC_formFault_41 : decode b_MC_formFault 41 = .ok (.aload_n 0, 1) := by decide +kernel
theorem d_MC_formFault_42 : decode b_MC_formFault 42 = .ok (.getfield 41, 3) := by decide +kernel
theorem d_MC_formFault_45 : decode b_MC_formFault 45 = .ok (.iconst 1, 1) := by decide +kernel
theorem d_MC_formFault_46 : decode b_MC_formFault 46 = .ok (.iadd, 1) := by decide +kernel
theorem d_MC_formFault_47 : decode b_MC_formFault 47 = .ok (.invokevirtual 59, 3) := by decide +kernel
theorem d_MC_formFault_50 : decode b_MC_formFault 50 = .ok (.istore_n 3, 1) := by decide +kernel
theorem d_MC_formFault_51 : decode b_MC_formFault 51 = .ok (.iload_n 3, 1) := by decide +kernel
theorem d_MC_formFault_52 : decode b_MC_formFault 52 = .ok (.sipush 129, 3) := by decide +kernel
theorem d_MC_formFault_55 : decode b_MC_formFault 55 = .ok (.if_icmp .eq 14, 3) := by decide +kernel
theorem d_MC_formFault_58 : decode b_MC_formFault 58 = .ok (.iload_n 3, 1) := by decide +kernel
theorem d_MC_formFault_59 : decode b_MC_formFault 59 = .ok (.iconst 1, 1) := by decide +kernel
theorem d_MC_formFault_60 : decode b_MC_formFault 60 = .ok (.if_icmp .lt 13, 3) := by decide +kernel
theorem d_MC_formFault_63 : decode b_MC_formFault 63 = .ok (.iload_n 3, 1) := by decide +kernel
theorem d_MC_formFault_64 : decode b_MC_formFault 64 = .ok (.bipush 16, 2) := by decide +kernel
theorem d_MC_formFault_66 : decode b_MC_formFault 66 = .ok (.if_icmp .gt 7, 3) := by decide +kernel
theorem d_MC_formFault_69 : decode b_MC_formFault 69 = .ok (.iconst 1, 1) := by decide +kernel
theorem d_MC_formFault_70 : decode b_MC_formFault 70 = .ok (.goto 4, 3) := by decide +kernel
theorem d_MC_formFault_73 : decode b_MC_formFault 73 = .ok (.iconst 0, 1) := by decide +kernel
theorem d_MC_formFault_74 : decode b_MC_formFault 74 = .ok (.istore 4, 2) := by decide +kernel
theorem d_MC_formFault_76 : decode b_MC_formFault 76 = .ok (.iload_n 2, 1) := by decide +kernel
theorem d_MC_formFault_77 : decode b_MC_formFault 77 = .ok (.iconst 1, 1) := by decide +kernel
theorem d_MC_formFault_78 : decode b_MC_formFault 78 = .ok (.if_icmp .ne 12, 3) := by decide +kernel
theorem d_MC_formFault_81 : decode b_MC_formFault 81 = .ok (.iload 4, 2) := by decide +kernel
theorem d_MC_formFault_83 : decode b_MC_formFault 83 = .ok (.ifCond .eq 7, 3) := by decide +kernel
theorem d_MC_formFault_86 : decode b_MC_formFault 86 = .ok (.iconst 5, 1) := by decide +kernel
theorem d_MC_formFault_87 : decode b_MC_formFault 87 = .ok (.goto 4, 3) := by decide +kernel
theorem d_MC_formFault_90 : decode b_MC_formFault 90 = .ok (.iconst 0, 1) := by decide +kernel
theorem d_MC_formFault_91 : decode b_MC_formFault 91 = .ok (.ireturn, 1) := by decide +kernel
theorem wv_MC_98 : xh_V "SpendScript$Machine" 98 0 y_BS_hasPart b_BS_hasPart 3 (some .boolean) 2 := ⟨(sp_tb (List.mem_of_getElem? (i := 205) (by decide +kernel))), (sp_tb (List.mem_of_getElem? (i := 2) (by decide +kernel))), (sp_tb (List.mem_of_getElem? (i := 243) (by decide +kernel))), ⟨by decide +kernel, by decide +kernel, by decide +kernel⟩, (sp_tb (List.mem_of_getElem? (i := 203) (by decide +kernel))), (sp_tb (List.mem_of_getElem? (i := 204) (by decide +kernel))), F_BS, 2, rfl⟩
theorem wv_MC_59 : xh_V "SpendScript$Machine" 59 0 y_BS_byteAt b_BS_byteAt 2 (some .int) 1 := ⟨(sp_tb (List.mem_of_getElem? (i := 234) (by decide +kernel))), (sp_tb (List.mem_of_getElem? (i := 2) (by decide +kernel))), (sp_tb (List.mem_of_getElem? (i := 231) (by decide +kernel))), ⟨by decide +kernel, by decide +kernel, by decide +kernel⟩, (sp_tb (List.mem_of_getElem? (i := 232) (by decide +kernel))), (sp_tb (List.mem_of_getElem? (i := 233) (by decide +kernel))), F_BS, 2, rfl⟩
abbrev rm_MC_formFault : Room := { frames := 1, cells := 0, slots := 0, locals := 22 }
def fx_MC_formFault_b18 (o1 : Nat) (X : xh_T) : Option (Int32 × xh_T) :=
  some (0, X)
set_option maxRecDepth 100000 in
set_option maxHeartbeats 4000000 in
theorem jb_MC_formFault_b18 {p : Program} {l : Launch} {e : Env} {s : State} {m : MethodId} {args : Array Value} {below : List Frame} {meth : Method} {c : Code} {D : va_G} {G : xh_G} {o1 : Nat} (hz : xh_C p s m args c b_MC_formFault 5 "SpendScript$Machine" D G (xh_A G s.heap.size)) (hr : meth.sig.returnType = (some .int)) (hlk : meth.locks = false) (ho1 : sp_bs o1 = true) (X : xh_T) : xh_J p l e rm_MC_formFault s m args below meth c 0 0 D G (xh_A G s.heap.size) 5 (fun r X' => MQ below (xh_Qi D G (xh_A G s.heap.size) r X') args s 0 0 (xh_A G s.heap.size)) 18 [] [] X (fx_MC_formFault_b18 o1 X) := by
  unfold fx_MC_formFault_b18
  refine jr_iconst (v := 0) hz d_MC_formFault_18 (by decide) ?_
  refine jr_goto (tgt := 23) hz d_MC_formFault_19 (by decide) ?_
  exact jr_iret hz hr hlk d_MC_formFault_23
def fx_MC_formFault_b74 (o1 : Nat) (a2 : Int32) (s0 : Int32) (X : xh_T) : Option (Int32 × xh_T) :=
  xh_n s0 (fun v10 : Int32 =>
  if a2 = 1 then
  if v10 = 0 then
  some (0, X)
  else some (5, X)
  else some (0, X))
set_option maxRecDepth 100000 in
set_option maxHeartbeats 4000000 in
theorem jb_MC_formFault_b74 {p : Program} {l : Launch} {e : Env} {s : State} {m : MethodId} {args : Array Value} {below : List Frame} {meth : Method} {c : Code} {D : va_G} {G : xh_G} {o1 : Nat} (hz : xh_C p s m args c b_MC_formFault 5 "SpendScript$Machine" D G (xh_A G s.heap.size)) (hr : meth.sig.returnType = (some .int)) (hlk : meth.locks = false) (ho1 : sp_bs o1 = true) (a2 : Int32) (s0 : Int32) (X : xh_T) : xh_J p l e rm_MC_formFault s m args below meth c 0 0 D G (xh_A G s.heap.size) 5 (fun r X' => MQ below (xh_Qi D G (xh_A G s.heap.size) r X') args s 0 0 (xh_A G s.heap.size)) 74 [(2, .int a2)] [.int s0] X (fx_MC_formFault_b74 o1 a2 s0 X) := by
  unfold fx_MC_formFault_b74
  refine jr_istore (lf := [(2, .int a2)]) hz d_MC_formFault_74 (by decide) rfl (fun v10 => ?_)
  refine jr_iload_n hz d_MC_formFault_76 rfl 1 rfl ?_
  refine jr_iconst (v := 1) hz d_MC_formFault_77 (by decide) ?_
  refine jr_icmp_ne (tgt := 90) hz d_MC_formFault_78 (by decide) ?_ ?_
  · refine jr_iconst (v := 0) hz d_MC_formFault_90 (by decide) ?_
    exact jr_iret hz hr hlk d_MC_formFault_91
  · refine jr_iload hz d_MC_formFault_81 0 rfl ?_
    refine jr_if_eq (tgt := 90) hz d_MC_formFault_83 (by decide) ?_ ?_
    · refine jr_iconst (v := 0) hz d_MC_formFault_90 (by decide) ?_
      exact jr_iret hz hr hlk d_MC_formFault_91
    · refine jr_iconst (v := 5) hz d_MC_formFault_86 (by decide) ?_
      refine jr_goto (tgt := 91) hz d_MC_formFault_87 (by decide) ?_
      exact jr_iret hz hr hlk d_MC_formFault_91
def fx_MC_formFault_b69 (o1 : Nat) (a2 : Int32) (X : xh_T) : Option (Int32 × xh_T) :=
  fx_MC_formFault_b74 o1 a2 1 X
set_option maxRecDepth 100000 in
set_option maxHeartbeats 4000000 in
theorem jb_MC_formFault_b69 {p : Program} {l : Launch} {e : Env} {s : State} {m : MethodId} {args : Array Value} {below : List Frame} {meth : Method} {c : Code} {D : va_G} {G : xh_G} {o1 : Nat} (hz : xh_C p s m args c b_MC_formFault 5 "SpendScript$Machine" D G (xh_A G s.heap.size)) (hr : meth.sig.returnType = (some .int)) (hlk : meth.locks = false) (ho1 : sp_bs o1 = true) (a2 : Int32) (X : xh_T) : xh_J p l e rm_MC_formFault s m args below meth c 0 0 D G (xh_A G s.heap.size) 5 (fun r X' => MQ below (xh_Qi D G (xh_A G s.heap.size) r X') args s 0 0 (xh_A G s.heap.size)) 69 [(2, .int a2)] [] X (fx_MC_formFault_b69 o1 a2 X) := by
  unfold fx_MC_formFault_b69
  refine jr_iconst (v := 1) hz d_MC_formFault_69 (by decide) ?_
  refine jr_goto (tgt := 74) hz d_MC_formFault_70 (by decide) ?_
  refine jr_sub (ls' := [(2, .int a2)]) [0] rfl ?_
  exact jb_MC_formFault_b74 hz hr hlk ho1 a2 1 X
def fx_MC_formFault_b73 (o1 : Nat) (a2 : Int32) (X : xh_T) : Option (Int32 × xh_T) :=
  fx_MC_formFault_b74 o1 a2 0 X
set_option maxRecDepth 100000 in
set_option maxHeartbeats 4000000 in
theorem jb_MC_formFault_b73 {p : Program} {l : Launch} {e : Env} {s : State} {m : MethodId} {args : Array Value} {below : List Frame} {meth : Method} {c : Code} {D : va_G} {G : xh_G} {o1 : Nat} (hz : xh_C p s m args c b_MC_formFault 5 "SpendScript$Machine" D G (xh_A G s.heap.size)) (hr : meth.sig.returnType = (some .int)) (hlk : meth.locks = false) (ho1 : sp_bs o1 = true) (a2 : Int32) (X : xh_T) : xh_J p l e rm_MC_formFault s m args below meth c 0 0 D G (xh_A G s.heap.size) 5 (fun r X' => MQ below (xh_Qi D G (xh_A G s.heap.size) r X') args s 0 0 (xh_A G s.heap.size)) 73 [(2, .int a2)] [] X (fx_MC_formFault_b73 o1 a2 X) := by
  unfold fx_MC_formFault_b73
  refine jr_iconst (v := 0) hz d_MC_formFault_73 (by decide) ?_
  refine jr_sub (ls' := [(2, .int a2)]) [0] rfl ?_
  exact jb_MC_formFault_b74 hz hr hlk ho1 a2 0 X
def fx_MC_formFault (o1 : Nat) (p2 : Int32) (X : xh_T) : Option (Int32 × xh_T) :=
  xh_k (sp_bs o1) (
  if p2 ≤ 32 then
  xh_b (fx_BS_hasPart o1 (X.1 138 5 + 1) p2 X) (fun (r2 : Int32) (X1 : xh_T) =>
  if r2 = 0 then
  some (3, X1)
  else xh_b (fx_BS_byteAt o1 (X1.1 138 5 + 1) X1) (fun (r5 : Int32) (X2 : xh_T) =>
  xh_n r5 (fun v9 : Int32 =>
  if v9 = 129 then
  fx_MC_formFault_b69 o1 p2 X2
  else if v9 < 1 then
  fx_MC_formFault_b73 o1 p2 X2
  else if 16 < v9 then
  fx_MC_formFault_b73 o1 p2 X2
  else fx_MC_formFault_b69 o1 p2 X2)))
  else if p2 = 79 then
  fx_MC_formFault_b18 o1 X
  else if p2 < 81 then
  some (2, X)
  else fx_MC_formFault_b18 o1 X)
set_option maxRecDepth 100000 in
set_option maxHeartbeats 4000000 in
theorem cx_MC_formFault (l : Launch) (D : va_G) (G : xh_G) (hD : xh_D G) (o1 : Nat) (p2 : Int32) (X : xh_T) : xh_M xh_Qi l D G y_MC_formFault b_MC_formFault 5 (some .int) rm_MC_formFault [.ref (G.1 138), .ref (G.1 o1), .int p2] X (fx_MC_formFault o1 p2 X) := by
  refine xh_enter (ls := [(0, .ref (G.1 138)), (1, .ref (G.1 o1)), (2, .int p2)]) hD (by decide +kernel) (Nat.le_of_ble_eq_true rfl) rfl ?_
  intro p e s m args below meth c hz hr hlk
  unfold fx_MC_formFault
  refine jr_k (fun ho1 => ?_)
  refine jr_iload_n hz d_MC_formFault_0 rfl 2 rfl ?_
  refine jr_bipush (v := 32) hz d_MC_formFault_1 (by decide) ?_
  refine jr_icmp_le (tgt := 24) hz d_MC_formFault_3 (by decide) ?_ ?_
  · refine jr_aload_n hz d_MC_formFault_24 rfl 1 rfl ?_
    refine jr_aload_n hz d_MC_formFault_25 rfl 0 rfl ?_
    refine jr_geti (j := 5) hz lq_138 ly_138 rfl wf_MC_41 d_MC_formFault_26 ?_
    refine jr_iconst (v := 1) hz d_MC_formFault_29 (by decide) ?_
    refine jr_iadd hz d_MC_formFault_30 ?_
    refine jr_iload_n hz d_MC_formFault_31 rfl 2 rfl ?_
    refine jr_callVi (As := [.int (X.1 138 5 + 1), .int p2]) (a := o1) (ci := 0) (st := []) hz (cx_BS_hasPart l D G hz.2.2.2.2.2.2.1 o1 (X.1 138 5 + 1) p2 X) (fun z h => sp_bs_v (xh_k_t h)) wv_MC_98 ⟨rfl, rfl, Nat.le_of_ble_eq_true rfl, Nat.le_of_ble_eq_true rfl⟩ ⟨Nat.zero_le _, Nat.zero_le _⟩ rfl rfl (Nat.le_of_ble_eq_true rfl) d_MC_formFault_32 (fun r2 X1 => ?_)
    refine jr_if_ne (tgt := 40) hz d_MC_formFault_35 (by decide) ?_ ?_
    · refine jr_aload_n hz d_MC_formFault_40 rfl 1 rfl ?_
      refine jr_aload_n hz d_MC_formFault_41 rfl 0 rfl ?_
      refine jr_geti (j := 5) hz lq_138 ly_138 rfl wf_MC_41 d_MC_formFault_42 ?_
      refine jr_iconst (v := 1) hz d_MC_formFault_45 (by decide) ?_
      refine jr_iadd hz d_MC_formFault_46 ?_
      refine jr_callVi (As := [.int (X1.1 138 5 + 1)]) (a := o1) (ci := 0) (st := []) hz (cx_BS_byteAt l D G hz.2.2.2.2.2.2.1 o1 (X1.1 138 5 + 1) X1) (fun z h => sp_bs_v (xh_k_t h)) wv_MC_59 ⟨rfl, rfl, Nat.le_of_ble_eq_true rfl, Nat.le_of_ble_eq_true rfl⟩ ⟨Nat.zero_le _, Nat.zero_le _⟩ rfl rfl (Nat.le_of_ble_eq_true rfl) d_MC_formFault_47 (fun r5 X2 => ?_)
      refine jr_istore_n (lf := [(0, .ref (G.1 138)), (1, .ref (G.1 o1)), (2, .int p2)]) hz d_MC_formFault_50 rfl (by decide) rfl (fun v9 => ?_)
      refine jr_iload_n hz d_MC_formFault_51 rfl 0 rfl ?_
      refine jr_sipush (v := 129) hz d_MC_formFault_52 (by decide) ?_
      refine jr_icmp_eq (tgt := 69) hz d_MC_formFault_55 (by decide) ?_ ?_
      · refine jr_sub (ls' := [(2, .int p2)]) [3] rfl ?_
        exact jb_MC_formFault_b69 hz hr hlk ho1 p2 X2
      · refine jr_iload_n hz d_MC_formFault_58 rfl 0 rfl ?_
        refine jr_iconst (v := 1) hz d_MC_formFault_59 (by decide) ?_
        refine jr_icmp_lt (tgt := 73) hz d_MC_formFault_60 (by decide) ?_ ?_
        · refine jr_sub (ls' := [(2, .int p2)]) [3] rfl ?_
          exact jb_MC_formFault_b73 hz hr hlk ho1 p2 X2
        · refine jr_iload_n hz d_MC_formFault_63 rfl 0 rfl ?_
          refine jr_bipush (v := 16) hz d_MC_formFault_64 (by decide) ?_
          refine jr_icmp_gt (tgt := 73) hz d_MC_formFault_66 (by decide) ?_ ?_
          · refine jr_sub (ls' := [(2, .int p2)]) [3] rfl ?_
            exact jb_MC_formFault_b73 hz hr hlk ho1 p2 X2
          · refine jr_sub (ls' := [(2, .int p2)]) [3] rfl ?_
            exact jb_MC_formFault_b69 hz hr hlk ho1 p2 X2
    · refine jr_iconst (v := 3) hz d_MC_formFault_38 (by decide) ?_
      exact jr_iret hz hr hlk d_MC_formFault_39
  · refine jr_iload_n hz d_MC_formFault_6 rfl 2 rfl ?_
    refine jr_bipush (v := 79) hz d_MC_formFault_7 (by decide) ?_
    refine jr_icmp_eq (tgt := 18) hz d_MC_formFault_9 (by decide) ?_ ?_
    · refine jr_sub (ls' := []) [] rfl ?_
      exact jb_MC_formFault_b18 hz hr hlk ho1 X
    · refine jr_iload_n hz d_MC_formFault_12 rfl 2 rfl ?_
      refine jr_bipush (v := 81) hz d_MC_formFault_13 (by decide) ?_
      refine jr_icmp_lt (tgt := 22) hz d_MC_formFault_15 (by decide) ?_ ?_
      · refine jr_iconst (v := 2) hz d_MC_formFault_22 (by decide) ?_
        exact jr_iret hz hr hlk d_MC_formFault_23
      · refine jr_sub (ls' := []) [] rfl ?_
        exact jb_MC_formFault_b18 hz hr hlk ho1 X
theorem d_MC_meetPush_0 : decode b_MC_meetPush 0 = .ok (.aload_n 0, 1) := by decide +kernel
theorem d_MC_meetPush_1 : decode b_MC_meetPush 1 = .ok (.aload_n 1, 1) := by decide +kernel
theorem d_MC_meetPush_2 : decode b_MC_meetPush 2 = .ok (.iload_n 2, 1) := by decide +kernel
theorem d_MC_meetPush_3 : decode b_MC_meetPush 3 = .ok (.invokevirtual 79, 3) := by decide +kernel
theorem d_MC_meetPush_6 : decode b_MC_meetPush 6 = .ok (.istore_n 3, 1) := by decide +kernel
theorem d_MC_meetPush_7 : decode b_MC_meetPush 7 = .ok (.iload_n 3, 1) := by decide +kernel
theorem d_MC_meetPush_8 : decode b_MC_meetPush 8 = .ok (.ifCond .ne 13, 3) := by decide +kernel
theorem d_MC_meetPush_11 : decode b_MC_meetPush 11 = .ok (.aload_n 0, 1) := by decide +kernel
theorem d_MC_meetPush_12 : decode b_MC_meetPush 12 = .ok (.getfield 24, 3) := by decide +kernel
theorem d_MC_meetPush_15 : decode b_MC_meetPush 15 = .ok (.invokevirtual 82, 3) := by decide +kernel
theorem d_MC_meetPush_18 : decode b_MC_meetPush 18 = .ok (.ifCond .ne 5, 3) := by decide +kernel
theorem d_MC_meetPush_21 : decode b_MC_meetPush 21 = .ok (.iload_n 3, 1) := by decide +kernel
theorem d_MC_meetPush_22 : decode b_MC_meetPush 22 = .ok (.ireturn, 1) := by decide +kernel
theorem d_MC_meetPush_23 : decode b_MC_meetPush 23 = .ok (.aload_n 0, 1) := by decide +kernel
theorem d_MC_meetPush_24 : decode b_MC_meetPush 24 = .ok (.getfield 9, 3) := by decide +kernel
theorem d_MC_meetPush_27 : decode b_MC_meetPush 27 = .ok (.invokevirtual 85, 3) := by decide +kernel
theorem d_MC_meetPush_30 : decode b_MC_meetPush 30 = .ok (.aload_n 0, 1) := by decide +kernel
theorem d_MC_meetPush_31 : decode b_MC_meetPush 31 = .ok (.getfield 18, 3) := by decide +kernel
theorem d_MC_meetPush_34 : decode b_MC_meetPush 34 = .ok (.invokevirtual 85, 3) := by decide +kernel
theorem d_MC_meetPush_37 : decode b_MC_meetPush 37 = .ok (.iadd, 1) := by decide +kernel
theorem d_MC_meetPush_38 : decode b_MC_meetPush 38 = .ok (.bipush 30, 2) := by decide +kernel
theorem d_MC_meetPush_40 : decode b_MC_meetPush 40 = .ok (.if_icmp .lt 6, 3) := by decide +kernel
theorem d_MC_meetPush_43 : decode b_MC_meetPush 43 = .ok (.bipush 14, 2) := by decide +kernel
theorem d_MC_meetPush_45 : decode b_MC_meetPush 45 = .ok (.ireturn, 1) := by decide +kernel
theorem d_MC_meetPush_46 : decode b_MC_meetPush 46 = .ok (.iload_n 2, 1) := by decide +kernel
theorem d_MC_meetPush_47 : decode b_MC_meetPush 47 = .ok (.bipush 32, 2) := by decide +kernel
theorem d_MC_meetPush_49 : decode b_MC_meetPush 49 = .ok (.if_icmp .gt 24, 3) := by decide +kernel
theorem d_MC_meetPush_52 : decode b_MC_meetPush 52 = .ok (.aload_n 0, 1) := by decide +kernel
theorem d_MC_meetPush_53 : decode b_MC_meetPush 53 = .ok (.getfield 9, 3) := by decide +kernel
theorem d_MC_meetPush_56 : decode b_MC_meetPush 56 = .ok (.invokevirtual 86, 3) := by decide +kernel
theorem d_MC_meetPush_59 : decode b_MC_meetPush 59 = .ok (.aload_n 1, 1) := by decide +kernel
theorem d_MC_meetPush_60 : decode b_MC_meetPush 60 = .ok (.aload_n 0, 1) := by decide +kernel
theorem d_MC_meetPush_61 : decode b_MC_meetPush 61 = .ok (.getfield 41, 3) := by decide +kernel
theorem d_MC_meetPush_64 : decode b_MC_meetPush 64 = .ok (.iconst 1, 1) := by decide +kernel
theorem d_MC_meetPush_65 : decode b_MC_meetPush 65 = .ok (.iadd, 1) := by decide +kernel
theorem d_MC_meetPush_66 : decode b_MC_meetPush 66 = .ok (.iload_n 2, 1) := by decide +kernel
theorem d_MC_meetPush_67 : decode b_MC_meetPush 67 = .ok (.invokevirtual 90, 3) := by decide +kernel
theorem d_MC_meetPush_70 : decode b_MC_meetPush 70 = .ok (.goto 18, 3) := by decide +kernel
theorem d_MC_meetPush_73 : decode b_MC_meetPush 73 = .ok (.aload_n 0, 1) := by decide +kernel
theorem d_MC_meetPush_74 : decode b_MC_meetPush 74 = .ok (.getfield 9, 3) := by decide +kernel
theorem d_MC_meetPush_77 : decode b_MC_meetPush 77 = .ok (.invokevirtual 86, 3) := by decide +kernel
theorem d_MC_meetPush_80 : decode b_MC_meetPush 80 = .ok (.iload_n 2, 1) := by decide +kernel
theorem d_MC_meetPush_81 : decode b_MC_meetPush 81 = .ok (.bipush 80, 2) := by decide +kernel
theorem d_MC_meetPush_83 : decode b_MC_meetPush 83 = .ok (.isub, 1) := by decide +kernel
theorem d_MC_meetPush_84 : decode b_MC_meetPush 84 = .ok (.i2l, 1) := by decide +kernel
theorem d_MC_meetPush_85 : decode b_MC_meetPush 85 = .ok (.invokevirtual 94, 3) := by decide +kernel
theorem d_MC_meetPush_88 : decode b_MC_meetPush 88 = .ok (.aload_n 0, 1) := by decide +kernel
theorem d_MC_meetPush_89 : decode b_MC_meetPush 89 = .ok (.dup, 1) := by decide +kernel
theorem d_MC_meetPush_90 : decode b_MC_meetPush 90 = .ok (.getfield 44, 3) := by decide +kernel
theorem d_MC_meetPush_93 : decode b_MC_meetPush 93 = .ok (.iconst 1, 1) := by decide +kernel
theorem d_MC_meetPush_94 : decode b_MC_meetPush 94 = .ok (.iadd, 1) := by decide +kernel
theorem d_MC_meetPush_95 : decode b_MC_meetPush 95 = .ok (.putfield 44, 3) := by decide +kernel
theorem d_MC_meetPush_98 : decode b_MC_meetPush 98 = .ok (.iconst 0, 1) := by decide +kernel
theorem d_MC_meetPush_99 : decode b_MC_meetPush 99 = .ok (.ireturn, 1) := by decide +kernel
theorem wv_MC_79 : xh_V "SpendScript$Machine" 79 4 y_MC_formFault b_MC_formFault 5 (some .int) 2 := ⟨(sp_tb (List.mem_of_getElem? (i := 242) (by decide +kernel))), (sp_tb (List.mem_of_getElem? (i := 5) (by decide +kernel))), (sp_tb (List.mem_of_getElem? (i := 239) (by decide +kernel))), ⟨by decide +kernel, by decide +kernel, by decide +kernel⟩, (sp_tb (List.mem_of_getElem? (i := 241) (by decide +kernel))), (sp_pv (q := (y_MC_formFault, 7)) (List.mem_of_getElem? (i := 2) (by decide +kernel))), F_MC, 7, rfl⟩
theorem wf_MC_24 : xh_F "SpendScript$Machine" 24 4 2 := ⟨R_MC, F_MC, 7, rfl, by decide, iw_MC, (sp_tb (List.mem_of_getElem? (i := 108) (by decide +kernel)))⟩
theorem wv_MC_82 : xh_V "SpendScript$Machine" 82 3 y_BR_allActive b_BR_allActive 2 (some .boolean) 0 := ⟨(sp_tb (List.mem_of_getElem? (i := 247) (by decide +kernel))), (sp_tb (List.mem_of_getElem? (i := 6) (by decide +kernel))), (sp_tb (List.mem_of_getElem? (i := 244) (by decide +kernel))), ⟨by decide +kernel, by decide +kernel, by decide +kernel⟩, (sp_tb (List.mem_of_getElem? (i := 245) (by decide +kernel))), (sp_tb (List.mem_of_getElem? (i := 246) (by decide +kernel))), F_BR, 2, rfl⟩
theorem wv_MC_85 : xh_V "SpendScript$Machine" 85 1 y_IS_size b_IS_size 1 (some .int) 0 := ⟨(sp_tb (List.mem_of_getElem? (i := 251) (by decide +kernel))), (sp_tb (List.mem_of_getElem? (i := 4) (by decide +kernel))), (sp_tb (List.mem_of_getElem? (i := 248) (by decide +kernel))), ⟨by decide +kernel, by decide +kernel, by decide +kernel⟩, (sp_tb (List.mem_of_getElem? (i := 249) (by decide +kernel))), (sp_tb (List.mem_of_getElem? (i := 250) (by decide +kernel))), F_IS, 3, rfl⟩
theorem wf_MC_18 : xh_F "SpendScript$Machine" 18 4 1 := ⟨R_MC, F_MC, 7, rfl, by decide, iw_MC, (sp_tb (List.mem_of_getElem? (i := 107) (by decide +kernel)))⟩
theorem wv_MC_86 : xh_V "SpendScript$Machine" 86 1 y_IS_push b_IS_push 1 (some (.object "SpendScript$ByteString")) 0 := ⟨(sp_tb (List.mem_of_getElem? (i := 255) (by decide +kernel))), (sp_tb (List.mem_of_getElem? (i := 4) (by decide +kernel))), (sp_tb (List.mem_of_getElem? (i := 252) (by decide +kernel))), ⟨by decide +kernel, by decide +kernel, by decide +kernel⟩, (sp_tb (List.mem_of_getElem? (i := 253) (by decide +kernel))), (sp_tb (List.mem_of_getElem? (i := 254) (by decide +kernel))), F_IS, 3, rfl⟩
theorem wv_MC_94 : xh_V "SpendScript$Machine" 94 0 y_BS_becomeNumber b_BS_becomeNumber 7 none 1 := ⟨(sp_tb (List.mem_of_getElem? (i := 267) (by decide +kernel))), (sp_tb (List.mem_of_getElem? (i := 2) (by decide +kernel))), (sp_tb (List.mem_of_getElem? (i := 264) (by decide +kernel))), ⟨by decide +kernel, by decide +kernel, by decide +kernel⟩, (sp_tb (List.mem_of_getElem? (i := 265) (by decide +kernel))), (sp_tb (List.mem_of_getElem? (i := 266) (by decide +kernel))), F_BS, 2, rfl⟩
theorem wv_MC_90 : xh_V "SpendScript$Machine" 90 0 y_BS_becomePartOf b_BS_becomePartOf 4 none 3 := ⟨(sp_tb (List.mem_of_getElem? (i := 259) (by decide +kernel))), (sp_tb (List.mem_of_getElem? (i := 2) (by decide +kernel))), (sp_tb (List.mem_of_getElem? (i := 256) (by decide +kernel))), ⟨by decide +kernel, by decide +kernel, by decide +kernel⟩, (sp_tb (List.mem_of_getElem? (i := 257) (by decide +kernel))), (sp_tb (List.mem_of_getElem? (i := 258) (by decide +kernel))), F_BS, 2, rfl⟩
abbrev rm_MC_meetPush : Room := { frames := 2, cells := 0, slots := 0, locals := 106 }
def fx_MC_meetPush_b88 (o1 : Nat) (X : xh_T) : Option (Int32 × xh_T) :=
  xh_n (xh_i X 138 6 (X.1 138 6 + 1)) (fun X9 : xh_T =>
  some (0, X9))
set_option maxRecDepth 100000 in
set_option maxHeartbeats 4000000 in
theorem jb_MC_meetPush_b88 {p : Program} {l : Launch} {e : Env} {s : State} {m : MethodId} {args : Array Value} {below : List Frame} {meth : Method} {c : Code} {D : va_G} {G : xh_G} {o1 : Nat} (hz : xh_C p s m args c b_MC_meetPush 4 "SpendScript$Machine" D G (xh_A G s.heap.size)) (hr : meth.sig.returnType = (some .int)) (hlk : meth.locks = false) (ho1 : sp_bs o1 = true) (X : xh_T) : xh_J p l e rm_MC_meetPush s m args below meth c 0 0 D G (xh_A G s.heap.size) 4 (fun r X' => MQ below (xh_Qi D G (xh_A G s.heap.size) r X') args s 0 0 (xh_A G s.heap.size)) 88 [(0, .ref (G.1 138))] [] X (fx_MC_meetPush_b88 o1 X) := by
  unfold fx_MC_meetPush_b88
  refine jr_aload_n hz d_MC_meetPush_88 rfl 0 rfl ?_
  refine jr_dup hz d_MC_meetPush_89 rfl ?_
  refine jr_geti (j := 6) hz lq_138 ly_138 rfl wf_MC_44 d_MC_meetPush_90 ?_
  refine jr_iconst (v := 1) hz d_MC_meetPush_93 (by decide) ?_
  refine jr_iadd hz d_MC_meetPush_94 ?_
  refine jr_puti hz lq_138 ly_138 rfl wp_MC_44 d_MC_meetPush_95 (fun X9 => ?_)
  refine jr_iconst (v := 0) hz d_MC_meetPush_98 (by decide) ?_
  exact jr_iret hz hr hlk d_MC_meetPush_99
def fx_MC_meetPush (o1 : Nat) (p2 : Int32) (X : xh_T) : Option (Int32 × xh_T) :=
  xh_k (sp_bs o1) (
  xh_b (fx_MC_formFault o1 p2 X) (fun (r1 : Int32) (X1 : xh_T) =>
  xh_n r1 (fun v5 : Int32 =>
  if v5 = 0 then
  xh_b (fx_BR_allActive X1) (fun (r7 : Int32) (X2 : xh_T) =>
  if r7 = 0 then
  some (v5, X2)
  else xh_b (fx_IS_size 10 X2) (fun (r10 : Int32) (X3 : xh_T) =>
  xh_b (fx_IS_size 139 X3) (fun (r14 : Int32) (X4 : xh_T) =>
  if (r10 + r14) < 30 then
  if 32 < p2 then
  xh_b (fx_IS_push 10 X4) (fun (q21 : Nat) (X5 : xh_T) =>
  xh_b (fx_BS_becomeNumber q21 (((p2 - 80) : Int32).toInt64) X5) (fun (_ : Unit) (X6 : xh_T) =>
  fx_MC_meetPush_b88 o1 X6))
  else xh_b (fx_IS_push 10 X4) (fun (q29 : Nat) (X7 : xh_T) =>
  xh_b (fx_BS_becomePartOf q29 o1 (X7.1 138 5 + 1) p2 X7) (fun (_ : Unit) (X8 : xh_T) =>
  fx_MC_meetPush_b88 o1 X8))
  else some (14, X4))))
  else some (v5, X1))))
set_option maxRecDepth 100000 in
set_option maxHeartbeats 4000000 in
theorem cx_MC_meetPush (l : Launch) (D : va_G) (G : xh_G) (hD : xh_D G) (o1 : Nat) (p2 : Int32) (X : xh_T) : xh_M xh_Qi l D G y_MC_meetPush b_MC_meetPush 4 (some .int) rm_MC_meetPush [.ref (G.1 138), .ref (G.1 o1), .int p2] X (fx_MC_meetPush o1 p2 X) := by
  refine xh_enter (ls := [(0, .ref (G.1 138)), (1, .ref (G.1 o1)), (2, .int p2)]) hD (by decide +kernel) (Nat.le_of_ble_eq_true rfl) rfl ?_
  intro p e s m args below meth c hz hr hlk
  unfold fx_MC_meetPush
  refine jr_k (fun ho1 => ?_)
  refine jr_aload_n hz d_MC_meetPush_0 rfl 0 rfl ?_
  refine jr_aload_n hz d_MC_meetPush_1 rfl 1 rfl ?_
  refine jr_iload_n hz d_MC_meetPush_2 rfl 2 rfl ?_
  refine jr_callVi (As := [.ref (G.1 o1), .int p2]) (a := 138) (ci := 4) (st := []) hz (cx_MC_formFault l D G hz.2.2.2.2.2.2.1 o1 p2 X) (fun _ _ => ⟨lq_138, _, ly_138⟩) wv_MC_79 ⟨rfl, rfl, Nat.le_of_ble_eq_true rfl, Nat.le_of_ble_eq_true rfl⟩ ⟨Nat.zero_le _, Nat.zero_le _⟩ rfl rfl (Nat.le_of_ble_eq_true rfl) d_MC_meetPush_3 (fun r1 X1 => ?_)
  refine jr_istore_n (lf := [(0, .ref (G.1 138)), (1, .ref (G.1 o1)), (2, .int p2)]) hz d_MC_meetPush_6 rfl (by decide) rfl (fun v5 => ?_)
  refine jr_iload_n hz d_MC_meetPush_7 rfl 0 rfl ?_
  refine jr_if_ne (tgt := 21) hz d_MC_meetPush_8 (by decide) ?_ ?_
  · refine jr_iload_n hz d_MC_meetPush_21 rfl 0 rfl ?_
    exact jr_iret hz hr hlk d_MC_meetPush_22
  · refine jr_aload_n hz d_MC_meetPush_11 rfl 1 rfl ?_
    refine jr_getr (j := 2) (t := 203) hz lq_138 ly_138 rfl wf_MC_24 d_MC_meetPush_12 ?_
    refine jr_callVi (As := []) (a := 203) (ci := 3) (st := []) hz (cx_BR_allActive l D G hz.2.2.2.2.2.2.1 X1) (fun _ _ => ⟨lq_203, _, ly_203⟩) wv_MC_82 ⟨rfl, rfl, Nat.le_of_ble_eq_true rfl, Nat.le_of_ble_eq_true rfl⟩ ⟨Nat.zero_le _, Nat.zero_le _⟩ rfl rfl (Nat.le_of_ble_eq_true rfl) d_MC_meetPush_15 (fun r7 X2 => ?_)
    refine jr_if_ne (tgt := 23) hz d_MC_meetPush_18 (by decide) ?_ ?_
    · refine jr_aload_n hz d_MC_meetPush_23 rfl 1 rfl ?_
      refine jr_getr (j := 0) (t := 10) hz lq_138 ly_138 rfl wf_MC_9 d_MC_meetPush_24 ?_
      refine jr_callVi (As := []) (a := 10) (ci := 1) (st := []) hz (cx_IS_size l D G hz.2.2.2.2.2.2.1 10 X2) (fun z h => sp_is_v (xh_k_t h)) wv_MC_85 ⟨rfl, rfl, Nat.le_of_ble_eq_true rfl, Nat.le_of_ble_eq_true rfl⟩ ⟨Nat.zero_le _, Nat.zero_le _⟩ rfl rfl (Nat.le_of_ble_eq_true rfl) d_MC_meetPush_27 (fun r10 X3 => ?_)
      refine jr_aload_n hz d_MC_meetPush_30 rfl 1 rfl ?_
      refine jr_getr (j := 1) (t := 139) hz lq_138 ly_138 rfl wf_MC_18 d_MC_meetPush_31 ?_
      refine jr_callVi (As := []) (a := 139) (ci := 1) (st := [.int r10]) hz (cx_IS_size l D G hz.2.2.2.2.2.2.1 139 X3) (fun z h => sp_is_v (xh_k_t h)) wv_MC_85 ⟨rfl, rfl, Nat.le_of_ble_eq_true rfl, Nat.le_of_ble_eq_true rfl⟩ ⟨Nat.zero_le _, Nat.zero_le _⟩ rfl rfl (Nat.le_of_ble_eq_true rfl) d_MC_meetPush_34 (fun r14 X4 => ?_)
      refine jr_iadd hz d_MC_meetPush_37 ?_
      refine jr_bipush (v := 30) hz d_MC_meetPush_38 (by decide) ?_
      refine jr_icmp_lt (tgt := 46) hz d_MC_meetPush_40 (by decide) ?_ ?_
      · refine jr_iload_n hz d_MC_meetPush_46 rfl 3 rfl ?_
        refine jr_bipush (v := 32) hz d_MC_meetPush_47 (by decide) ?_
        refine jr_icmp_gt (tgt := 73) hz d_MC_meetPush_49 (by decide) ?_ ?_
        · refine jr_aload_n hz d_MC_meetPush_73 rfl 1 rfl ?_
          refine jr_getr (j := 0) (t := 10) hz lq_138 ly_138 rfl wf_MC_9 d_MC_meetPush_74 ?_
          refine jr_callVr (As := []) (a := 10) (ci := 1) (st := []) hz (cx_IS_push l D G hz.2.2.2.2.2.2.1 10 X4) (fun z h => sp_is_v (xh_k_t h)) wv_MC_86 ⟨rfl, rfl, Nat.le_of_ble_eq_true rfl, Nat.le_of_ble_eq_true rfl⟩ ⟨Nat.zero_le _, Nat.zero_le _⟩ rfl rfl (Nat.le_of_ble_eq_true rfl) d_MC_meetPush_77 (fun q21 X5 => ?_)
          refine jr_iload_n hz d_MC_meetPush_80 rfl 3 rfl ?_
          refine jr_bipush (v := 80) hz d_MC_meetPush_81 (by decide) ?_
          refine jr_isub hz d_MC_meetPush_83 ?_
          refine jr_i2l hz d_MC_meetPush_84 ?_
          refine jr_callVv (As := [.long (((p2 - 80) : Int32).toInt64)]) (a := q21) (ci := 0) (st := []) hz (cx_BS_becomeNumber l D G hz.2.2.2.2.2.2.1 q21 (((p2 - 80) : Int32).toInt64) X5) (fun z h => sp_bs_v (xh_k_t h)) wv_MC_94 ⟨rfl, rfl, Nat.le_of_ble_eq_true rfl, Nat.le_of_ble_eq_true rfl⟩ ⟨Nat.zero_le _, Nat.zero_le _⟩ rfl rfl (Nat.le_of_ble_eq_true rfl) d_MC_meetPush_85 (fun _ X6 => ?_)
          refine jr_sub (ls' := [(0, .ref (G.1 138))]) [1] rfl ?_
          exact jb_MC_meetPush_b88 hz hr hlk ho1 X6
        · refine jr_aload_n hz d_MC_meetPush_52 rfl 1 rfl ?_
          refine jr_getr (j := 0) (t := 10) hz lq_138 ly_138 rfl wf_MC_9 d_MC_meetPush_53 ?_
          refine jr_callVr (As := []) (a := 10) (ci := 1) (st := []) hz (cx_IS_push l D G hz.2.2.2.2.2.2.1 10 X4) (fun z h => sp_is_v (xh_k_t h)) wv_MC_86 ⟨rfl, rfl, Nat.le_of_ble_eq_true rfl, Nat.le_of_ble_eq_true rfl⟩ ⟨Nat.zero_le _, Nat.zero_le _⟩ rfl rfl (Nat.le_of_ble_eq_true rfl) d_MC_meetPush_56 (fun q29 X7 => ?_)
          refine jr_aload_n hz d_MC_meetPush_59 rfl 2 rfl ?_
          refine jr_aload_n hz d_MC_meetPush_60 rfl 1 rfl ?_
          refine jr_geti (j := 5) hz lq_138 ly_138 rfl wf_MC_41 d_MC_meetPush_61 ?_
          refine jr_iconst (v := 1) hz d_MC_meetPush_64 (by decide) ?_
          refine jr_iadd hz d_MC_meetPush_65 ?_
          refine jr_iload_n hz d_MC_meetPush_66 rfl 3 rfl ?_
          refine jr_callVv (As := [.ref (G.1 o1), .int (X7.1 138 5 + 1), .int p2]) (a := q29) (ci := 0) (st := []) hz (cx_BS_becomePartOf l D G hz.2.2.2.2.2.2.1 q29 o1 (X7.1 138 5 + 1) p2 X7) (fun z h => sp_bs_v (xh_k_t h)) wv_MC_90 ⟨rfl, rfl, Nat.le_of_ble_eq_true rfl, Nat.le_of_ble_eq_true rfl⟩ ⟨Nat.zero_le _, Nat.zero_le _⟩ rfl rfl (Nat.le_of_ble_eq_true rfl) d_MC_meetPush_67 (fun _ X8 => ?_)
          refine jr_goto (tgt := 88) hz d_MC_meetPush_70 (by decide) ?_
          refine jr_sub (ls' := [(0, .ref (G.1 138))]) [1] rfl ?_
          exact jb_MC_meetPush_b88 hz hr hlk ho1 X8
      · refine jr_bipush (v := 14) hz d_MC_meetPush_43 (by decide) ?_
        exact jr_iret hz hr hlk d_MC_meetPush_45
    · refine jr_iload_n hz d_MC_meetPush_21 rfl 0 rfl ?_
      exact jr_iret hz hr hlk d_MC_meetPush_22
theorem d_MC_openBranch_0 : decode b_MC_openBranch 0 = .ok (.aload_n 0, 1) := by decide +kernel
theorem d_MC_openBranch_1 : decode b_MC_openBranch 1 = .ok (.getfield 24, 3) := by decide +kernel
theorem d_MC_openBranch_4 : decode b_MC_openBranch 4 = .ok (.invokevirtual 116, 3) := by decide +kernel
theorem d_MC_openBranch_7 : decode b_MC_openBranch 7 = .ok (.ifCond .ne 6, 3) := by decide +kernel
theorem d_MC_openBranch_10 : decode b_MC_openBranch 10 = .ok (.bipush 8, 2) := by decide +kernel
theorem d_MC_openBranch_12 : decode b_MC_openBranch 12 = .ok (.ireturn, 1) := by decide +kernel
theorem d_MC_openBranch_13 : decode b_MC_openBranch 13 = .ok (.aload_n 0, 1) := by decide +kernel
theorem d_MC_openBranch_14 : decode b_MC_openBranch 14 = .ok (.getfield 24, 3) := by decide +kernel
theorem d_MC_openBranch_17 : decode b_MC_openBranch 17 = .ok (.invokevirtual 82, 3) := by decide +kernel
theorem d_MC_openBranch_20 : decode b_MC_openBranch 20 = .ok (.ifCond .ne 13, 3) := by decide +kernel
theorem d_MC_openBranch_23 : decode b_MC_openBranch 23 = .ok (.aload_n 0, 1) := by decide +kernel
theorem d_MC_openBranch_24 : decode b_MC_openBranch 24 = .ok (.getfield 24, 3) := by decide +kernel
theorem d_MC_openBranch_27 : decode b_MC_openBranch 27 = .ok (.iconst 0, 1) := by decide +kernel
theorem d_MC_openBranch_28 : decode b_MC_openBranch 28 = .ok (.invokevirtual 119, 3) := by decide +kernel
theorem d_MC_openBranch_31 : decode b_MC_openBranch 31 = .ok (.iconst 0, 1) := by decide +kernel
theorem d_MC_openBranch_32 : decode b_MC_openBranch 32 = .ok (.ireturn, 1) := by decide +kernel
theorem d_MC_openBranch_33 : decode b_MC_openBranch 33 = .ok (.aload_n 0, 1) := by decide +kernel
theorem d_MC_openBranch_34 : decode b_MC_openBranch 34 = .ok (.getfield 9, 3) := by decide +kernel
theorem d_MC_openBranch_37 : decode b_MC_openBranch 37 = .ok (.iconst 0, 1) := by decide +kernel
theorem d_MC_openBranch_38 : decode b_MC_openBranch 38 = .ok (.invokevirtual 123, 3) := by decide +kernel
theorem d_MC_openBranch_41 : decode b_MC_openBranch 41 = .ok (.ifCond .ne 6, 3) := by decide +kernel
theorem d_MC_openBranch_44 : decode b_MC_openBranch 44 = .ok (.bipush 11, 2) := by decide +kernel
theorem d_MC_openBranch_46 : decode b_MC_openBranch 46 = .ok (.ireturn, 1) := by decide +kernel
theorem d_MC_openBranch_47 : decode b_MC_openBranch 47 = .ok (.aload_n 0, 1) := by decide +kernel
theorem d_MC_openBranch_48 : decode b_MC_openBranch 48 = .ok (.getfield 24, 3) := by decide +kernel
theorem d_MC_openBranch_51 : decode b_MC_openBranch 51 = .ok (.aload_n 0, 1) := by decide +kernel
theorem d_MC_openBranch_52 : decode b_MC_openBranch 52 = .ok (.getfield 9, 3) := by decide +kernel
theorem d_MC_openBranch_55 : decode b_MC_openBranch 55 = .ok (.iconst 0, 1) := by decide +kernel
theorem d_MC_openBranch_56 : decode b_MC_openBranch 56 = .ok (.invokevirtual 126, 3) := by decide +kernel
theorem d_MC_openBranch_59 : decode b_MC_openBranch 59 = .ok (.invokevirtual 130, 3) := by decide +kernel
theorem d_MC_openBranch_62 : decode b_MC_openBranch 62 = .ok (.iload_n 1, 1) := by decide +kernel
theorem d_MC_openBranch_63 : decode b_MC_openBranch 63 = .ok (.if_icmp .ne 7, 3) := by decide +kernel
theorem d_MC_openBranch_66 : decode b_MC_openBranch 66 = .ok (.iconst 1, 1) := by decide +kernel
theorem d_MC_openBranch_67 : decode b_MC_openBranch 67 = .ok (.goto 4, 3) := by decide +kernel
theorem d_MC_openBranch_70 : decode b_MC_openBranch 70 = .ok (.iconst 0, 1) := by decide +kernel
theorem d_MC_openBranch_71 : decode b_MC_openBranch 71 = .ok (.invokevirtual 119, 3) := by decide +kernel
theorem d_MC_openBranch_74 : decode b_MC_openBranch 74 = .ok (.aload_n 0, 1) := by decide +kernel
theorem d_MC_openBranch_75 : decode b_MC_openBranch 75 = .ok (.getfield 9, 3) := by decide +kernel
theorem d_MC_openBranch_78 : decode b_MC_openBranch 78 = .ok (.iconst 1, 1) := by decide +kernel
theorem d_MC_openBranch_79 : decode b_MC_openBranch 79 = .ok (.invokevirtual 133, 3) := by decide +kernel
theorem d_MC_openBranch_82 : decode b_MC_openBranch 82 = .ok (.iconst 0, 1) := by decide +kernel
theorem d_MC_openBranch_83 : decode b_MC_openBranch 83 = .ok (.ireturn, 1) := by decide +kernel
theorem wv_MC_116 : xh_V "SpendScript$Machine" 116 3 y_BR_mayOpen b_BR_mayOpen 1 (some .boolean) 0 := ⟨(sp_tb (List.mem_of_getElem? (i := 287) (by decide +kernel))), (sp_tb (List.mem_of_getElem? (i := 6) (by decide +kernel))), (sp_tb (List.mem_of_getElem? (i := 284) (by decide +kernel))), ⟨by decide +kernel, by decide +kernel, by decide +kernel⟩, (sp_tb (List.mem_of_getElem? (i := 285) (by decide +kernel))), (sp_tb (List.mem_of_getElem? (i := 286) (by decide +kernel))), F_BR, 2, rfl⟩
theorem wv_MC_123 : xh_V "SpendScript$Machine" 123 1 y_IS_has b_IS_has 2 (some .boolean) 1 := ⟨(sp_tb (List.mem_of_getElem? (i := 296) (by decide +kernel))), (sp_tb (List.mem_of_getElem? (i := 4) (by decide +kernel))), (sp_tb (List.mem_of_getElem? (i := 293) (by decide +kernel))), ⟨by decide +kernel, by decide +kernel, by decide +kernel⟩, (sp_tb (List.mem_of_getElem? (i := 294) (by decide +kernel))), (sp_tb (List.mem_of_getElem? (i := 295) (by decide +kernel))), F_IS, 3, rfl⟩
theorem wv_MC_126 : xh_V "SpendScript$Machine" 126 1 y_IS_item b_IS_item 2 (some (.object "SpendScript$ByteString")) 1 := ⟨(sp_tb (List.mem_of_getElem? (i := 300) (by decide +kernel))), (sp_tb (List.mem_of_getElem? (i := 4) (by decide +kernel))), (sp_tb (List.mem_of_getElem? (i := 297) (by decide +kernel))), ⟨by decide +kernel, by decide +kernel, by decide +kernel⟩, (sp_tb (List.mem_of_getElem? (i := 298) (by decide +kernel))), (sp_tb (List.mem_of_getElem? (i := 299) (by decide +kernel))), F_IS, 3, rfl⟩
theorem wv_MC_130 : xh_V "SpendScript$Machine" 130 0 y_BS_isTrue b_BS_isTrue 3 (some .boolean) 0 := ⟨(sp_tb (List.mem_of_getElem? (i := 304) (by decide +kernel))), (sp_tb (List.mem_of_getElem? (i := 2) (by decide +kernel))), (sp_tb (List.mem_of_getElem? (i := 301) (by decide +kernel))), ⟨by decide +kernel, by decide +kernel, by decide +kernel⟩, (sp_tb (List.mem_of_getElem? (i := 302) (by decide +kernel))), (sp_tb (List.mem_of_getElem? (i := 303) (by decide +kernel))), F_BS, 2, rfl⟩
theorem wv_MC_119 : xh_V "SpendScript$Machine" 119 3 y_BR_openOne b_BR_openOne 2 none 1 := ⟨(sp_tb (List.mem_of_getElem? (i := 291) (by decide +kernel))), (sp_tb (List.mem_of_getElem? (i := 6) (by decide +kernel))), (sp_tb (List.mem_of_getElem? (i := 288) (by decide +kernel))), ⟨by decide +kernel, by decide +kernel, by decide +kernel⟩, (sp_tb (List.mem_of_getElem? (i := 289) (by decide +kernel))), (sp_tb (List.mem_of_getElem? (i := 290) (by decide +kernel))), F_BR, 2, rfl⟩
theorem wv_MC_133 : xh_V "SpendScript$Machine" 133 1 y_IS_drop b_IS_drop 2 none 1 := ⟨(sp_tb (List.mem_of_getElem? (i := 308) (by decide +kernel))), (sp_tb (List.mem_of_getElem? (i := 4) (by decide +kernel))), (sp_tb (List.mem_of_getElem? (i := 305) (by decide +kernel))), ⟨by decide +kernel, by decide +kernel, by decide +kernel⟩, (sp_tb (List.mem_of_getElem? (i := 306) (by decide +kernel))), (sp_tb (List.mem_of_getElem? (i := 307) (by decide +kernel))), F_IS, 3, rfl⟩
abbrev rm_MC_openBranch : Room := { frames := 2, cells := 0, slots := 0, locals := 101 }
def fx_MC_openBranch_b71 (s0 : Int32) (X : xh_T) : Option (Int32 × xh_T) :=
  xh_b (fx_BR_openOne s0 X) (fun (_ : Unit) (X7 : xh_T) =>
  xh_b (fx_IS_drop 10 1 X7) (fun (_ : Unit) (X8 : xh_T) =>
  some (0, X8)))
set_option maxRecDepth 100000 in
set_option maxHeartbeats 4000000 in
theorem jb_MC_openBranch_b71 {p : Program} {l : Launch} {e : Env} {s : State} {m : MethodId} {args : Array Value} {below : List Frame} {meth : Method} {c : Code} {D : va_G} {G : xh_G} (hz : xh_C p s m args c b_MC_openBranch 2 "SpendScript$Machine" D G (xh_A G s.heap.size)) (hr : meth.sig.returnType = (some .int)) (hlk : meth.locks = false) (s0 : Int32) (X : xh_T) : xh_J p l e rm_MC_openBranch s m args below meth c 0 0 D G (xh_A G s.heap.size) 2 (fun r X' => MQ below (xh_Qi D G (xh_A G s.heap.size) r X') args s 0 0 (xh_A G s.heap.size)) 71 [(0, .ref (G.1 138))] [.int s0, .ref (G.1 203)] X (fx_MC_openBranch_b71 s0 X) := by
  unfold fx_MC_openBranch_b71
  refine jr_callVv (As := [.int s0]) (a := 203) (ci := 3) (st := []) hz (cx_BR_openOne l D G hz.2.2.2.2.2.2.1 s0 X) (fun _ _ => ⟨lq_203, _, ly_203⟩) wv_MC_119 ⟨rfl, rfl, Nat.le_of_ble_eq_true rfl, Nat.le_of_ble_eq_true rfl⟩ ⟨Nat.zero_le _, Nat.zero_le _⟩ rfl rfl (Nat.le_of_ble_eq_true rfl) d_MC_openBranch_71 (fun _ X7 => ?_)
  refine jr_aload_n hz d_MC_openBranch_74 rfl 0 rfl ?_
  refine jr_getr (j := 0) (t := 10) hz lq_138 ly_138 rfl wf_MC_9 d_MC_openBranch_75 ?_
  refine jr_iconst (v := 1) hz d_MC_openBranch_78 (by decide) ?_
  refine jr_callVv (As := [.int 1]) (a := 10) (ci := 1) (st := []) hz (cx_IS_drop l D G hz.2.2.2.2.2.2.1 10 1 X7) (fun z h => sp_is_v (xh_k_t h)) wv_MC_133 ⟨rfl, rfl, Nat.le_of_ble_eq_true rfl, Nat.le_of_ble_eq_true rfl⟩ ⟨Nat.zero_le _, Nat.zero_le _⟩ rfl rfl (Nat.le_of_ble_eq_true rfl) d_MC_openBranch_79 (fun _ X8 => ?_)
  refine jr_iconst (v := 0) hz d_MC_openBranch_82 (by decide) ?_
  exact jr_iret hz hr hlk d_MC_openBranch_83
def fx_MC_openBranch (p1 : Int32) (X : xh_T) : Option (Int32 × xh_T) :=
  xh_b (fx_BR_mayOpen X) (fun (r2 : Int32) (X1 : xh_T) =>
  if r2 = 0 then
  some (8, X1)
  else xh_b (fx_BR_allActive X1) (fun (r6 : Int32) (X2 : xh_T) =>
  if r6 = 0 then
  xh_b (fx_BR_openOne 0 X2) (fun (_ : Unit) (X6 : xh_T) =>
  some (0, X6))
  else xh_b (fx_IS_has 10 0 X2) (fun (r10 : Int32) (X3 : xh_T) =>
  if r10 = 0 then
  some (11, X3)
  else xh_b (fx_IS_item 10 0 X3) (fun (q16 : Nat) (X4 : xh_T) =>
  xh_b (fx_BS_isTrue q16 X4) (fun (r18 : Int32) (X5 : xh_T) =>
  if r18 = p1 then
  fx_MC_openBranch_b71 1 X5
  else fx_MC_openBranch_b71 0 X5)))))
set_option maxRecDepth 100000 in
set_option maxHeartbeats 4000000 in
theorem cx_MC_openBranch (l : Launch) (D : va_G) (G : xh_G) (hD : xh_D G) (p1 : Int32) (X : xh_T) : xh_M xh_Qi l D G y_MC_openBranch b_MC_openBranch 2 (some .int) rm_MC_openBranch [.ref (G.1 138), .int p1] X (fx_MC_openBranch p1 X) := by
  refine xh_enter (ls := [(0, .ref (G.1 138)), (1, .int p1)]) hD (by decide +kernel) (Nat.le_of_ble_eq_true rfl) rfl ?_
  intro p e s m args below meth c hz hr hlk
  unfold fx_MC_openBranch
  refine jr_aload_n hz d_MC_openBranch_0 rfl 0 rfl ?_
  refine jr_getr (j := 2) (t := 203) hz lq_138 ly_138 rfl wf_MC_24 d_MC_openBranch_1 ?_
  refine jr_callVi (As := []) (a := 203) (ci := 3) (st := []) hz (cx_BR_mayOpen l D G hz.2.2.2.2.2.2.1 X) (fun _ _ => ⟨lq_203, _, ly_203⟩) wv_MC_116 ⟨rfl, rfl, Nat.le_of_ble_eq_true rfl, Nat.le_of_ble_eq_true rfl⟩ ⟨Nat.zero_le _, Nat.zero_le _⟩ rfl rfl (Nat.le_of_ble_eq_true rfl) d_MC_openBranch_4 (fun r2 X1 => ?_)
  refine jr_if_ne (tgt := 13) hz d_MC_openBranch_7 (by decide) ?_ ?_
  · refine jr_aload_n hz d_MC_openBranch_13 rfl 0 rfl ?_
    refine jr_getr (j := 2) (t := 203) hz lq_138 ly_138 rfl wf_MC_24 d_MC_openBranch_14 ?_
    refine jr_callVi (As := []) (a := 203) (ci := 3) (st := []) hz (cx_BR_allActive l D G hz.2.2.2.2.2.2.1 X1) (fun _ _ => ⟨lq_203, _, ly_203⟩) wv_MC_82 ⟨rfl, rfl, Nat.le_of_ble_eq_true rfl, Nat.le_of_ble_eq_true rfl⟩ ⟨Nat.zero_le _, Nat.zero_le _⟩ rfl rfl (Nat.le_of_ble_eq_true rfl) d_MC_openBranch_17 (fun r6 X2 => ?_)
    refine jr_if_ne (tgt := 33) hz d_MC_openBranch_20 (by decide) ?_ ?_
    · refine jr_aload_n hz d_MC_openBranch_33 rfl 0 rfl ?_
      refine jr_getr (j := 0) (t := 10) hz lq_138 ly_138 rfl wf_MC_9 d_MC_openBranch_34 ?_
      refine jr_iconst (v := 0) hz d_MC_openBranch_37 (by decide) ?_
      refine jr_callVi (As := [.int 0]) (a := 10) (ci := 1) (st := []) hz (cx_IS_has l D G hz.2.2.2.2.2.2.1 10 0 X2) (fun z h => sp_is_v (xh_k_t h)) wv_MC_123 ⟨rfl, rfl, Nat.le_of_ble_eq_true rfl, Nat.le_of_ble_eq_true rfl⟩ ⟨Nat.zero_le _, Nat.zero_le _⟩ rfl rfl (Nat.le_of_ble_eq_true rfl) d_MC_openBranch_38 (fun r10 X3 => ?_)
      refine jr_if_ne (tgt := 47) hz d_MC_openBranch_41 (by decide) ?_ ?_
      · refine jr_aload_n hz d_MC_openBranch_47 rfl 0 rfl ?_
        refine jr_getr (j := 2) (t := 203) hz lq_138 ly_138 rfl wf_MC_24 d_MC_openBranch_48 ?_
        refine jr_aload_n hz d_MC_openBranch_51 rfl 0 rfl ?_
        refine jr_getr (j := 0) (t := 10) hz lq_138 ly_138 rfl wf_MC_9 d_MC_openBranch_52 ?_
        refine jr_iconst (v := 0) hz d_MC_openBranch_55 (by decide) ?_
        refine jr_callVr (As := [.int 0]) (a := 10) (ci := 1) (st := [.ref (G.1 203)]) hz (cx_IS_item l D G hz.2.2.2.2.2.2.1 10 0 X3) (fun z h => sp_is_v (xh_k_t h)) wv_MC_126 ⟨rfl, rfl, Nat.le_of_ble_eq_true rfl, Nat.le_of_ble_eq_true rfl⟩ ⟨Nat.zero_le _, Nat.zero_le _⟩ rfl rfl (Nat.le_of_ble_eq_true rfl) d_MC_openBranch_56 (fun q16 X4 => ?_)
        refine jr_callVi (As := []) (a := q16) (ci := 0) (st := [.ref (G.1 203)]) hz (cx_BS_isTrue l D G hz.2.2.2.2.2.2.1 q16 X4) (fun z h => sp_bs_v (xh_k_t h)) wv_MC_130 ⟨rfl, rfl, Nat.le_of_ble_eq_true rfl, Nat.le_of_ble_eq_true rfl⟩ ⟨Nat.zero_le _, Nat.zero_le _⟩ rfl rfl (Nat.le_of_ble_eq_true rfl) d_MC_openBranch_59 (fun r18 X5 => ?_)
        refine jr_iload_n hz d_MC_openBranch_62 rfl 1 rfl ?_
        refine jr_icmp_ne (tgt := 70) hz d_MC_openBranch_63 (by decide) ?_ ?_
        · refine jr_iconst (v := 0) hz d_MC_openBranch_70 (by decide) ?_
          refine jr_sub (ls' := [(0, .ref (G.1 138))]) [0] rfl ?_
          exact jb_MC_openBranch_b71 hz hr hlk 0 X5
        · refine jr_iconst (v := 1) hz d_MC_openBranch_66 (by decide) ?_
          refine jr_goto (tgt := 71) hz d_MC_openBranch_67 (by decide) ?_
          refine jr_sub (ls' := [(0, .ref (G.1 138))]) [0] rfl ?_
          exact jb_MC_openBranch_b71 hz hr hlk 1 X5
      · refine jr_bipush (v := 11) hz d_MC_openBranch_44 (by decide) ?_
        exact jr_iret hz hr hlk d_MC_openBranch_46
    · refine jr_aload_n hz d_MC_openBranch_23 rfl 0 rfl ?_
      refine jr_getr (j := 2) (t := 203) hz lq_138 ly_138 rfl wf_MC_24 d_MC_openBranch_24 ?_
      refine jr_iconst (v := 0) hz d_MC_openBranch_27 (by decide) ?_
      refine jr_callVv (As := [.int 0]) (a := 203) (ci := 3) (st := []) hz (cx_BR_openOne l D G hz.2.2.2.2.2.2.1 0 X2) (fun _ _ => ⟨lq_203, _, ly_203⟩) wv_MC_119 ⟨rfl, rfl, Nat.le_of_ble_eq_true rfl, Nat.le_of_ble_eq_true rfl⟩ ⟨Nat.zero_le _, Nat.zero_le _⟩ rfl rfl (Nat.le_of_ble_eq_true rfl) d_MC_openBranch_28 (fun _ X6 => ?_)
      refine jr_iconst (v := 0) hz d_MC_openBranch_31 (by decide) ?_
      exact jr_iret hz hr hlk d_MC_openBranch_32
  · refine jr_bipush (v := 8) hz d_MC_openBranch_10 (by decide) ?_
    exact jr_iret hz hr hlk d_MC_openBranch_12
theorem d_MC_turnBranch_0 : decode b_MC_turnBranch 0 = .ok (.aload_n 0, 1) := by decide +kernel
theorem d_MC_turnBranch_1 : decode b_MC_turnBranch 1 = .ok (.getfield 24, 3) := by decide +kernel
theorem d_MC_turnBranch_4 : decode b_MC_turnBranch 4 = .ok (.invokevirtual 75, 3) := by decide +kernel
theorem d_MC_turnBranch_7 : decode b_MC_turnBranch 7 = .ok (.ifCond .ne 6, 3) := by decide +kernel
theorem d_MC_turnBranch_10 : decode b_MC_turnBranch 10 = .ok (.bipush 7, 2) := by decide +kernel
theorem d_MC_turnBranch_12 : decode b_MC_turnBranch 12 = .ok (.ireturn, 1) := by decide +kernel
theorem d_MC_turnBranch_13 : decode b_MC_turnBranch 13 = .ok (.iload_n 1, 1) := by decide +kernel
theorem d_MC_turnBranch_14 : decode b_MC_turnBranch 14 = .ok (.ifCond .eq 13, 3) := by decide +kernel
theorem d_MC_turnBranch_17 : decode b_MC_turnBranch 17 = .ok (.aload_n 0, 1) := by decide +kernel
theorem d_MC_turnBranch_18 : decode b_MC_turnBranch 18 = .ok (.getfield 24, 3) := by decide +kernel
theorem d_MC_turnBranch_21 : decode b_MC_turnBranch 21 = .ok (.invokevirtual 137, 3) := by decide +kernel
theorem d_MC_turnBranch_24 : decode b_MC_turnBranch 24 = .ok (.goto 10, 3) := by decide +kernel
theorem d_MC_turnBranch_27 : decode b_MC_turnBranch 27 = .ok (.aload_n 0, 1) := by decide +kernel
theorem d_MC_turnBranch_28 : decode b_MC_turnBranch 28 = .ok (.getfield 24, 3) := by decide +kernel
theorem d_MC_turnBranch_31 : decode b_MC_turnBranch 31 = .ok (.invokevirtual 140, 3) := by decide +kernel
theorem d_MC_turnBranch_34 : decode b_MC_turnBranch 34 = .ok (.iconst 0, 1) := by decide +kernel
theorem d_MC_turnBranch_35 : decode b_MC_turnBranch 35 = .ok (.ireturn, 1) := by decide +kernel
theorem wv_MC_75 : xh_V "SpendScript$Machine" 75 3 y_BR_anyOpen b_BR_anyOpen 1 (some .boolean) 0 := ⟨(sp_tb (List.mem_of_getElem? (i := 319) (by decide +kernel))), (sp_tb (List.mem_of_getElem? (i := 6) (by decide +kernel))), (sp_tb (List.mem_of_getElem? (i := 316) (by decide +kernel))), ⟨by decide +kernel, by decide +kernel, by decide +kernel⟩, (sp_tb (List.mem_of_getElem? (i := 317) (by decide +kernel))), (sp_tb (List.mem_of_getElem? (i := 318) (by decide +kernel))), F_BR, 2, rfl⟩
theorem wv_MC_140 : xh_V "SpendScript$Machine" 140 3 y_BR_flipLast b_BR_flipLast 1 none 0 := ⟨(sp_tb (List.mem_of_getElem? (i := 328) (by decide +kernel))), (sp_tb (List.mem_of_getElem? (i := 6) (by decide +kernel))), (sp_tb (List.mem_of_getElem? (i := 325) (by decide +kernel))), ⟨by decide +kernel, by decide +kernel, by decide +kernel⟩, (sp_tb (List.mem_of_getElem? (i := 326) (by decide +kernel))), (sp_tb (List.mem_of_getElem? (i := 327) (by decide +kernel))), F_BR, 2, rfl⟩
theorem wv_MC_137 : xh_V "SpendScript$Machine" 137 3 y_BR_closeLast b_BR_closeLast 1 none 0 := ⟨(sp_tb (List.mem_of_getElem? (i := 323) (by decide +kernel))), (sp_tb (List.mem_of_getElem? (i := 6) (by decide +kernel))), (sp_tb (List.mem_of_getElem? (i := 320) (by decide +kernel))), ⟨by decide +kernel, by decide +kernel, by decide +kernel⟩, (sp_tb (List.mem_of_getElem? (i := 321) (by decide +kernel))), (sp_tb (List.mem_of_getElem? (i := 322) (by decide +kernel))), F_BR, 2, rfl⟩
abbrev rm_MC_turnBranch : Room := { frames := 2, cells := 0, slots := 0, locals := 40 }
def fx_MC_turnBranch (p1 : Int32) (X : xh_T) : Option (Int32 × xh_T) :=
  xh_b (fx_BR_anyOpen X) (fun (r2 : Int32) (X1 : xh_T) =>
  if r2 = 0 then
  some (7, X1)
  else if p1 = 0 then
  xh_b (fx_BR_flipLast X1) (fun (_ : Unit) (X2 : xh_T) =>
  some (0, X2))
  else xh_b (fx_BR_closeLast X1) (fun (_ : Unit) (X3 : xh_T) =>
  some (0, X3)))
set_option maxRecDepth 100000 in
set_option maxHeartbeats 4000000 in
theorem cx_MC_turnBranch (l : Launch) (D : va_G) (G : xh_G) (hD : xh_D G) (p1 : Int32) (X : xh_T) : xh_M xh_Qi l D G y_MC_turnBranch b_MC_turnBranch 2 (some .int) rm_MC_turnBranch [.ref (G.1 138), .int p1] X (fx_MC_turnBranch p1 X) := by
  refine xh_enter (ls := [(0, .ref (G.1 138)), (1, .int p1)]) hD (by decide +kernel) (Nat.le_of_ble_eq_true rfl) rfl ?_
  intro p e s m args below meth c hz hr hlk
  unfold fx_MC_turnBranch
  refine jr_aload_n hz d_MC_turnBranch_0 rfl 0 rfl ?_
  refine jr_getr (j := 2) (t := 203) hz lq_138 ly_138 rfl wf_MC_24 d_MC_turnBranch_1 ?_
  refine jr_callVi (As := []) (a := 203) (ci := 3) (st := []) hz (cx_BR_anyOpen l D G hz.2.2.2.2.2.2.1 X) (fun _ _ => ⟨lq_203, _, ly_203⟩) wv_MC_75 ⟨rfl, rfl, Nat.le_of_ble_eq_true rfl, Nat.le_of_ble_eq_true rfl⟩ ⟨Nat.zero_le _, Nat.zero_le _⟩ rfl rfl (Nat.le_of_ble_eq_true rfl) d_MC_turnBranch_4 (fun r2 X1 => ?_)
  refine jr_if_ne (tgt := 13) hz d_MC_turnBranch_7 (by decide) ?_ ?_
  · refine jr_iload_n hz d_MC_turnBranch_13 rfl 1 rfl ?_
    refine jr_if_eq (tgt := 27) hz d_MC_turnBranch_14 (by decide) ?_ ?_
    · refine jr_aload_n hz d_MC_turnBranch_27 rfl 0 rfl ?_
      refine jr_getr (j := 2) (t := 203) hz lq_138 ly_138 rfl wf_MC_24 d_MC_turnBranch_28 ?_
      refine jr_callVv (As := []) (a := 203) (ci := 3) (st := []) hz (cx_BR_flipLast l D G hz.2.2.2.2.2.2.1 X1) (fun _ _ => ⟨lq_203, _, ly_203⟩) wv_MC_140 ⟨rfl, rfl, Nat.le_of_ble_eq_true rfl, Nat.le_of_ble_eq_true rfl⟩ ⟨Nat.zero_le _, Nat.zero_le _⟩ rfl rfl (Nat.le_of_ble_eq_true rfl) d_MC_turnBranch_31 (fun _ X2 => ?_)
      refine jr_iconst (v := 0) hz d_MC_turnBranch_34 (by decide) ?_
      exact jr_iret hz hr hlk d_MC_turnBranch_35
    · refine jr_aload_n hz d_MC_turnBranch_17 rfl 0 rfl ?_
      refine jr_getr (j := 2) (t := 203) hz lq_138 ly_138 rfl wf_MC_24 d_MC_turnBranch_18 ?_
      refine jr_callVv (As := []) (a := 203) (ci := 3) (st := []) hz (cx_BR_closeLast l D G hz.2.2.2.2.2.2.1 X1) (fun _ _ => ⟨lq_203, _, ly_203⟩) wv_MC_137 ⟨rfl, rfl, Nat.le_of_ble_eq_true rfl, Nat.le_of_ble_eq_true rfl⟩ ⟨Nat.zero_le _, Nat.zero_le _⟩ rfl rfl (Nat.le_of_ble_eq_true rfl) d_MC_turnBranch_21 (fun _ X3 => ?_)
      refine jr_goto (tgt := 34) hz d_MC_turnBranch_24 (by decide) ?_
      refine jr_iconst (v := 0) hz d_MC_turnBranch_34 (by decide) ?_
      exact jr_iret hz hr hlk d_MC_turnBranch_35
  · refine jr_bipush (v := 7) hz d_MC_turnBranch_10 (by decide) ?_
    exact jr_iret hz hr hlk d_MC_turnBranch_12
theorem d_MC_meetOperation_0 : decode b_MC_meetOperation 0 = .ok (.iload_n 1, 1) := by decide +kernel
theorem d_MC_meetOperation_1 : decode b_MC_meetOperation 1 = .ok (.invokestatic 102, 3) := by decide +kernel
theorem d_MC_meetOperation_4 : decode b_MC_meetOperation 4 = .ok (.ifCond .ne 5, 3) := by decide +kernel
theorem d_MC_meetOperation_7 : decode b_MC_meetOperation 7 = .ok (.iconst 2, 1) := by decide +kernel
theorem d_MC_meetOperation_8 : decode b_MC_meetOperation 8 = .ok (.ireturn, 1) := by decide +kernel
theorem d_MC_meetOperation_9 : decode b_MC_meetOperation 9 = .ok (.aload_n 0, 1) := by decide +kernel
theorem d_MC_meetOperation_10 : decode b_MC_meetOperation 10 = .ok (.getfield 37, 3) := by decide +kernel
theorem d_MC_meetOperation_13 : decode b_MC_meetOperation 13 = .ok (.bipush 25, 2) := by decide +kernel
theorem d_MC_meetOperation_15 : decode b_MC_meetOperation 15 = .ok (.if_icmp .lt 6, 3) := by decide +kernel
theorem d_MC_meetOperation_18 : decode b_MC_meetOperation 18 = .ok (.bipush 6, 2) := by decide +kernel
theorem d_MC_meetOperation_20 : decode b_MC_meetOperation 20 = .ok (.ireturn, 1) := by decide +kernel
theorem d_MC_meetOperation_21 : decode b_MC_meetOperation 21 = .ok (.aload_n 0, 1) := by decide +kernel
theorem d_MC_meetOperation_22 : decode b_MC_meetOperation 22 = .ok (.dup, 1) := by decide +kernel
theorem d_MC_meetOperation_23 : decode b_MC_meetOperation 23 = .ok (.getfield 37, 3) := by decide +kernel
theorem d_MC_meetOperation_26 : decode b_MC_meetOperation 26 = .ok (.iconst 1, 1) := by decide +kernel
theorem d_MC_meetOperation_27 : decode b_MC_meetOperation 27 = .ok (.iadd, 1) := by decide +kernel
theorem d_MC_meetOperation_28 : decode b_MC_meetOperation 28 = .ok (.putfield 37, 3) := by decide +kernel
theorem d_MC_meetOperation_31 : decode b_MC_meetOperation 31 = .ok (.iload_n 1, 1) := by decide +kernel
theorem d_MC_meetOperation_32 : decode b_MC_meetOperation 32 = .ok (.bipush 99, 2) := by decide +kernel
theorem d_MC_meetOperation_34 : decode b_MC_meetOperation 34 = .ok (.if_icmp .eq 9, 3) := by decide +kernel
theorem d_MC_meetOperation_37 : decode b_MC_meetOperation 37 = .ok (.iload_n 1, 1) := by decide +kernel
theorem d_MC_meetOperation_38 : decode b_MC_meetOperation 38 = .ok (.bipush 100, 2) := by decide +kernel
theorem d_MC_meetOperation_40 : decode b_MC_meetOperation 40 = .ok (.if_icmp .ne 22, 3) := by decide +kernel
theorem d_MC_meetOperation_43 : decode b_MC_meetOperation 43 = .ok (.aload_n 0, 1) := by decide +kernel
theorem d_MC_meetOperation_44 : decode b_MC_meetOperation 44 = .ok (.iload_n 1, 1) := by decide +kernel
theorem d_MC_meetOperation_45 : decode b_MC_meetOperation 45 = .ok (.bipush 99, 2) := by decide +kernel
theorem d_MC_meetOperation_47 : decode b_MC_meetOperation 47 = .ok (.if_icmp .ne 7, 3) := by decide +kernel
theorem d_MC_meetOperation_50 : decode b_MC_meetOperation 50 = .ok (.iconst 1, 1) := by decide +kernel
theorem d_MC_meetOperation_51 : decode b_MC_meetOperation 51 = .ok (.goto 4, 3) := by decide +kernel
theorem d_MC_meetOperation_54 : decode b_MC_meetOperation 54 = .ok (.iconst 0, 1) := by decide +kernel
theorem d_MC_meetOperation_55 : decode b_MC_meetOperation 55 = .ok (.invokevirtual 106, 3) := by decide +kernel
theorem d_MC_meetOperation_58 : decode b_MC_meetOperation 58 = .ok (.istore_n 2, 1) := by decide +kernel
theorem d_MC_meetOperation_59 : decode b_MC_meetOperation 59 = .ok (.goto 58, 3) := by decide +kernel
theorem d_MC_meetOperation_62 : decode b_MC_meetOperation 62 = .ok (.iload_n 1, 1) := by decide +kernel
theorem d_MC_meetOperation_63 : decode b_MC_meetOperation 63 = .ok (.bipush 103, 2) := by decide +kernel
theorem d_MC_meetOperation_65 : decode b_MC_meetOperation 65 = .ok (.if_icmp .eq 9, 3) := by decide +kernel
theorem d_MC_meetOperation_68 : decode b_MC_meetOperation 68 = .ok (.iload_n 1, 1) := by decide +kernel
theorem d_MC_meetOperation_69 : decode b_MC_meetOperation 69 = .ok (.bipush 104, 2) := by decide +kernel
theorem d_MC_meetOperation_71 : decode b_MC_meetOperation 71 = .ok (.if_icmp .ne 22, 3) := by decide +kernel
theorem d_MC_meetOperation_74 : decode b_MC_meetOperation 74 = .ok (.aload_n 0, 1) := by decide +kernel
theorem d_MC_meetOperation_75 : decode b_MC_meetOperation 75 = .ok (.iload_n 1, 1) := by decide +kernel
theorem d_MC_meetOperation_76 : decode b_MC_meetOperation 76 = .ok (.bipush 104, 2) := by decide +kernel
theorem d_MC_meetOperation_78 : decode b_MC_meetOperation 78 = .ok (.if_icmp .ne 7, 3) := by decide +kernel
theorem d_MC_meetOperation_81 : decode b_MC_meetOperation 81 = .ok (.iconst 1, 1) := by decide +kernel
theorem d_MC_meetOperation_82 : decode b_MC_meetOperation 82 = .ok (.goto 4, 3) := by decide +kernel
theorem d_MC_meetOperation_85 : decode b_MC_meetOperation 85 = .ok (.iconst 0, 1) := by decide +kernel
theorem d_MC_meetOperation_86 : decode b_MC_meetOperation 86 = .ok (.invokevirtual 110, 3) := by decide +kernel
theorem d_MC_meetOperation_89 : decode b_MC_meetOperation 89 = .ok (.istore_n 2, 1) := by decide +kernel
theorem d_MC_meetOperation_90 : decode b_MC_meetOperation 90 = .ok (.goto 27, 3) := by decide +kernel
theorem d_MC_meetOperation_93 : decode b_MC_meetOperation 93 = .ok (.aload_n 0, 1) := by decide +kernel
theorem d_MC_meetOperation_94 : decode b_MC_meetOperation 94 = .ok (.getfield 24, 3) := by decide +kernel
theorem d_MC_meetOperation_97 : decode b_MC_meetOperation 97 = .ok (.invokevirtual 82, 3) := by decide +kernel
theorem d_MC_meetOperation_100 : decode b_MC_meetOperation 100 = .ok (.ifCond .eq 15, 3) := by decide +kernel
theorem d_MC_meetOperation_103 : decode b_MC_meetOperation 103 = .ok (.aload_n 0, 1) := by decide +kernel
theorem d_MC_meetOperation_104 : decode b_MC_meetOperation 104 = .ok (.getfield 33, 3) := by decide +kernel
theorem d_MC_meetOperation_107 : decode b_MC_meetOperation 107 = .ok (.iload_n 1, 1) := by decide +kernel
theorem d_MC_meetOperation_108 : decode b_MC_meetOperation 108 = .ok (.invokevirtual 113, 3) := by decide +kernel
theorem d_MC_meetOperation_111 : decode b_MC_meetOperation 111 = .ok (.istore_n 2, 1) := by decide +kernel
theorem d_MC_meetOperation_112 : decode b_MC_meetOperation 112 = .ok (.goto 5, 3) := by decide +kernel
theorem d_MC_meetOperation_115 : decode b_MC_meetOperation 115 = .ok (.iconst 0, 1) := by decide +kernel
theorem d_MC_meetOperation_116 : decode b_MC_meetOperation 116 = .ok (.ireturn, 1) := by decide +kernel
theorem d_MC_meetOperation_117 : decode b_MC_meetOperation 117 = .ok (.iload_n 2, 1) := by decide +kernel
theorem d_MC_meetOperation_118 : decode b_MC_meetOperation 118 = .ok (.ifCond .ne 13, 3) := by decide +kernel
theorem d_MC_meetOperation_121 : decode b_MC_meetOperation 121 = .ok (.aload_n 0, 1) := by decide +kernel
theorem d_MC_meetOperation_122 : decode b_MC_meetOperation 122 = .ok (.dup, 1) := by decide +kernel
theorem d_MC_meetOperation_123 : decode b_MC_meetOperation 123 = .ok (.getfield 44, 3) := by decide +kernel
theorem d_MC_meetOperation_126 : decode b_MC_meetOperation 126 = .ok (.iconst 1, 1) := by decide +kernel
theorem d_MC_meetOperation_127 : decode b_MC_meetOperation 127 = .ok (.iadd, 1) := by decide +kernel
theorem d_MC_meetOperation_128 : decode b_MC_meetOperation 128 = .ok (.putfield 44, 3) := by decide +kernel
theorem d_MC_meetOperation_131 : decode b_MC_meetOperation 131 = .ok (.iload_n 2, 1) := by decide +kernel
theorem d_MC_meetOperation_132 : decode b_MC_meetOperation 132 = .ok (.ireturn, 1) := by decide +kernel
theorem ws_MC_102 : xh_S "SpendScript$Machine" 102 y_OP_isKnown b_OP_isKnown 1 (some .boolean) 1 := ⟨(sp_tb (List.mem_of_getElem? (i := 279) (by decide +kernel))), (sp_tb (List.mem_of_getElem? (i := 7) (by decide +kernel))), (sp_tb (List.mem_of_getElem? (i := 277) (by decide +kernel))), ⟨by decide +kernel, by decide +kernel, by decide +kernel⟩, (sp_tb (List.mem_of_getElem? (i := 278) (by decide +kernel)))⟩
theorem wf_MC_37 : xh_F "SpendScript$Machine" 37 4 4 := ⟨R_MC, F_MC, 7, rfl, by decide, iw_MC, (sp_tb (List.mem_of_getElem? (i := 110) (by decide +kernel)))⟩
theorem wp_MC_37 : xh_Fp "SpendScript$Machine" 37 4 4 := ⟨R_MC, F_MC, 7, t_MC, rfl, by decide, iw_MC, (sp_tb (List.mem_of_getElem? (i := 110) (by decide +kernel))), tk_MC, nk_MC, rfl, rfl⟩
theorem wf_MC_33 : xh_F "SpendScript$Machine" 33 4 3 := ⟨R_MC, F_MC, 7, rfl, by decide, iw_MC, (sp_tb (List.mem_of_getElem? (i := 109) (by decide +kernel)))⟩
theorem wv_MC_113 : xh_V "SpendScript$Machine" 113 5 y_OP_operate b_OP_operate 3 (some .int) 1 := ⟨(sp_tb (List.mem_of_getElem? (i := 332) (by decide +kernel))), (sp_tb (List.mem_of_getElem? (i := 7) (by decide +kernel))), (sp_tb (List.mem_of_getElem? (i := 329) (by decide +kernel))), ⟨by decide +kernel, by decide +kernel, by decide +kernel⟩, (sp_tb (List.mem_of_getElem? (i := 330) (by decide +kernel))), (sp_tb (List.mem_of_getElem? (i := 331) (by decide +kernel))), F_OP, 3, rfl⟩
theorem wv_MC_106 : xh_V "SpendScript$Machine" 106 4 y_MC_openBranch b_MC_openBranch 2 (some .int) 1 := ⟨(sp_tb (List.mem_of_getElem? (i := 283) (by decide +kernel))), (sp_tb (List.mem_of_getElem? (i := 5) (by decide +kernel))), (sp_tb (List.mem_of_getElem? (i := 280) (by decide +kernel))), ⟨by decide +kernel, by decide +kernel, by decide +kernel⟩, (sp_tb (List.mem_of_getElem? (i := 282) (by decide +kernel))), (sp_pv (q := (y_MC_openBranch, 7)) (List.mem_of_getElem? (i := 4) (by decide +kernel))), F_MC, 7, rfl⟩
theorem wv_MC_110 : xh_V "SpendScript$Machine" 110 4 y_MC_turnBranch b_MC_turnBranch 2 (some .int) 1 := ⟨(sp_tb (List.mem_of_getElem? (i := 315) (by decide +kernel))), (sp_tb (List.mem_of_getElem? (i := 5) (by decide +kernel))), (sp_tb (List.mem_of_getElem? (i := 312) (by decide +kernel))), ⟨by decide +kernel, by decide +kernel, by decide +kernel⟩, (sp_tb (List.mem_of_getElem? (i := 314) (by decide +kernel))), (sp_pv (q := (y_MC_turnBranch, 7)) (List.mem_of_getElem? (i := 5) (by decide +kernel))), F_MC, 7, rfl⟩
abbrev rm_MC_meetOperation : Room := { frames := 5, cells := 0, slots := 0, locals := 178 }
def fx_MC_meetOperation_b117 (a2 : Int32) (X : xh_T) : Option (Int32 × xh_T) :=
  if a2 = 0 then
  xh_n (xh_i X 138 6 (X.1 138 6 + 1)) (fun X5 : xh_T =>
  some (a2, X5))
  else some (a2, X)
set_option maxRecDepth 100000 in
set_option maxHeartbeats 4000000 in
theorem jb_MC_meetOperation_b117 {p : Program} {l : Launch} {e : Env} {s : State} {m : MethodId} {args : Array Value} {below : List Frame} {meth : Method} {c : Code} {D : va_G} {G : xh_G} (hz : xh_C p s m args c b_MC_meetOperation 3 "SpendScript$Machine" D G (xh_A G s.heap.size)) (hr : meth.sig.returnType = (some .int)) (hlk : meth.locks = false) (a2 : Int32) (X : xh_T) : xh_J p l e rm_MC_meetOperation s m args below meth c 0 0 D G (xh_A G s.heap.size) 3 (fun r X' => MQ below (xh_Qi D G (xh_A G s.heap.size) r X') args s 0 0 (xh_A G s.heap.size)) 117 [(0, .ref (G.1 138)), (2, .int a2)] [] X (fx_MC_meetOperation_b117 a2 X) := by
  unfold fx_MC_meetOperation_b117
  refine jr_iload_n hz d_MC_meetOperation_117 rfl 1 rfl ?_
  refine jr_if_ne (tgt := 131) hz d_MC_meetOperation_118 (by decide) ?_ ?_
  · refine jr_iload_n hz d_MC_meetOperation_131 rfl 1 rfl ?_
    exact jr_iret hz hr hlk d_MC_meetOperation_132
  · refine jr_aload_n hz d_MC_meetOperation_121 rfl 0 rfl ?_
    refine jr_dup hz d_MC_meetOperation_122 rfl ?_
    refine jr_geti (j := 6) hz lq_138 ly_138 rfl wf_MC_44 d_MC_meetOperation_123 ?_
    refine jr_iconst (v := 1) hz d_MC_meetOperation_126 (by decide) ?_
    refine jr_iadd hz d_MC_meetOperation_127 ?_
    refine jr_puti hz lq_138 ly_138 rfl wp_MC_44 d_MC_meetOperation_128 (fun X5 => ?_)
    refine jr_iload_n hz d_MC_meetOperation_131 rfl 1 rfl ?_
    exact jr_iret hz hr hlk d_MC_meetOperation_132
def fx_MC_meetOperation_b55 (s0 : Int32) (X : xh_T) : Option (Int32 × xh_T) :=
  xh_b (fx_MC_openBranch s0 X) (fun (r14 : Int32) (X6 : xh_T) =>
  xh_n r14 (fun v18 : Int32 =>
  fx_MC_meetOperation_b117 v18 X6))
set_option maxRecDepth 100000 in
set_option maxHeartbeats 4000000 in
theorem jb_MC_meetOperation_b55 {p : Program} {l : Launch} {e : Env} {s : State} {m : MethodId} {args : Array Value} {below : List Frame} {meth : Method} {c : Code} {D : va_G} {G : xh_G} (hz : xh_C p s m args c b_MC_meetOperation 3 "SpendScript$Machine" D G (xh_A G s.heap.size)) (hr : meth.sig.returnType = (some .int)) (hlk : meth.locks = false) (s0 : Int32) (X : xh_T) : xh_J p l e rm_MC_meetOperation s m args below meth c 0 0 D G (xh_A G s.heap.size) 3 (fun r X' => MQ below (xh_Qi D G (xh_A G s.heap.size) r X') args s 0 0 (xh_A G s.heap.size)) 55 [(0, .ref (G.1 138))] [.int s0, .ref (G.1 138)] X (fx_MC_meetOperation_b55 s0 X) := by
  unfold fx_MC_meetOperation_b55
  refine jr_callVi (As := [.int s0]) (a := 138) (ci := 4) (st := []) hz (cx_MC_openBranch l D G hz.2.2.2.2.2.2.1 s0 X) (fun _ _ => ⟨lq_138, _, ly_138⟩) wv_MC_106 ⟨rfl, rfl, Nat.le_of_ble_eq_true rfl, Nat.le_of_ble_eq_true rfl⟩ ⟨Nat.zero_le _, Nat.zero_le _⟩ rfl rfl (Nat.le_of_ble_eq_true rfl) d_MC_meetOperation_55 (fun r14 X6 => ?_)
  refine jr_istore_n (lf := [(0, .ref (G.1 138))]) hz d_MC_meetOperation_58 rfl (by decide) rfl (fun v18 => ?_)
  refine jr_goto (tgt := 117) hz d_MC_meetOperation_59 (by decide) ?_
  refine jr_sub (ls' := [(0, .ref (G.1 138)), (2, .int v18)]) [1, 0] rfl ?_
  exact jb_MC_meetOperation_b117 hz hr hlk v18 X6
def fx_MC_meetOperation_b86 (s0 : Int32) (X : xh_T) : Option (Int32 × xh_T) :=
  xh_b (fx_MC_turnBranch s0 X) (fun (r19 : Int32) (X7 : xh_T) =>
  xh_n r19 (fun v23 : Int32 =>
  fx_MC_meetOperation_b117 v23 X7))
set_option maxRecDepth 100000 in
set_option maxHeartbeats 4000000 in
theorem jb_MC_meetOperation_b86 {p : Program} {l : Launch} {e : Env} {s : State} {m : MethodId} {args : Array Value} {below : List Frame} {meth : Method} {c : Code} {D : va_G} {G : xh_G} (hz : xh_C p s m args c b_MC_meetOperation 3 "SpendScript$Machine" D G (xh_A G s.heap.size)) (hr : meth.sig.returnType = (some .int)) (hlk : meth.locks = false) (s0 : Int32) (X : xh_T) : xh_J p l e rm_MC_meetOperation s m args below meth c 0 0 D G (xh_A G s.heap.size) 3 (fun r X' => MQ below (xh_Qi D G (xh_A G s.heap.size) r X') args s 0 0 (xh_A G s.heap.size)) 86 [(0, .ref (G.1 138))] [.int s0, .ref (G.1 138)] X (fx_MC_meetOperation_b86 s0 X) := by
  unfold fx_MC_meetOperation_b86
  refine jr_callVi (As := [.int s0]) (a := 138) (ci := 4) (st := []) hz (cx_MC_turnBranch l D G hz.2.2.2.2.2.2.1 s0 X) (fun _ _ => ⟨lq_138, _, ly_138⟩) wv_MC_110 ⟨rfl, rfl, Nat.le_of_ble_eq_true rfl, Nat.le_of_ble_eq_true rfl⟩ ⟨Nat.zero_le _, Nat.zero_le _⟩ rfl rfl (Nat.le_of_ble_eq_true rfl) d_MC_meetOperation_86 (fun r19 X7 => ?_)
  refine jr_istore_n (lf := [(0, .ref (G.1 138))]) hz d_MC_meetOperation_89 rfl (by decide) rfl (fun v23 => ?_)
  refine jr_goto (tgt := 117) hz d_MC_meetOperation_90 (by decide) ?_
  refine jr_sub (ls' := [(0, .ref (G.1 138)), (2, .int v23)]) [1, 0] rfl ?_
  exact jb_MC_meetOperation_b117 hz hr hlk v23 X7
def fx_MC_meetOperation_b43 (a1 : Int32) (X : xh_T) : Option (Int32 × xh_T) :=
  if a1 = 99 then
  fx_MC_meetOperation_b55 1 X
  else fx_MC_meetOperation_b55 0 X
set_option maxRecDepth 100000 in
set_option maxHeartbeats 4000000 in
theorem jb_MC_meetOperation_b43 {p : Program} {l : Launch} {e : Env} {s : State} {m : MethodId} {args : Array Value} {below : List Frame} {meth : Method} {c : Code} {D : va_G} {G : xh_G} (hz : xh_C p s m args c b_MC_meetOperation 3 "SpendScript$Machine" D G (xh_A G s.heap.size)) (hr : meth.sig.returnType = (some .int)) (hlk : meth.locks = false) (a1 : Int32) (X : xh_T) : xh_J p l e rm_MC_meetOperation s m args below meth c 0 0 D G (xh_A G s.heap.size) 3 (fun r X' => MQ below (xh_Qi D G (xh_A G s.heap.size) r X') args s 0 0 (xh_A G s.heap.size)) 43 [(0, .ref (G.1 138)), (1, .int a1)] [] X (fx_MC_meetOperation_b43 a1 X) := by
  unfold fx_MC_meetOperation_b43
  refine jr_aload_n hz d_MC_meetOperation_43 rfl 0 rfl ?_
  refine jr_iload_n hz d_MC_meetOperation_44 rfl 1 rfl ?_
  refine jr_bipush (v := 99) hz d_MC_meetOperation_45 (by decide) ?_
  refine jr_icmp_ne (tgt := 54) hz d_MC_meetOperation_47 (by decide) ?_ ?_
  · refine jr_iconst (v := 0) hz d_MC_meetOperation_54 (by decide) ?_
    refine jr_sub (ls' := [(0, .ref (G.1 138))]) [0] rfl ?_
    exact jb_MC_meetOperation_b55 hz hr hlk 0 X
  · refine jr_iconst (v := 1) hz d_MC_meetOperation_50 (by decide) ?_
    refine jr_goto (tgt := 55) hz d_MC_meetOperation_51 (by decide) ?_
    refine jr_sub (ls' := [(0, .ref (G.1 138))]) [0] rfl ?_
    exact jb_MC_meetOperation_b55 hz hr hlk 1 X
def fx_MC_meetOperation_b74 (a1 : Int32) (X : xh_T) : Option (Int32 × xh_T) :=
  if a1 = 104 then
  fx_MC_meetOperation_b86 1 X
  else fx_MC_meetOperation_b86 0 X
set_option maxRecDepth 100000 in
set_option maxHeartbeats 4000000 in
theorem jb_MC_meetOperation_b74 {p : Program} {l : Launch} {e : Env} {s : State} {m : MethodId} {args : Array Value} {below : List Frame} {meth : Method} {c : Code} {D : va_G} {G : xh_G} (hz : xh_C p s m args c b_MC_meetOperation 3 "SpendScript$Machine" D G (xh_A G s.heap.size)) (hr : meth.sig.returnType = (some .int)) (hlk : meth.locks = false) (a1 : Int32) (X : xh_T) : xh_J p l e rm_MC_meetOperation s m args below meth c 0 0 D G (xh_A G s.heap.size) 3 (fun r X' => MQ below (xh_Qi D G (xh_A G s.heap.size) r X') args s 0 0 (xh_A G s.heap.size)) 74 [(0, .ref (G.1 138)), (1, .int a1)] [] X (fx_MC_meetOperation_b74 a1 X) := by
  unfold fx_MC_meetOperation_b74
  refine jr_aload_n hz d_MC_meetOperation_74 rfl 0 rfl ?_
  refine jr_iload_n hz d_MC_meetOperation_75 rfl 1 rfl ?_
  refine jr_bipush (v := 104) hz d_MC_meetOperation_76 (by decide) ?_
  refine jr_icmp_ne (tgt := 85) hz d_MC_meetOperation_78 (by decide) ?_ ?_
  · refine jr_iconst (v := 0) hz d_MC_meetOperation_85 (by decide) ?_
    refine jr_sub (ls' := [(0, .ref (G.1 138))]) [0] rfl ?_
    exact jb_MC_meetOperation_b86 hz hr hlk 0 X
  · refine jr_iconst (v := 1) hz d_MC_meetOperation_81 (by decide) ?_
    refine jr_goto (tgt := 86) hz d_MC_meetOperation_82 (by decide) ?_
    refine jr_sub (ls' := [(0, .ref (G.1 138))]) [0] rfl ?_
    exact jb_MC_meetOperation_b86 hz hr hlk 1 X
def fx_MC_meetOperation (p1 : Int32) (X : xh_T) : Option (Int32 × xh_T) :=
  xh_b (fx_OP_isKnown p1 X) (fun (r2 : Int32) (X1 : xh_T) =>
  if r2 = 0 then
  some (2, X1)
  else if X1.1 138 4 < 25 then
  xh_n (xh_i X1 138 4 (X1.1 138 4 + 1)) (fun X2 : xh_T =>
  if p1 = 99 then
  fx_MC_meetOperation_b43 p1 X2
  else if p1 = 100 then
  fx_MC_meetOperation_b43 p1 X2
  else if p1 = 103 then
  fx_MC_meetOperation_b74 p1 X2
  else if p1 = 104 then
  fx_MC_meetOperation_b74 p1 X2
  else xh_b (fx_BR_allActive X2) (fun (r6 : Int32) (X3 : xh_T) =>
  if r6 = 0 then
  some (0, X3)
  else xh_b (fx_OP_operate p1 X3) (fun (r9 : Int32) (X4 : xh_T) =>
  xh_n r9 (fun v13 : Int32 =>
  fx_MC_meetOperation_b117 v13 X4))))
  else some (6, X1))
set_option maxRecDepth 100000 in
set_option maxHeartbeats 4000000 in
theorem cx_MC_meetOperation (l : Launch) (D : va_G) (G : xh_G) (hD : xh_D G) (p1 : Int32) (X : xh_T) : xh_M xh_Qi l D G y_MC_meetOperation b_MC_meetOperation 3 (some .int) rm_MC_meetOperation [.ref (G.1 138), .int p1] X (fx_MC_meetOperation p1 X) := by
  refine xh_enter (ls := [(0, .ref (G.1 138)), (1, .int p1)]) hD (by decide +kernel) (Nat.le_of_ble_eq_true rfl) rfl ?_
  intro p e s m args below meth c hz hr hlk
  unfold fx_MC_meetOperation
  refine jr_iload_n hz d_MC_meetOperation_0 rfl 1 rfl ?_
  refine jr_callSi (As := [.int p1]) (st := []) hz (cx_OP_isKnown l D G hz.2.2.2.2.2.2.1 p1 X) ws_MC_102 ⟨rfl, rfl, Nat.le_of_ble_eq_true rfl, Nat.le_of_ble_eq_true rfl⟩ ⟨Nat.zero_le _, Nat.zero_le _⟩ rfl rfl (Nat.le_of_ble_eq_true rfl) d_MC_meetOperation_1 (fun r2 X1 => ?_)
  refine jr_if_ne (tgt := 9) hz d_MC_meetOperation_4 (by decide) ?_ ?_
  · refine jr_aload_n hz d_MC_meetOperation_9 rfl 0 rfl ?_
    refine jr_geti (j := 4) hz lq_138 ly_138 rfl wf_MC_37 d_MC_meetOperation_10 ?_
    refine jr_bipush (v := 25) hz d_MC_meetOperation_13 (by decide) ?_
    refine jr_icmp_lt (tgt := 21) hz d_MC_meetOperation_15 (by decide) ?_ ?_
    · refine jr_aload_n hz d_MC_meetOperation_21 rfl 0 rfl ?_
      refine jr_dup hz d_MC_meetOperation_22 rfl ?_
      refine jr_geti (j := 4) hz lq_138 ly_138 rfl wf_MC_37 d_MC_meetOperation_23 ?_
      refine jr_iconst (v := 1) hz d_MC_meetOperation_26 (by decide) ?_
      refine jr_iadd hz d_MC_meetOperation_27 ?_
      refine jr_puti hz lq_138 ly_138 rfl wp_MC_37 d_MC_meetOperation_28 (fun X2 => ?_)
      refine jr_iload_n hz d_MC_meetOperation_31 rfl 1 rfl ?_
      refine jr_bipush (v := 99) hz d_MC_meetOperation_32 (by decide) ?_
      refine jr_icmp_eq (tgt := 43) hz d_MC_meetOperation_34 (by decide) ?_ ?_
      · refine jr_sub (ls' := [(0, .ref (G.1 138)), (1, .int p1)]) [0, 1] rfl ?_
        exact jb_MC_meetOperation_b43 hz hr hlk p1 X2
      · refine jr_iload_n hz d_MC_meetOperation_37 rfl 1 rfl ?_
        refine jr_bipush (v := 100) hz d_MC_meetOperation_38 (by decide) ?_
        refine jr_icmp_ne (tgt := 62) hz d_MC_meetOperation_40 (by decide) ?_ ?_
        · refine jr_iload_n hz d_MC_meetOperation_62 rfl 1 rfl ?_
          refine jr_bipush (v := 103) hz d_MC_meetOperation_63 (by decide) ?_
          refine jr_icmp_eq (tgt := 74) hz d_MC_meetOperation_65 (by decide) ?_ ?_
          · refine jr_sub (ls' := [(0, .ref (G.1 138)), (1, .int p1)]) [0, 1] rfl ?_
            exact jb_MC_meetOperation_b74 hz hr hlk p1 X2
          · refine jr_iload_n hz d_MC_meetOperation_68 rfl 1 rfl ?_
            refine jr_bipush (v := 104) hz d_MC_meetOperation_69 (by decide) ?_
            refine jr_icmp_ne (tgt := 93) hz d_MC_meetOperation_71 (by decide) ?_ ?_
            · refine jr_aload_n hz d_MC_meetOperation_93 rfl 0 rfl ?_
              refine jr_getr (j := 2) (t := 203) hz lq_138 ly_138 rfl wf_MC_24 d_MC_meetOperation_94 ?_
              refine jr_callVi (As := []) (a := 203) (ci := 3) (st := []) hz (cx_BR_allActive l D G hz.2.2.2.2.2.2.1 X2) (fun _ _ => ⟨lq_203, _, ly_203⟩) wv_MC_82 ⟨rfl, rfl, Nat.le_of_ble_eq_true rfl, Nat.le_of_ble_eq_true rfl⟩ ⟨Nat.zero_le _, Nat.zero_le _⟩ rfl rfl (Nat.le_of_ble_eq_true rfl) d_MC_meetOperation_97 (fun r6 X3 => ?_)
              refine jr_if_eq (tgt := 115) hz d_MC_meetOperation_100 (by decide) ?_ ?_
              · refine jr_iconst (v := 0) hz d_MC_meetOperation_115 (by decide) ?_
                exact jr_iret hz hr hlk d_MC_meetOperation_116
              · refine jr_aload_n hz d_MC_meetOperation_103 rfl 0 rfl ?_
                refine jr_getr (j := 3) (t := 205) hz lq_138 ly_138 rfl wf_MC_33 d_MC_meetOperation_104 ?_
                refine jr_iload_n hz d_MC_meetOperation_107 rfl 1 rfl ?_
                refine jr_callVi (As := [.int p1]) (a := 205) (ci := 5) (st := []) hz (cx_OP_operate l D G hz.2.2.2.2.2.2.1 p1 X3) (fun _ _ => ⟨lq_205, _, ly_205⟩) wv_MC_113 ⟨rfl, rfl, Nat.le_of_ble_eq_true rfl, Nat.le_of_ble_eq_true rfl⟩ ⟨Nat.zero_le _, Nat.zero_le _⟩ rfl rfl (Nat.le_of_ble_eq_true rfl) d_MC_meetOperation_108 (fun r9 X4 => ?_)
                refine jr_istore_n (lf := [(0, .ref (G.1 138)), (1, .int p1)]) hz d_MC_meetOperation_111 rfl (by decide) rfl (fun v13 => ?_)
                refine jr_goto (tgt := 117) hz d_MC_meetOperation_112 (by decide) ?_
                refine jr_sub (ls' := [(0, .ref (G.1 138)), (2, .int v13)]) [1, 0] rfl ?_
                exact jb_MC_meetOperation_b117 hz hr hlk v13 X4
            · refine jr_sub (ls' := [(0, .ref (G.1 138)), (1, .int p1)]) [0, 1] rfl ?_
              exact jb_MC_meetOperation_b74 hz hr hlk p1 X2
        · refine jr_sub (ls' := [(0, .ref (G.1 138)), (1, .int p1)]) [0, 1] rfl ?_
          exact jb_MC_meetOperation_b43 hz hr hlk p1 X2
    · refine jr_bipush (v := 6) hz d_MC_meetOperation_18 (by decide) ?_
      exact jr_iret hz hr hlk d_MC_meetOperation_20
  · refine jr_iconst (v := 2) hz d_MC_meetOperation_7 (by decide) ?_
    exact jr_iret hz hr hlk d_MC_meetOperation_8

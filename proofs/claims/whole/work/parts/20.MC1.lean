/-! printed by wip/whole/gen_walks.py -/
theorem d_MC_dataBytes_0 : decode b_MC_dataBytes 0 = .ok (.iload_n 0, 1) := by decide +kernel
theorem d_MC_dataBytes_1 : decode b_MC_dataBytes 1 = .ok (.iconst 1, 1) := by decide +kernel
theorem d_MC_dataBytes_2 : decode b_MC_dataBytes 2 = .ok (.if_icmp .lt 13, 3) := by decide +kernel
theorem d_MC_dataBytes_5 : decode b_MC_dataBytes 5 = .ok (.iload_n 0, 1) := by decide +kernel
theorem d_MC_dataBytes_6 : decode b_MC_dataBytes 6 = .ok (.bipush 32, 2) := by decide +kernel
theorem d_MC_dataBytes_8 : decode b_MC_dataBytes 8 = .ok (.if_icmp .gt 7, 3) := by decide +kernel
theorem d_MC_dataBytes_11 : decode b_MC_dataBytes 11 = .ok (.iload_n 0, 1) := by decide +kernel
theorem d_MC_dataBytes_12 : decode b_MC_dataBytes 12 = .ok (.goto 4, 3) := by decide +kernel
theorem d_MC_dataBytes_15 : decode b_MC_dataBytes 15 = .ok (.iconst 0, 1) := by decide +kernel
theorem d_MC_dataBytes_16 : decode b_MC_dataBytes 16 = .ok (.ireturn, 1) := by decide +kernel
abbrev rm_MC_dataBytes : Room := { frames := 0, cells := 0, slots := 0, locals := 0 }
def fx_MC_dataBytes (p1 : Int32) (X : xh_T) : Option (Int32 × xh_T) :=
  if p1 < 1 then
  some (0, X)
  else if 32 < p1 then
  some (0, X)
  else some (p1, X)
set_option maxRecDepth 100000 in
set_option maxHeartbeats 4000000 in
theorem cx_MC_dataBytes (l : Launch) (D : va_G) (G : xh_G) (hD : xh_D G) (p1 : Int32) (X : xh_T) : xh_M xh_Qi l D G y_MC_dataBytes b_MC_dataBytes 1 (some .int) rm_MC_dataBytes [.int p1] X (fx_MC_dataBytes p1 X) := by
  refine xh_enter (ls := [(0, .int p1)]) hD (by decide +kernel) (Nat.le_of_ble_eq_true rfl) rfl ?_
  intro p e s m args below meth c hz hr hlk
  unfold fx_MC_dataBytes
  refine jr_iload_n hz d_MC_dataBytes_0 rfl 0 rfl ?_
  refine jr_iconst (v := 1) hz d_MC_dataBytes_1 (by decide) ?_
  refine jr_icmp_lt (tgt := 15) hz d_MC_dataBytes_2 (by decide) ?_ ?_
  · refine jr_iconst (v := 0) hz d_MC_dataBytes_15 (by decide) ?_
    exact jr_iret hz hr hlk d_MC_dataBytes_16
  · refine jr_iload_n hz d_MC_dataBytes_5 rfl 0 rfl ?_
    refine jr_bipush (v := 32) hz d_MC_dataBytes_6 (by decide) ?_
    refine jr_icmp_gt (tgt := 15) hz d_MC_dataBytes_8 (by decide) ?_ ?_
    · refine jr_iconst (v := 0) hz d_MC_dataBytes_15 (by decide) ?_
      exact jr_iret hz hr hlk d_MC_dataBytes_16
    · refine jr_iload_n hz d_MC_dataBytes_11 rfl 0 rfl ?_
      refine jr_goto (tgt := 16) hz d_MC_dataBytes_12 (by decide) ?_
      exact jr_iret hz hr hlk d_MC_dataBytes_16
theorem d_MC_run_0 : decode b_MC_run 0 = .ok (.aload_n 0, 1) := by decide +kernel
theorem d_MC_run_1 : decode b_MC_run 1 = .ok (.getfield 18, 3) := by decide +kernel
theorem d_MC_run_4 : decode b_MC_run 4 = .ok (.invokevirtual 47, 3) := by decide +kernel
theorem d_MC_run_7 : decode b_MC_run 7 = .ok (.aload_n 0, 1) := by decide +kernel
theorem d_MC_run_8 : decode b_MC_run 8 = .ok (.getfield 24, 3) := by decide +kernel
theorem d_MC_run_11 : decode b_MC_run 11 = .ok (.invokevirtual 50, 3) := by decide +kernel
theorem d_MC_run_14 : decode b_MC_run 14 = .ok (.aload_n 0, 1) := by decide +kernel
theorem d_MC_run_15 : decode b_MC_run 15 = .ok (.iconst 0, 1) := by decide +kernel
theorem d_MC_run_16 : decode b_MC_run 16 = .ok (.putfield 37, 3) := by decide +kernel
theorem d_MC_run_19 : decode b_MC_run 19 = .ok (.aload_n 1, 1) := by decide +kernel
theorem d_MC_run_20 : decode b_MC_run 20 = .ok (.invokevirtual 53, 3) := by decide +kernel
theorem d_MC_run_23 : decode b_MC_run 23 = .ok (.istore_n 3, 1) := by decide +kernel
theorem d_MC_run_24 : decode b_MC_run 24 = .ok (.iconst 0, 1) := by decide +kernel
theorem d_MC_run_25 : decode b_MC_run 25 = .ok (.istore 4, 2) := by decide +kernel
theorem d_MC_run_27 : decode b_MC_run 27 = .ok (.iload 4, 2) := by decide +kernel
theorem d_MC_run_29 : decode b_MC_run 29 = .ok (.iload_n 3, 1) := by decide +kernel
theorem d_MC_run_30 : decode b_MC_run 30 = .ok (.if_icmp .ge 79, 3) := by decide +kernel
theorem d_MC_run_33 : decode b_MC_run 33 = .ok (.aload_n 0, 1) := by decide +kernel
theorem d_MC_run_34 : decode b_MC_run 34 = .ok (.iload 4, 2) := by decide +kernel
theorem d_MC_run_36 : decode b_MC_run 36 = .ok (.putfield 41, 3) := by decide +kernel
theorem d_MC_run_39 : decode b_MC_run 39 = .ok (.aload_n 1, 1) := by decide +kernel
theorem d_MC_run_40 : decode b_MC_run 40 = .ok (.iload 4, 2) := by decide +kernel
theorem d_MC_run_42 : decode b_MC_run 42 = .ok (.invokevirtual 59, 3) := by decide +kernel
theorem d_MC_run_45 : decode b_MC_run 45 = .ok (.istore 5, 2) := by decide +kernel
theorem d_MC_run_47 : decode b_MC_run 47 = .ok (.bipush 15, 2) := by decide +kernel
theorem d_MC_run_49 : decode b_MC_run 49 = .ok (.istore 6, 2) := by decide +kernel
theorem d_MC_run_51 : decode b_MC_run 51 = .ok (.iload 5, 2) := by decide +kernel
theorem d_MC_run_53 : decode b_MC_run 53 = .ok (.bipush 96, 2) := by decide +kernel
theorem d_MC_run_55 : decode b_MC_run 55 = .ok (.if_icmp .gt 15, 3) := by decide +kernel
theorem d_MC_run_58 : decode b_MC_run 58 = .ok (.aload_n 0, 1) := by decide +kernel
theorem d_MC_run_59 : decode b_MC_run 59 = .ok (.aload_n 1, 1) := by decide +kernel
theorem d_MC_run_60 : decode b_MC_run 60 = .ok (.iload 5, 2) := by decide +kernel
theorem d_MC_run_62 : decode b_MC_run 62 = .ok (.invokevirtual 65, 3) := by decide +kernel
theorem d_MC_run_65 : decode b_MC_run 65 = .ok (.istore 6, 2) := by decide +kernel
theorem d_MC_run_67 : decode b_MC_run 67 = .ok (.goto 15, 3) := by decide +kernel
theorem d_MC_run_70 : decode b_MC_run 70 = .ok (.iload_n 2, 1) := by decide +kernel
theorem d_MC_run_71 : decode b_MC_run 71 = .ok (.ifCond .ne 11, 3) := by decide +kernel
theorem d_MC_run_74 : decode b_MC_run 74 = .ok (.aload_n 0, 1) := by decide +kernel
theorem d_MC_run_75 : decode b_MC_run 75 = .ok (.iload 5, 2) := by decide +kernel
theorem d_MC_run_77 : decode b_MC_run 77 = .ok (.invokevirtual 69, 3) := by decide +kernel
theorem d_MC_run_80 : decode b_MC_run 80 = .ok (.istore 6, 2) := by decide +kernel
theorem d_MC_run_82 : decode b_MC_run 82 = .ok (.iload 6, 2) := by decide +kernel
theorem d_MC_run_84 : decode b_MC_run 84 = .ok (.ifCond .eq 6, 3) := by decide +kernel
theorem d_MC_run_87 : decode b_MC_run 87 = .ok (.iload 6, 2) := by decide +kernel
theorem d_MC_run_89 : decode b_MC_run 89 = .ok (.ireturn, 1) := by decide +kernel
theorem d_MC_run_90 : decode b_MC_run 90 = .ok (.iload 4, 2) := by decide +kernel
theorem d_MC_run_92 : decode b_MC_run 92 = .ok (.iconst 1, 1) := by decide +kernel
theorem d_MC_run_93 : decode b_MC_run 93 = .ok (.aload_n 1, 1) := by decide +kernel
theorem d_MC_run_94 : decode b_MC_run 94 = .ok (.iload 4, 2) := by decide +kernel
theorem d_MC_run_96 : decode b_MC_run 96 = .ok (.invokevirtual 59, 3) := by decide +kernel
theorem d_MC_run_99 : decode b_MC_run 99 = .ok (.invokestatic 72, 3) := by decide +kernel
theorem d_MC_run_102 : decode b_MC_run 102 = .ok (.iadd, 1) := by decide +kernel
theorem d_MC_run_103 : decode b_MC_run 103 = .ok (.iadd, 1) := by decide +kernel
theorem d_MC_run_104 : decode b_MC_run 104 = .ok (.istore 4, 2) := by decide +kernel
theorem d_MC_run_106 : decode b_MC_run 106 = .ok (.goto (-79), 3) := by decide +kernel
theorem d_MC_run_109 : decode b_MC_run 109 = .ok (.aload_n 0, 1) := by decide +kernel
theorem d_MC_run_110 : decode b_MC_run 110 = .ok (.iload_n 3, 1) := by decide +kernel
theorem d_MC_run_111 : decode b_MC_run 111 = .ok (.putfield 41, 3) := by decide +kernel
theorem d_MC_run_114 : decode b_MC_run 114 = .ok (.aload_n 0, 1) := by decide +kernel
theorem d_MC_run_115 : decode b_MC_run 115 = .ok (.getfield 24, 3) := by decide +kernel
theorem d_MC_run_118 : decode b_MC_run 118 = .ok (.invokevirtual 75, 3) := by decide +kernel
theorem d_MC_run_121 : decode b_MC_run 121 = .ok (.ifCond .eq 8, 3) := by decide +kernel
theorem d_MC_run_124 : decode b_MC_run 124 = .ok (.bipush 7, 2) := by decide +kernel
theorem d_MC_run_126 : decode b_MC_run 126 = .ok (.goto 4, 3) := by decide +kernel
theorem d_MC_run_129 : decode b_MC_run 129 = .ok (.iconst 0, 1) := by decide +kernel
theorem d_MC_run_130 : decode b_MC_run 130 = .ok (.ireturn, 1) := by decide +kernel
theorem wv_MC_50 : xh_V "SpendScript$Machine" 50 3 y_BR_closeAll b_BR_closeAll 1 none 0 := ⟨(sp_tb (List.mem_of_getElem? (i := 229) (by decide +kernel))), (sp_tb (List.mem_of_getElem? (i := 6) (by decide +kernel))), (sp_tb (List.mem_of_getElem? (i := 226) (by decide +kernel))), ⟨by decide +kernel, by decide +kernel, by decide +kernel⟩, (sp_tb (List.mem_of_getElem? (i := 227) (by decide +kernel))), (sp_tb (List.mem_of_getElem? (i := 228) (by decide +kernel))), F_BR, 2, rfl⟩
theorem wv_MC_53 : xh_V "SpendScript$Machine" 53 0 y_BS_size b_BS_size 1 (some .int) 0 := ⟨(sp_tb (List.mem_of_getElem? (i := 181) (by decide +kernel))), (sp_tb (List.mem_of_getElem? (i := 2) (by decide +kernel))), (sp_tb (List.mem_of_getElem? (i := 230) (by decide +kernel))), ⟨by decide +kernel, by decide +kernel, by decide +kernel⟩, (sp_tb (List.mem_of_getElem? (i := 179) (by decide +kernel))), (sp_tb (List.mem_of_getElem? (i := 180) (by decide +kernel))), F_BS, 2, rfl⟩
theorem wp_MC_41 : xh_Fp "SpendScript$Machine" 41 4 5 := ⟨R_MC, F_MC, 7, t_MC, rfl, by decide, iw_MC, (sp_tb (List.mem_of_getElem? (i := 111) (by decide +kernel))), tk_MC, nk_MC, rfl, rfl⟩
theorem wv_MC_69 : xh_V "SpendScript$Machine" 69 4 y_MC_meetOperation b_MC_meetOperation 3 (some .int) 1 := ⟨(sp_tb (List.mem_of_getElem? (i := 276) (by decide +kernel))), (sp_tb (List.mem_of_getElem? (i := 5) (by decide +kernel))), (sp_tb (List.mem_of_getElem? (i := 273) (by decide +kernel))), ⟨by decide +kernel, by decide +kernel, by decide +kernel⟩, (sp_tb (List.mem_of_getElem? (i := 275) (by decide +kernel))), (sp_pv (q := (y_MC_meetOperation, 7)) (List.mem_of_getElem? (i := 3) (by decide +kernel))), F_MC, 7, rfl⟩
theorem wv_MC_65 : xh_V "SpendScript$Machine" 65 4 y_MC_meetPush b_MC_meetPush 4 (some .int) 2 := ⟨(sp_tb (List.mem_of_getElem? (i := 238) (by decide +kernel))), (sp_tb (List.mem_of_getElem? (i := 5) (by decide +kernel))), (sp_tb (List.mem_of_getElem? (i := 235) (by decide +kernel))), ⟨by decide +kernel, by decide +kernel, by decide +kernel⟩, (sp_tb (List.mem_of_getElem? (i := 237) (by decide +kernel))), (sp_pv (q := (y_MC_meetPush, 7)) (List.mem_of_getElem? (i := 1) (by decide +kernel))), F_MC, 7, rfl⟩
theorem ws_MC_72 : xh_S "SpendScript$Machine" 72 y_MC_dataBytes b_MC_dataBytes 1 (some .int) 1 := ⟨(sp_tb (List.mem_of_getElem? (i := 471) (by decide +kernel))), (sp_tb (List.mem_of_getElem? (i := 5) (by decide +kernel))), (sp_tb (List.mem_of_getElem? (i := 469) (by decide +kernel))), ⟨by decide +kernel, by decide +kernel, by decide +kernel⟩, (sp_tb (List.mem_of_getElem? (i := 470) (by decide +kernel)))⟩
abbrev rm_MC_run : Room := { frames := 6, cells := 0, slots := 0, locals := 200 }
def fx_MC_run_b82 (o1 : Nat) (lp27 : Int32 → Int32 → Int32 → xh_T → Option (Int32 × xh_T)) (a2 : Int32) (a3 : Int32) (a4 : Int32) (a6 : Int32) (X : xh_T) : Option (Int32 × xh_T) :=
  if a6 = 0 then
  xh_b (fx_BS_byteAt o1 a4 X) (fun (r35 : Int32) (X11 : xh_T) =>
  xh_b (fx_MC_dataBytes r35 X11) (fun (r39 : Int32) (X12 : xh_T) =>
  xh_n (a4 + (1 + r39)) (fun v43 : Int32 =>
  lp27 a2 a3 v43 X12)))
  else some (a6, X)
set_option maxRecDepth 100000 in
set_option maxHeartbeats 4000000 in
theorem jb_MC_run_b82 {p : Program} {l : Launch} {e : Env} {s : State} {m : MethodId} {args : Array Value} {below : List Frame} {meth : Method} {c : Code} {D : va_G} {G : xh_G} {o1 : Nat} (hz : xh_C p s m args c b_MC_run 7 "SpendScript$Machine" D G (xh_A G s.heap.size)) (hr : meth.sig.returnType = (some .int)) (hlk : meth.locks = false) (ho1 : sp_bs o1 = true) (lp27 : Int32 → Int32 → Int32 → xh_T → Option (Int32 × xh_T)) (hlp27 : ∀ (a2 : Int32) (a3 : Int32) (a4 : Int32) (X : xh_T), xh_J p l e rm_MC_run s m args below meth c 0 0 D G (xh_A G s.heap.size) 7 (fun r X' => MQ below (xh_Qi D G (xh_A G s.heap.size) r X') args s 0 0 (xh_A G s.heap.size)) 27 [(0, .ref (G.1 138)), (1, .ref (G.1 o1)), (2, .int a2), (3, .int a3), (4, .int a4)] [] X (lp27 a2 a3 a4 X)) (a2 : Int32) (a3 : Int32) (a4 : Int32) (a6 : Int32) (X : xh_T) : xh_J p l e rm_MC_run s m args below meth c 0 0 D G (xh_A G s.heap.size) 7 (fun r X' => MQ below (xh_Qi D G (xh_A G s.heap.size) r X') args s 0 0 (xh_A G s.heap.size)) 82 [(0, .ref (G.1 138)), (1, .ref (G.1 o1)), (2, .int a2), (3, .int a3), (4, .int a4), (6, .int a6)] [] X (fx_MC_run_b82 o1 lp27 a2 a3 a4 a6 X) := by
  unfold fx_MC_run_b82
  refine jr_iload hz d_MC_run_82 5 rfl ?_
  refine jr_if_eq (tgt := 90) hz d_MC_run_84 (by decide) ?_ ?_
  · refine jr_iload hz d_MC_run_90 4 rfl ?_
    refine jr_iconst (v := 1) hz d_MC_run_92 (by decide) ?_
    refine jr_aload_n hz d_MC_run_93 rfl 1 rfl ?_
    refine jr_iload hz d_MC_run_94 4 rfl ?_
    refine jr_callVi (As := [.int a4]) (a := o1) (ci := 0) (st := [.int 1, .int a4]) hz (cx_BS_byteAt l D G hz.2.2.2.2.2.2.1 o1 a4 X) (fun z h => sp_bs_v (xh_k_t h)) wv_MC_59 ⟨rfl, rfl, Nat.le_of_ble_eq_true rfl, Nat.le_of_ble_eq_true rfl⟩ ⟨Nat.zero_le _, Nat.zero_le _⟩ rfl rfl (Nat.le_of_ble_eq_true rfl) d_MC_run_96 (fun r35 X11 => ?_)
    refine jr_callSi (As := [.int r35]) (st := [.int 1, .int a4]) hz (cx_MC_dataBytes l D G hz.2.2.2.2.2.2.1 r35 X11) ws_MC_72 ⟨rfl, rfl, Nat.le_of_ble_eq_true rfl, Nat.le_of_ble_eq_true rfl⟩ ⟨Nat.zero_le _, Nat.zero_le _⟩ rfl rfl (Nat.le_of_ble_eq_true rfl) d_MC_run_99 (fun r39 X12 => ?_)
    refine jr_iadd hz d_MC_run_102 ?_
    refine jr_iadd hz d_MC_run_103 ?_
    refine jr_istore (lf := [(0, .ref (G.1 138)), (1, .ref (G.1 o1)), (2, .int a2), (3, .int a3), (6, .int a6)]) hz d_MC_run_104 (by decide) rfl (fun v43 => ?_)
    refine jr_goto (tgt := 27) hz d_MC_run_106 (by decide) ?_
    refine jr_sub (ls' := [(0, .ref (G.1 138)), (1, .ref (G.1 o1)), (2, .int a2), (3, .int a3), (4, .int v43)]) [1, 2, 3, 4, 0] rfl ?_
    exact hlp27 a2 a3 v43 X12
  · refine jr_iload hz d_MC_run_87 5 rfl ?_
    exact jr_iret hz hr hlk d_MC_run_89
def fx_MC_run_b27 (o1 : Nat) : Nat → Int32 → Int32 → Int32 → xh_T → Option (Int32 × xh_T)
  | 0, _, _, _, _ => none
  | n + 1, a2, a3, a4, X => if a3 ≤ a4 then
  xh_n (xh_i X 138 5 a3) (fun X5 : xh_T =>
  xh_b (fx_BR_anyOpen X5) (fun (r16 : Int32) (X6 : xh_T) =>
  if r16 = 0 then
  some (0, X6)
  else some (7, X6)))
  else xh_n (xh_i X 138 5 a4) (fun X7 : xh_T =>
  xh_b (fx_BS_byteAt o1 a4 X7) (fun (r19 : Int32) (X8 : xh_T) =>
  xh_n r19 (fun v23 : Int32 =>
  xh_n 15 (fun v24 : Int32 =>
  if 96 < v23 then
  if a2 = 0 then
  xh_b (fx_MC_meetOperation v23 X8) (fun (r25 : Int32) (X9 : xh_T) =>
  xh_n r25 (fun v29 : Int32 =>
  fx_MC_run_b82 o1 (fun z0 z1 z2 Z => fx_MC_run_b27 o1 n z0 z1 z2 Z) a2 a3 a4 v29 X9))
  else fx_MC_run_b82 o1 (fun z0 z1 z2 Z => fx_MC_run_b27 o1 n z0 z1 z2 Z) a2 a3 a4 v24 X8
  else xh_b (fx_MC_meetPush o1 v23 X8) (fun (r30 : Int32) (X10 : xh_T) =>
  xh_n r30 (fun v34 : Int32 =>
  fx_MC_run_b82 o1 (fun z0 z1 z2 Z => fx_MC_run_b27 o1 n z0 z1 z2 Z) a2 a3 a4 v34 X10))))))
set_option maxRecDepth 100000 in
set_option maxHeartbeats 4000000 in
theorem jb_MC_run_b27 {p : Program} {l : Launch} {e : Env} {s : State} {m : MethodId} {args : Array Value} {below : List Frame} {meth : Method} {c : Code} {D : va_G} {G : xh_G} {o1 : Nat} (hz : xh_C p s m args c b_MC_run 7 "SpendScript$Machine" D G (xh_A G s.heap.size)) (hr : meth.sig.returnType = (some .int)) (hlk : meth.locks = false) (ho1 : sp_bs o1 = true) : ∀ (n : Nat) (a2 : Int32) (a3 : Int32) (a4 : Int32) (X : xh_T), xh_J p l e rm_MC_run s m args below meth c 0 0 D G (xh_A G s.heap.size) 7 (fun r X' => MQ below (xh_Qi D G (xh_A G s.heap.size) r X') args s 0 0 (xh_A G s.heap.size)) 27 [(0, .ref (G.1 138)), (1, .ref (G.1 o1)), (2, .int a2), (3, .int a3), (4, .int a4)] [] X (fx_MC_run_b27 o1 n a2 a3 a4 X) := by
  intro n
  induction n with
  | zero => intro a2 a3 a4 X; exact jr_none
  | succ n ih =>
    intro a2 a3 a4 X
    rw [fx_MC_run_b27]
    refine jr_iload hz d_MC_run_27 4 rfl ?_
    refine jr_iload_n hz d_MC_run_29 rfl 3 rfl ?_
    refine jr_icmp_ge (tgt := 109) hz d_MC_run_30 (by decide) ?_ ?_
    · refine jr_aload_n hz d_MC_run_109 rfl 0 rfl ?_
      refine jr_iload_n hz d_MC_run_110 rfl 3 rfl ?_
      refine jr_puti hz lq_138 ly_138 rfl wp_MC_41 d_MC_run_111 (fun X5 => ?_)
      refine jr_aload_n hz d_MC_run_114 rfl 0 rfl ?_
      refine jr_getr (j := 2) (t := 203) hz lq_138 ly_138 rfl wf_MC_24 d_MC_run_115 ?_
      refine jr_callVi (As := []) (a := 203) (ci := 3) (st := []) hz (cx_BR_anyOpen l D G hz.2.2.2.2.2.2.1 X5) (fun _ _ => ⟨lq_203, _, ly_203⟩) wv_MC_75 ⟨rfl, rfl, Nat.le_of_ble_eq_true rfl, Nat.le_of_ble_eq_true rfl⟩ ⟨Nat.zero_le _, Nat.zero_le _⟩ rfl rfl (Nat.le_of_ble_eq_true rfl) d_MC_run_118 (fun r16 X6 => ?_)
      refine jr_if_eq (tgt := 129) hz d_MC_run_121 (by decide) ?_ ?_
      · refine jr_iconst (v := 0) hz d_MC_run_129 (by decide) ?_
        exact jr_iret hz hr hlk d_MC_run_130
      · refine jr_bipush (v := 7) hz d_MC_run_124 (by decide) ?_
        refine jr_goto (tgt := 130) hz d_MC_run_126 (by decide) ?_
        exact jr_iret hz hr hlk d_MC_run_130
    · refine jr_aload_n hz d_MC_run_33 rfl 0 rfl ?_
      refine jr_iload hz d_MC_run_34 4 rfl ?_
      refine jr_puti hz lq_138 ly_138 rfl wp_MC_41 d_MC_run_36 (fun X7 => ?_)
      refine jr_aload_n hz d_MC_run_39 rfl 1 rfl ?_
      refine jr_iload hz d_MC_run_40 4 rfl ?_
      refine jr_callVi (As := [.int a4]) (a := o1) (ci := 0) (st := []) hz (cx_BS_byteAt l D G hz.2.2.2.2.2.2.1 o1 a4 X7) (fun z h => sp_bs_v (xh_k_t h)) wv_MC_59 ⟨rfl, rfl, Nat.le_of_ble_eq_true rfl, Nat.le_of_ble_eq_true rfl⟩ ⟨Nat.zero_le _, Nat.zero_le _⟩ rfl rfl (Nat.le_of_ble_eq_true rfl) d_MC_run_42 (fun r19 X8 => ?_)
      refine jr_istore (lf := [(0, .ref (G.1 138)), (1, .ref (G.1 o1)), (2, .int a2), (3, .int a3), (4, .int a4)]) hz d_MC_run_45 (by decide) rfl (fun v23 => ?_)
      refine jr_bipush (v := 15) hz d_MC_run_47 (by decide) ?_
      refine jr_istore (lf := [(5, .int v23), (0, .ref (G.1 138)), (1, .ref (G.1 o1)), (2, .int a2), (3, .int a3), (4, .int a4)]) hz d_MC_run_49 (by decide) rfl (fun v24 => ?_)
      refine jr_iload hz d_MC_run_51 1 rfl ?_
      refine jr_bipush (v := 96) hz d_MC_run_53 (by decide) ?_
      refine jr_icmp_gt (tgt := 70) hz d_MC_run_55 (by decide) ?_ ?_
      · refine jr_iload_n hz d_MC_run_70 rfl 4 rfl ?_
        refine jr_if_ne (tgt := 82) hz d_MC_run_71 (by decide) ?_ ?_
        · refine jr_sub (ls' := [(0, .ref (G.1 138)), (1, .ref (G.1 o1)), (2, .int a2), (3, .int a3), (4, .int a4), (6, .int v24)]) [2, 3, 4, 5, 6, 0] rfl ?_
          exact jb_MC_run_b82 hz hr hlk ho1 (fun z0 z1 z2 Z => fx_MC_run_b27 o1 n z0 z1 z2 Z) (fun z0 z1 z2 Z => ih z0 z1 z2 Z) a2 a3 a4 v24 X8
        · refine jr_aload_n hz d_MC_run_74 rfl 2 rfl ?_
          refine jr_iload hz d_MC_run_75 1 rfl ?_
          refine jr_callVi (As := [.int v23]) (a := 138) (ci := 4) (st := []) hz (cx_MC_meetOperation l D G hz.2.2.2.2.2.2.1 v23 X8) (fun _ _ => ⟨lq_138, _, ly_138⟩) wv_MC_69 ⟨rfl, rfl, Nat.le_of_ble_eq_true rfl, Nat.le_of_ble_eq_true rfl⟩ ⟨Nat.zero_le _, Nat.zero_le _⟩ rfl rfl (Nat.le_of_ble_eq_true rfl) d_MC_run_77 (fun r25 X9 => ?_)
          refine jr_istore (lf := [(5, .int v23), (0, .ref (G.1 138)), (1, .ref (G.1 o1)), (2, .int a2), (3, .int a3), (4, .int a4)]) hz d_MC_run_80 (by decide) rfl (fun v29 => ?_)
          refine jr_sub (ls' := [(0, .ref (G.1 138)), (1, .ref (G.1 o1)), (2, .int a2), (3, .int a3), (4, .int a4), (6, .int v29)]) [2, 3, 4, 5, 6, 0] rfl ?_
          exact jb_MC_run_b82 hz hr hlk ho1 (fun z0 z1 z2 Z => fx_MC_run_b27 o1 n z0 z1 z2 Z) (fun z0 z1 z2 Z => ih z0 z1 z2 Z) a2 a3 a4 v29 X9
      · refine jr_aload_n hz d_MC_run_58 rfl 2 rfl ?_
        refine jr_aload_n hz d_MC_run_59 rfl 3 rfl ?_
        refine jr_iload hz d_MC_run_60 1 rfl ?_
        refine jr_callVi (As := [.ref (G.1 o1), .int v23]) (a := 138) (ci := 4) (st := []) hz (cx_MC_meetPush l D G hz.2.2.2.2.2.2.1 o1 v23 X8) (fun _ _ => ⟨lq_138, _, ly_138⟩) wv_MC_65 ⟨rfl, rfl, Nat.le_of_ble_eq_true rfl, Nat.le_of_ble_eq_true rfl⟩ ⟨Nat.zero_le _, Nat.zero_le _⟩ rfl rfl (Nat.le_of_ble_eq_true rfl) d_MC_run_62 (fun r30 X10 => ?_)
        refine jr_istore (lf := [(5, .int v23), (0, .ref (G.1 138)), (1, .ref (G.1 o1)), (2, .int a2), (3, .int a3), (4, .int a4)]) hz d_MC_run_65 (by decide) rfl (fun v34 => ?_)
        refine jr_goto (tgt := 82) hz d_MC_run_67 (by decide) ?_
        refine jr_sub (ls' := [(0, .ref (G.1 138)), (1, .ref (G.1 o1)), (2, .int a2), (3, .int a3), (4, .int a4), (6, .int v34)]) [2, 3, 4, 5, 6, 0] rfl ?_
        exact jb_MC_run_b82 hz hr hlk ho1 (fun z0 z1 z2 Z => fx_MC_run_b27 o1 n z0 z1 z2 Z) (fun z0 z1 z2 Z => ih z0 z1 z2 Z) a2 a3 a4 v34 X10
def fx_MC_run (o1 : Nat) (p2 : Int32) (X : xh_T) : Option (Int32 × xh_T) :=
  xh_k (sp_bs o1) (
  xh_b (fx_IS_makeEmpty 139 X) (fun (_ : Unit) (X1 : xh_T) =>
  xh_b (fx_BR_closeAll X1) (fun (_ : Unit) (X2 : xh_T) =>
  xh_n (xh_i X2 138 4 0) (fun X3 : xh_T =>
  xh_b (fx_BS_size o1 X3) (fun (r9 : Int32) (X4 : xh_T) =>
  xh_n r9 (fun v13 : Int32 =>
  xh_n 0 (fun v14 : Int32 =>
  fx_MC_run_b27 o1 sp_fuel p2 v13 v14 X4)))))))
set_option maxRecDepth 100000 in
set_option maxHeartbeats 4000000 in
theorem cx_MC_run (l : Launch) (D : va_G) (G : xh_G) (hD : xh_D G) (o1 : Nat) (p2 : Int32) (X : xh_T) : xh_M xh_Qi l D G y_MC_run b_MC_run 7 (some .int) rm_MC_run [.ref (G.1 138), .ref (G.1 o1), .int p2] X (fx_MC_run o1 p2 X) := by
  refine xh_enter (ls := [(0, .ref (G.1 138)), (1, .ref (G.1 o1)), (2, .int p2)]) hD (by decide +kernel) (Nat.le_of_ble_eq_true rfl) rfl ?_
  intro p e s m args below meth c hz hr hlk
  unfold fx_MC_run
  refine jr_k (fun ho1 => ?_)
  refine jr_aload_n hz d_MC_run_0 rfl 0 rfl ?_
  refine jr_getr (j := 1) (t := 139) hz lq_138 ly_138 rfl wf_MC_18 d_MC_run_1 ?_
  refine jr_callVv (As := []) (a := 139) (ci := 1) (st := []) hz (cx_IS_makeEmpty l D G hz.2.2.2.2.2.2.1 139 X) (fun z h => sp_is_v (xh_k_t h)) wv_MC_47 ⟨rfl, rfl, Nat.le_of_ble_eq_true rfl, Nat.le_of_ble_eq_true rfl⟩ ⟨Nat.zero_le _, Nat.zero_le _⟩ rfl rfl (Nat.le_of_ble_eq_true rfl) d_MC_run_4 (fun _ X1 => ?_)
  refine jr_aload_n hz d_MC_run_7 rfl 0 rfl ?_
  refine jr_getr (j := 2) (t := 203) hz lq_138 ly_138 rfl wf_MC_24 d_MC_run_8 ?_
  refine jr_callVv (As := []) (a := 203) (ci := 3) (st := []) hz (cx_BR_closeAll l D G hz.2.2.2.2.2.2.1 X1) (fun _ _ => ⟨lq_203, _, ly_203⟩) wv_MC_50 ⟨rfl, rfl, Nat.le_of_ble_eq_true rfl, Nat.le_of_ble_eq_true rfl⟩ ⟨Nat.zero_le _, Nat.zero_le _⟩ rfl rfl (Nat.le_of_ble_eq_true rfl) d_MC_run_11 (fun _ X2 => ?_)
  refine jr_aload_n hz d_MC_run_14 rfl 0 rfl ?_
  refine jr_iconst (v := 0) hz d_MC_run_15 (by decide) ?_
  refine jr_puti hz lq_138 ly_138 rfl wp_MC_37 d_MC_run_16 (fun X3 => ?_)
  refine jr_aload_n hz d_MC_run_19 rfl 1 rfl ?_
  refine jr_callVi (As := []) (a := o1) (ci := 0) (st := []) hz (cx_BS_size l D G hz.2.2.2.2.2.2.1 o1 X3) (fun z h => sp_bs_v (xh_k_t h)) wv_MC_53 ⟨rfl, rfl, Nat.le_of_ble_eq_true rfl, Nat.le_of_ble_eq_true rfl⟩ ⟨Nat.zero_le _, Nat.zero_le _⟩ rfl rfl (Nat.le_of_ble_eq_true rfl) d_MC_run_20 (fun r9 X4 => ?_)
  refine jr_istore_n (lf := [(0, .ref (G.1 138)), (1, .ref (G.1 o1)), (2, .int p2)]) hz d_MC_run_23 rfl (by decide) rfl (fun v13 => ?_)
  refine jr_iconst (v := 0) hz d_MC_run_24 (by decide) ?_
  refine jr_istore (lf := [(3, .int v13), (0, .ref (G.1 138)), (1, .ref (G.1 o1)), (2, .int p2)]) hz d_MC_run_25 (by decide) rfl (fun v14 => ?_)
  refine jr_sub (ls' := [(0, .ref (G.1 138)), (1, .ref (G.1 o1)), (2, .int p2), (3, .int v13), (4, .int v14)]) [2, 3, 4, 1, 0] rfl ?_
  exact jb_MC_run_b27 hz hr hlk ho1 sp_fuel p2 v13 v14 X4

/-! printed by wip/whole/gen_walks.py -/
theorem d_OP_calculate_0 : decode b_OP_calculate 0 = .ok (.iload_n 1, 1) := by decide +kernel
theorem d_OP_calculate_1 : decode b_OP_calculate 1 = .ok (.sipush 146, 3) := by decide +kernel
theorem d_OP_calculate_4 : decode b_OP_calculate 4 = .ok (.if_icmp .gt 7, 3) := by decide +kernel
theorem d_OP_calculate_7 : decode b_OP_calculate 7 = .ok (.iconst 1, 1) := by decide +kernel
theorem d_OP_calculate_8 : decode b_OP_calculate 8 = .ok (.goto 15, 3) := by decide +kernel
theorem d_OP_calculate_11 : decode b_OP_calculate 11 = .ok (.iload_n 1, 1) := by decide +kernel
theorem d_OP_calculate_12 : decode b_OP_calculate 12 = .ok (.sipush 164, 3) := by decide +kernel
theorem d_OP_calculate_15 : decode b_OP_calculate 15 = .ok (.if_icmp .gt 7, 3) := by decide +kernel
theorem d_OP_calculate_18 : decode b_OP_calculate 18 = .ok (.iconst 2, 1) := by decide +kernel
theorem d_OP_calculate_19 : decode b_OP_calculate 19 = .ok (.goto 4, 3) := by decide +kernel
theorem d_OP_calculate_22 : decode b_OP_calculate 22 = .ok (.iconst 3, 1) := by decide +kernel
theorem d_OP_calculate_23 : decode b_OP_calculate 23 = .ok (.istore_n 2, 1) := by decide +kernel
theorem d_OP_calculate_24 : decode b_OP_calculate 24 = .ok (.iconst 0, 1) := by decide +kernel
theorem d_OP_calculate_25 : decode b_OP_calculate 25 = .ok (.istore_n 3, 1) := by decide +kernel
theorem d_OP_calculate_26 : decode b_OP_calculate 26 = .ok (.iload_n 3, 1) := by decide +kernel
theorem d_OP_calculate_27 : decode b_OP_calculate 27 = .ok (.iload_n 2, 1) := by decide +kernel
theorem d_OP_calculate_28 : decode b_OP_calculate 28 = .ok (.if_icmp .ge 24, 3) := by decide +kernel
theorem d_OP_calculate_31 : decode b_OP_calculate 31 = .ok (.aload_n 0, 1) := by decide +kernel
theorem d_OP_calculate_32 : decode b_OP_calculate 32 = .ok (.iload_n 3, 1) := by decide +kernel
theorem d_OP_calculate_33 : decode b_OP_calculate 33 = .ok (.invokevirtual 92, 3) := by decide +kernel
theorem d_OP_calculate_36 : decode b_OP_calculate 36 = .ok (.istore 4, 2) := by decide +kernel
theorem d_OP_calculate_38 : decode b_OP_calculate 38 = .ok (.iload 4, 2) := by decide +kernel
theorem d_OP_calculate_40 : decode b_OP_calculate 40 = .ok (.ifCond .eq 6, 3) := by decide +kernel
theorem d_OP_calculate_43 : decode b_OP_calculate 43 = .ok (.iload 4, 2) := by decide +kernel
theorem d_OP_calculate_45 : decode b_OP_calculate 45 = .ok (.ireturn, 1) := by decide +kernel
theorem d_OP_calculate_46 : decode b_OP_calculate 46 = .ok (.iinc 3 1, 3) := by decide +kernel
theorem d_OP_calculate_49 : decode b_OP_calculate 49 = .ok (.goto (-23), 3) := by decide +kernel
theorem d_OP_calculate_52 : decode b_OP_calculate 52 = .ok (.aload_n 0, 1) := by decide +kernel
theorem d_OP_calculate_53 : decode b_OP_calculate 53 = .ok (.getfield 9, 3) := by decide +kernel
theorem d_OP_calculate_56 : decode b_OP_calculate 56 = .ok (.iconst 0, 1) := by decide +kernel
theorem d_OP_calculate_57 : decode b_OP_calculate 57 = .ok (.invokevirtual 59, 3) := by decide +kernel
theorem d_OP_calculate_60 : decode b_OP_calculate 60 = .ok (.invokevirtual 79, 3) := by decide +kernel
theorem d_OP_calculate_63 : decode b_OP_calculate 63 = .ok (.lstore_n 3, 1) := by decide +kernel
theorem d_OP_calculate_64 : decode b_OP_calculate 64 = .ok (.aload_n 0, 1) := by decide +kernel
theorem d_OP_calculate_65 : decode b_OP_calculate 65 = .ok (.getfield 9, 3) := by decide +kernel
theorem d_OP_calculate_68 : decode b_OP_calculate 68 = .ok (.iconst 1, 1) := by decide +kernel
theorem d_OP_calculate_69 : decode b_OP_calculate 69 = .ok (.invokevirtual 59, 3) := by decide +kernel
theorem d_OP_calculate_72 : decode b_OP_calculate 72 = .ok (.invokevirtual 79, 3) := by decide +kernel
theorem d_OP_calculate_75 : decode b_OP_calculate 75 = .ok (.lstore 5, 2) := by decide +kernel
theorem d_OP_calculate_77 : decode b_OP_calculate 77 = .ok (.aload_n 0, 1) := by decide +kernel
theorem d_OP_calculate_78 : decode b_OP_calculate 78 = .ok (.getfield 9, 3) := by decide +kernel
theorem d_OP_calculate_81 : decode b_OP_calculate 81 = .ok (.iconst 2, 1) := by decide +kernel
theorem d_OP_calculate_82 : decode b_OP_calculate 82 = .ok (.invokevirtual 59, 3) := by decide +kernel
theorem d_OP_calculate_85 : decode b_OP_calculate 85 = .ok (.invokevirtual 79, 3) := by decide +kernel
theorem d_OP_calculate_88 : decode b_OP_calculate 88 = .ok (.lstore 7, 2) := by decide +kernel
theorem d_OP_calculate_90 : decode b_OP_calculate 90 = .ok (.iload_n 1, 1) := by decide +kernel
theorem d_OP_calculate_91 : decode b_OP_calculate 91 = .ok (.sipush 157, 3) := by decide +kernel
theorem d_OP_calculate_94 : decode b_OP_calculate 94 = .ok (.if_icmp .ne 13, 3) := by decide +kernel
theorem d_OP_calculate_97 : decode b_OP_calculate 97 = .ok (.lload_n 3, 1) := by decide +kernel
theorem d_OP_calculate_98 : decode b_OP_calculate 98 = .ok (.lload 5, 2) := by decide +kernel
theorem d_OP_calculate_100 : decode b_OP_calculate 100 = .ok (.lcmp, 1) := by decide +kernel
theorem d_OP_calculate_101 : decode b_OP_calculate 101 = .ok (.ifCond .eq 6, 3) := by decide +kernel
theorem d_OP_calculate_104 : decode b_OP_calculate 104 = .ok (.bipush 9, 2) := by decide +kernel
theorem d_OP_calculate_106 : decode b_OP_calculate 106 = .ok (.ireturn, 1) := by decide +kernel
theorem d_OP_calculate_107 : decode b_OP_calculate 107 = .ok (.aload_n 0, 1) := by decide +kernel
theorem d_OP_calculate_108 : decode b_OP_calculate 108 = .ok (.getfield 9, 3) := by decide +kernel
theorem d_OP_calculate_111 : decode b_OP_calculate 111 = .ok (.iload_n 2, 1) := by decide +kernel
theorem d_OP_calculate_112 : decode b_OP_calculate 112 = .ok (.invokevirtual 69, 3) := by decide +kernel
theorem d_OP_calculate_115 : decode b_OP_calculate 115 = .ok (.iload_n 2, 1) := by decide +kernel
theorem d_OP_calculate_116 : decode b_OP_calculate 116 = .ok (.iconst 1, 1) := by decide +kernel
theorem d_OP_calculate_117 : decode b_OP_calculate 117 = .ok (.if_icmp .ne 15, 3) := by decide +kernel
theorem d_OP_calculate_120 : decode b_OP_calculate 120 = .ok (.aload_n 0, 1) := by decide +kernel
theorem d_OP_calculate_121 : decode b_OP_calculate 121 = .ok (.iload_n 1, 1) := by decide +kernel
theorem d_OP_calculate_122 : decode b_OP_calculate 122 = .ok (.lload_n 3, 1) := by decide +kernel
theorem d_OP_calculate_123 : decode b_OP_calculate 123 = .ok (.invokestatic 113, 3) := by decide +kernel
theorem d_OP_calculate_126 : decode b_OP_calculate 126 = .ok (.invokevirtual 117, 3) := by decide +kernel
theorem d_OP_calculate_129 : decode b_OP_calculate 129 = .ok (.goto 57, 3) := by decide +kernel
theorem d_OP_calculate_132 : decode b_OP_calculate 132 = .ok (.iload_n 2, 1) := by decide +kernel
theorem d_OP_calculate_133 : decode b_OP_calculate 133 = .ok (.iconst 3, 1) := by decide +kernel
theorem d_OP_calculate_134 : decode b_OP_calculate 134 = .ok (.if_icmp .ne 34, 3) := by decide +kernel
theorem d_OP_calculate_137 : decode b_OP_calculate 137 = .ok (.aload_n 0, 1) := by decide +kernel
theorem d_OP_calculate_138 : decode b_OP_calculate 138 = .ok (.lload 5, 2) := by decide +kernel
theorem d_OP_calculate_140 : decode b_OP_calculate 140 = .ok (.lload 7, 2) := by decide +kernel
theorem d_OP_calculate_142 : decode b_OP_calculate 142 = .ok (.lcmp, 1) := by decide +kernel
theorem d_OP_calculate_143 : decode b_OP_calculate 143 = .ok (.ifCond .gt 14, 3) := by decide +kernel
theorem d_OP_calculate_146 : decode b_OP_calculate 146 = .ok (.lload 7, 2) := by decide +kernel
theorem d_OP_calculate_148 : decode b_OP_calculate 148 = .ok (.lload_n 3, 1) := by decide +kernel
theorem d_OP_calculate_149 : decode b_OP_calculate 149 = .ok (.lcmp, 1) := by decide +kernel
theorem d_OP_calculate_150 : decode b_OP_calculate 150 = .ok (.ifCond .ge 7, 3) := by decide +kernel
theorem d_OP_calculate_153 : decode b_OP_calculate 153 = .ok (.iconst 1, 1) := by decide +kernel
theorem d_OP_calculate_154 : decode b_OP_calculate 154 = .ok (.goto 4, 3) := by decide +kernel
theorem d_OP_calculate_157 : decode b_OP_calculate 157 = .ok (.iconst 0, 1) := by decide +kernel
theorem d_OP_calculate_158 : decode b_OP_calculate 158 = .ok (.invokestatic 121, 3) := by decide +kernel
theorem d_OP_calculate_161 : decode b_OP_calculate 161 = .ok (.i2l, 1) := by decide +kernel
theorem d_OP_calculate_162 : decode b_OP_calculate 162 = .ok (.invokevirtual 117, 3) := by decide +kernel
theorem d_OP_calculate_165 : decode b_OP_calculate 165 = .ok (.goto 21, 3) := by decide +kernel
theorem d_OP_calculate_168 : decode b_OP_calculate 168 = .ok (.iload_n 1, 1) := by decide +kernel
theorem d_OP_calculate_169 : decode b_OP_calculate 169 = .ok (.sipush 157, 3) := by decide +kernel
theorem d_OP_calculate_172 : decode b_OP_calculate 172 = .ok (.if_icmp .eq 14, 3) := by decide +kernel
theorem d_OP_calculate_175 : decode b_OP_calculate 175 = .ok (.aload_n 0, 1) := by decide +kernel
theorem d_OP_calculate_176 : decode b_OP_calculate 176 = .ok (.iload_n 1, 1) := by decide +kernel
theorem d_OP_calculate_177 : decode b_OP_calculate 177 = .ok (.lload 5, 2) := by decide +kernel
theorem d_OP_calculate_179 : decode b_OP_calculate 179 = .ok (.lload_n 3, 1) := by decide +kernel
theorem d_OP_calculate_180 : decode b_OP_calculate 180 = .ok (.invokestatic 124, 3) := by decide +kernel
theorem d_OP_calculate_183 : decode b_OP_calculate 183 = .ok (.invokevirtual 117, 3) := by decide +kernel
theorem d_OP_calculate_186 : decode b_OP_calculate 186 = .ok (.iconst 0, 1) := by decide +kernel
theorem d_OP_calculate_187 : decode b_OP_calculate 187 = .ok (.ireturn, 1) := by decide +kernel
theorem wv_OP_79 : xh_V "SpendScript$Operations" 79 0 y_BS_number b_BS_number 4 (some .long) 0 := ⟨(sp_tb (List.mem_of_getElem? (i := 350) (by decide +kernel))), (sp_tb (List.mem_of_getElem? (i := 2) (by decide +kernel))), (sp_tb (List.mem_of_getElem? (i := 347) (by decide +kernel))), ⟨by decide +kernel, by decide +kernel, by decide +kernel⟩, (sp_tb (List.mem_of_getElem? (i := 348) (by decide +kernel))), (sp_tb (List.mem_of_getElem? (i := 349) (by decide +kernel))), F_BS, 2, rfl⟩
theorem wv_OP_92 : xh_V "SpendScript$Operations" 92 5 y_OP_numberFault b_OP_numberFault 2 (some .int) 1 := ⟨(sp_tb (List.mem_of_getElem? (i := 340) (by decide +kernel))), (sp_tb (List.mem_of_getElem? (i := 7) (by decide +kernel))), (sp_tb (List.mem_of_getElem? (i := 337) (by decide +kernel))), ⟨by decide +kernel, by decide +kernel, by decide +kernel⟩, (sp_tb (List.mem_of_getElem? (i := 339) (by decide +kernel))), (sp_pv (q := (y_OP_numberFault, 3)) (List.mem_of_getElem? (i := 7) (by decide +kernel))), F_OP, 3, rfl⟩
theorem wv_OP_69 : xh_V "SpendScript$Operations" 69 1 y_IS_drop b_IS_drop 2 none 1 := ⟨(sp_tb (List.mem_of_getElem? (i := 308) (by decide +kernel))), (sp_tb (List.mem_of_getElem? (i := 4) (by decide +kernel))), (sp_tb (List.mem_of_getElem? (i := 353) (by decide +kernel))), ⟨by decide +kernel, by decide +kernel, by decide +kernel⟩, (sp_tb (List.mem_of_getElem? (i := 306) (by decide +kernel))), (sp_tb (List.mem_of_getElem? (i := 307) (by decide +kernel))), F_IS, 3, rfl⟩
theorem ws_OP_124 : xh_S "SpendScript$Operations" 124 y_OP_ofTwo b_OP_ofTwo 5 (some .long) 3 := ⟨(sp_tb (List.mem_of_getElem? (i := 369) (by decide +kernel))), (sp_tb (List.mem_of_getElem? (i := 7) (by decide +kernel))), (sp_tb (List.mem_of_getElem? (i := 367) (by decide +kernel))), ⟨by decide +kernel, by decide +kernel, by decide +kernel⟩, (sp_tb (List.mem_of_getElem? (i := 368) (by decide +kernel)))⟩
theorem wv_OP_117 : xh_V "SpendScript$Operations" 117 5 y_OP_pushNumber b_OP_pushNumber 3 none 1 := ⟨(sp_tb (List.mem_of_getElem? (i := 364) (by decide +kernel))), (sp_tb (List.mem_of_getElem? (i := 7) (by decide +kernel))), (sp_tb (List.mem_of_getElem? (i := 361) (by decide +kernel))), ⟨by decide +kernel, by decide +kernel, by decide +kernel⟩, (sp_tb (List.mem_of_getElem? (i := 363) (by decide +kernel))), (sp_pv (q := (y_OP_pushNumber, 3)) (List.mem_of_getElem? (i := 8) (by decide +kernel))), F_OP, 3, rfl⟩
theorem ws_OP_113 : xh_S "SpendScript$Operations" 113 y_OP_ofOne b_OP_ofOne 3 (some .long) 2 := ⟨(sp_tb (List.mem_of_getElem? (i := 356) (by decide +kernel))), (sp_tb (List.mem_of_getElem? (i := 7) (by decide +kernel))), (sp_tb (List.mem_of_getElem? (i := 354) (by decide +kernel))), ⟨by decide +kernel, by decide +kernel, by decide +kernel⟩, (sp_tb (List.mem_of_getElem? (i := 355) (by decide +kernel)))⟩
abbrev rm_OP_calculate : Room := { frames := 3, cells := 0, slots := 0, locals := 128 }
def fx_OP_calculate_b158 (s0 : Int32) (X : xh_T) : Option (Int32 × xh_T) :=
  xh_b (fx_OP_oneIf s0 X) (fun (r56 : Int32) (X13 : xh_T) =>
  xh_b (fx_OP_pushNumber ((r56 : Int32).toInt64) X13) (fun (_ : Unit) (X14 : xh_T) =>
  some (0, X14)))
set_option maxRecDepth 100000 in
set_option maxHeartbeats 4000000 in
theorem jb_OP_calculate_b158 {p : Program} {l : Launch} {e : Env} {s : State} {m : MethodId} {args : Array Value} {below : List Frame} {meth : Method} {c : Code} {D : va_G} {G : xh_G} (hz : xh_C p s m args c b_OP_calculate 9 "SpendScript$Operations" D G (xh_A G s.heap.size)) (hr : meth.sig.returnType = (some .int)) (hlk : meth.locks = false) (s0 : Int32) (X : xh_T) : xh_J p l e rm_OP_calculate s m args below meth c 0 0 D G (xh_A G s.heap.size) 9 (fun r X' => MQ below (xh_Qi D G (xh_A G s.heap.size) r X') args s 0 0 (xh_A G s.heap.size)) 158 [] [.int s0, .ref (G.1 205)] X (fx_OP_calculate_b158 s0 X) := by
  unfold fx_OP_calculate_b158
  refine jr_callSi (As := [.int s0]) (st := [.ref (G.1 205)]) hz (cx_OP_oneIf l D G hz.2.2.2.2.2.2.1 s0 X) ws_OP_121 ⟨rfl, rfl, Nat.le_of_ble_eq_true rfl, Nat.le_of_ble_eq_true rfl⟩ ⟨Nat.zero_le _, Nat.zero_le _⟩ rfl rfl (Nat.le_of_ble_eq_true rfl) d_OP_calculate_158 (fun r56 X13 => ?_)
  refine jr_i2l hz d_OP_calculate_161 ?_
  refine jr_callVv (As := [.long ((r56 : Int32).toInt64)]) (a := 205) (ci := 5) (st := []) hz (cx_OP_pushNumber l D G hz.2.2.2.2.2.2.1 ((r56 : Int32).toInt64) X13) (fun _ _ => ⟨lq_205, _, ly_205⟩) wv_OP_117 ⟨rfl, rfl, Nat.le_of_ble_eq_true rfl, Nat.le_of_ble_eq_true rfl⟩ ⟨Nat.zero_le _, Nat.zero_le _⟩ rfl rfl (Nat.le_of_ble_eq_true rfl) d_OP_calculate_162 (fun _ X14 => ?_)
  refine jr_goto (tgt := 186) hz d_OP_calculate_165 (by decide) ?_
  refine jr_iconst (v := 0) hz d_OP_calculate_186 (by decide) ?_
  exact jr_iret hz hr hlk d_OP_calculate_187
def fx_OP_calculate_b157 (X : xh_T) : Option (Int32 × xh_T) :=
  fx_OP_calculate_b158 0 X
set_option maxRecDepth 100000 in
set_option maxHeartbeats 4000000 in
theorem jb_OP_calculate_b157 {p : Program} {l : Launch} {e : Env} {s : State} {m : MethodId} {args : Array Value} {below : List Frame} {meth : Method} {c : Code} {D : va_G} {G : xh_G} (hz : xh_C p s m args c b_OP_calculate 9 "SpendScript$Operations" D G (xh_A G s.heap.size)) (hr : meth.sig.returnType = (some .int)) (hlk : meth.locks = false) (X : xh_T) : xh_J p l e rm_OP_calculate s m args below meth c 0 0 D G (xh_A G s.heap.size) 9 (fun r X' => MQ below (xh_Qi D G (xh_A G s.heap.size) r X') args s 0 0 (xh_A G s.heap.size)) 157 [] [.ref (G.1 205)] X (fx_OP_calculate_b157 X) := by
  unfold fx_OP_calculate_b157
  refine jr_iconst (v := 0) hz d_OP_calculate_157 (by decide) ?_
  refine jr_sub (ls' := []) [] rfl ?_
  exact jb_OP_calculate_b158 hz hr hlk 0 X
def fx_OP_calculate_b107 (a1 : Int32) (a2 : Int32) (a3 : Int64) (a5 : Int64) (a7 : Int64) (X : xh_T) : Option (Int32 × xh_T) :=
  xh_b (fx_IS_drop 10 a2 X) (fun (_ : Unit) (X8 : xh_T) =>
  if a2 = 1 then
  xh_b (fx_OP_ofOne a1 a3 X8) (fun (r50 : Int64) (X11 : xh_T) =>
  xh_b (fx_OP_pushNumber r50 X11) (fun (_ : Unit) (X12 : xh_T) =>
  some (0, X12)))
  else if a2 = 3 then
  if 0 < (lg_cmp a5 a7) then
  fx_OP_calculate_b157 X8
  else if 0 ≤ (lg_cmp a7 a3) then
  fx_OP_calculate_b157 X8
  else fx_OP_calculate_b158 1 X8
  else if a1 = 157 then
  some (0, X8)
  else xh_b (fx_OP_ofTwo a1 a5 a3 X8) (fun (r42 : Int64) (X9 : xh_T) =>
  xh_b (fx_OP_pushNumber r42 X9) (fun (_ : Unit) (X10 : xh_T) =>
  some (0, X10))))
set_option maxRecDepth 100000 in
set_option maxHeartbeats 4000000 in
theorem jb_OP_calculate_b107 {p : Program} {l : Launch} {e : Env} {s : State} {m : MethodId} {args : Array Value} {below : List Frame} {meth : Method} {c : Code} {D : va_G} {G : xh_G} (hz : xh_C p s m args c b_OP_calculate 9 "SpendScript$Operations" D G (xh_A G s.heap.size)) (hr : meth.sig.returnType = (some .int)) (hlk : meth.locks = false) (a1 : Int32) (a2 : Int32) (a3 : Int64) (a5 : Int64) (a7 : Int64) (X : xh_T) : xh_J p l e rm_OP_calculate s m args below meth c 0 0 D G (xh_A G s.heap.size) 9 (fun r X' => MQ below (xh_Qi D G (xh_A G s.heap.size) r X') args s 0 0 (xh_A G s.heap.size)) 107 [(0, .ref (G.1 205)), (1, .int a1), (2, .int a2), (3, .long a3), (5, .long a5), (7, .long a7)] [] X (fx_OP_calculate_b107 a1 a2 a3 a5 a7 X) := by
  unfold fx_OP_calculate_b107
  refine jr_aload_n hz d_OP_calculate_107 rfl 0 rfl ?_
  refine jr_getr (j := 0) (t := 10) hz lq_205 ly_205 rfl wf_OP_9 d_OP_calculate_108 ?_
  refine jr_iload_n hz d_OP_calculate_111 rfl 2 rfl ?_
  refine jr_callVv (As := [.int a2]) (a := 10) (ci := 1) (st := []) hz (cx_IS_drop l D G hz.2.2.2.2.2.2.1 10 a2 X) (fun z h => sp_is_v (xh_k_t h)) wv_OP_69 ⟨rfl, rfl, Nat.le_of_ble_eq_true rfl, Nat.le_of_ble_eq_true rfl⟩ ⟨Nat.zero_le _, Nat.zero_le _⟩ rfl rfl (Nat.le_of_ble_eq_true rfl) d_OP_calculate_112 (fun _ X8 => ?_)
  refine jr_iload_n hz d_OP_calculate_115 rfl 2 rfl ?_
  refine jr_iconst (v := 1) hz d_OP_calculate_116 (by decide) ?_
  refine jr_icmp_ne (tgt := 132) hz d_OP_calculate_117 (by decide) ?_ ?_
  · refine jr_iload_n hz d_OP_calculate_132 rfl 2 rfl ?_
    refine jr_iconst (v := 3) hz d_OP_calculate_133 (by decide) ?_
    refine jr_icmp_ne (tgt := 168) hz d_OP_calculate_134 (by decide) ?_ ?_
    · refine jr_iload_n hz d_OP_calculate_168 rfl 1 rfl ?_
      refine jr_sipush (v := 157) hz d_OP_calculate_169 (by decide) ?_
      refine jr_icmp_eq (tgt := 186) hz d_OP_calculate_172 (by decide) ?_ ?_
      · refine jr_iconst (v := 0) hz d_OP_calculate_186 (by decide) ?_
        exact jr_iret hz hr hlk d_OP_calculate_187
      · refine jr_aload_n hz d_OP_calculate_175 rfl 0 rfl ?_
        refine jr_iload_n hz d_OP_calculate_176 rfl 1 rfl ?_
        refine jr_lload hz d_OP_calculate_177 4 rfl ?_
        refine jr_lload_n hz d_OP_calculate_179 rfl 3 rfl ?_
        refine jr_callSl (As := [.int a1, .long a5, .long a3]) (st := [.ref (G.1 205)]) hz (cx_OP_ofTwo l D G hz.2.2.2.2.2.2.1 a1 a5 a3 X8) ws_OP_124 ⟨rfl, rfl, Nat.le_of_ble_eq_true rfl, Nat.le_of_ble_eq_true rfl⟩ ⟨Nat.zero_le _, Nat.zero_le _⟩ rfl rfl (Nat.le_of_ble_eq_true rfl) d_OP_calculate_180 (fun r42 X9 => ?_)
        refine jr_callVv (As := [.long r42]) (a := 205) (ci := 5) (st := []) hz (cx_OP_pushNumber l D G hz.2.2.2.2.2.2.1 r42 X9) (fun _ _ => ⟨lq_205, _, ly_205⟩) wv_OP_117 ⟨rfl, rfl, Nat.le_of_ble_eq_true rfl, Nat.le_of_ble_eq_true rfl⟩ ⟨Nat.zero_le _, Nat.zero_le _⟩ rfl rfl (Nat.le_of_ble_eq_true rfl) d_OP_calculate_183 (fun _ X10 => ?_)
        refine jr_iconst (v := 0) hz d_OP_calculate_186 (by decide) ?_
        exact jr_iret hz hr hlk d_OP_calculate_187
    · refine jr_aload_n hz d_OP_calculate_137 rfl 0 rfl ?_
      refine jr_lload hz d_OP_calculate_138 4 rfl ?_
      refine jr_lload hz d_OP_calculate_140 5 rfl ?_
      refine jr_lcmp hz d_OP_calculate_142 ?_
      refine jr_if_gt (tgt := 157) hz d_OP_calculate_143 (by decide) ?_ ?_
      · refine jr_sub (ls' := []) [] rfl ?_
        exact jb_OP_calculate_b157 hz hr hlk X8
      · refine jr_lload hz d_OP_calculate_146 5 rfl ?_
        refine jr_lload_n hz d_OP_calculate_148 rfl 3 rfl ?_
        refine jr_lcmp hz d_OP_calculate_149 ?_
        refine jr_if_ge (tgt := 157) hz d_OP_calculate_150 (by decide) ?_ ?_
        · refine jr_sub (ls' := []) [] rfl ?_
          exact jb_OP_calculate_b157 hz hr hlk X8
        · refine jr_iconst (v := 1) hz d_OP_calculate_153 (by decide) ?_
          refine jr_goto (tgt := 158) hz d_OP_calculate_154 (by decide) ?_
          refine jr_sub (ls' := []) [] rfl ?_
          exact jb_OP_calculate_b158 hz hr hlk 1 X8
  · refine jr_aload_n hz d_OP_calculate_120 rfl 0 rfl ?_
    refine jr_iload_n hz d_OP_calculate_121 rfl 1 rfl ?_
    refine jr_lload_n hz d_OP_calculate_122 rfl 3 rfl ?_
    refine jr_callSl (As := [.int a1, .long a3]) (st := [.ref (G.1 205)]) hz (cx_OP_ofOne l D G hz.2.2.2.2.2.2.1 a1 a3 X8) ws_OP_113 ⟨rfl, rfl, Nat.le_of_ble_eq_true rfl, Nat.le_of_ble_eq_true rfl⟩ ⟨Nat.zero_le _, Nat.zero_le _⟩ rfl rfl (Nat.le_of_ble_eq_true rfl) d_OP_calculate_123 (fun r50 X11 => ?_)
    refine jr_callVv (As := [.long r50]) (a := 205) (ci := 5) (st := []) hz (cx_OP_pushNumber l D G hz.2.2.2.2.2.2.1 r50 X11) (fun _ _ => ⟨lq_205, _, ly_205⟩) wv_OP_117 ⟨rfl, rfl, Nat.le_of_ble_eq_true rfl, Nat.le_of_ble_eq_true rfl⟩ ⟨Nat.zero_le _, Nat.zero_le _⟩ rfl rfl (Nat.le_of_ble_eq_true rfl) d_OP_calculate_126 (fun _ X12 => ?_)
    refine jr_goto (tgt := 186) hz d_OP_calculate_129 (by decide) ?_
    refine jr_iconst (v := 0) hz d_OP_calculate_186 (by decide) ?_
    exact jr_iret hz hr hlk d_OP_calculate_187
def fx_OP_calculate_b26 : Nat → Int32 → Int32 → Int32 → xh_T → Option (Int32 × xh_T)
  | 0, _, _, _, _ => none
  | n + 1, a1, a2, a3, X => if a2 ≤ a3 then
  xh_b (fx_IS_item 10 0 X) (fun (q6 : Nat) (X1 : xh_T) =>
  xh_b (fx_BS_number q6 X1) (fun (r9 : Int64) (X2 : xh_T) =>
  xh_n r9 (fun v11 : Int64 =>
  xh_b (fx_IS_item 10 1 X2) (fun (q15 : Nat) (X3 : xh_T) =>
  xh_b (fx_BS_number q15 X3) (fun (r18 : Int64) (X4 : xh_T) =>
  xh_n r18 (fun v20 : Int64 =>
  xh_b (fx_IS_item 10 2 X4) (fun (q24 : Nat) (X5 : xh_T) =>
  xh_b (fx_BS_number q24 X5) (fun (r27 : Int64) (X6 : xh_T) =>
  xh_n r27 (fun v29 : Int64 =>
  if a1 = 157 then
  if (lg_cmp v11 v20) = 0 then
  fx_OP_calculate_b107 a1 a2 v11 v20 v29 X6
  else some (9, X6)
  else fx_OP_calculate_b107 a1 a2 v11 v20 v29 X6)))))))))
  else xh_b (fx_OP_numberFault a3 X) (fun (r30 : Int32) (X7 : xh_T) =>
  xh_n r30 (fun v34 : Int32 =>
  if v34 = 0 then
  xh_n (a3 + 1) (fun v35 : Int32 =>
  fx_OP_calculate_b26 n a1 a2 v35 X7)
  else some (v34, X7)))
set_option maxRecDepth 100000 in
set_option maxHeartbeats 4000000 in
theorem jb_OP_calculate_b26 {p : Program} {l : Launch} {e : Env} {s : State} {m : MethodId} {args : Array Value} {below : List Frame} {meth : Method} {c : Code} {D : va_G} {G : xh_G} (hz : xh_C p s m args c b_OP_calculate 9 "SpendScript$Operations" D G (xh_A G s.heap.size)) (hr : meth.sig.returnType = (some .int)) (hlk : meth.locks = false) : ∀ (n : Nat) (a1 : Int32) (a2 : Int32) (a3 : Int32) (X : xh_T), xh_J p l e rm_OP_calculate s m args below meth c 0 0 D G (xh_A G s.heap.size) 9 (fun r X' => MQ below (xh_Qi D G (xh_A G s.heap.size) r X') args s 0 0 (xh_A G s.heap.size)) 26 [(0, .ref (G.1 205)), (1, .int a1), (2, .int a2), (3, .int a3)] [] X (fx_OP_calculate_b26 n a1 a2 a3 X) := by
  intro n
  induction n with
  | zero => intro a1 a2 a3 X; exact jr_none
  | succ n ih =>
    intro a1 a2 a3 X
    rw [fx_OP_calculate_b26]
    refine jr_iload_n hz d_OP_calculate_26 rfl 3 rfl ?_
    refine jr_iload_n hz d_OP_calculate_27 rfl 2 rfl ?_
    refine jr_icmp_ge (tgt := 52) hz d_OP_calculate_28 (by decide) ?_ ?_
    · refine jr_aload_n hz d_OP_calculate_52 rfl 0 rfl ?_
      refine jr_getr (j := 0) (t := 10) hz lq_205 ly_205 rfl wf_OP_9 d_OP_calculate_53 ?_
      refine jr_iconst (v := 0) hz d_OP_calculate_56 (by decide) ?_
      refine jr_callVr (As := [.int 0]) (a := 10) (ci := 1) (st := []) hz (cx_IS_item l D G hz.2.2.2.2.2.2.1 10 0 X) (fun z h => sp_is_v (xh_k_t h)) wv_OP_59 ⟨rfl, rfl, Nat.le_of_ble_eq_true rfl, Nat.le_of_ble_eq_true rfl⟩ ⟨Nat.zero_le _, Nat.zero_le _⟩ rfl rfl (Nat.le_of_ble_eq_true rfl) d_OP_calculate_57 (fun q6 X1 => ?_)
      refine jr_callVl (As := []) (a := q6) (ci := 0) (st := []) hz (cx_BS_number l D G hz.2.2.2.2.2.2.1 q6 X1) (fun z h => sp_bs_v (xh_k_t h)) wv_OP_79 ⟨rfl, rfl, Nat.le_of_ble_eq_true rfl, Nat.le_of_ble_eq_true rfl⟩ ⟨Nat.zero_le _, Nat.zero_le _⟩ rfl rfl (Nat.le_of_ble_eq_true rfl) d_OP_calculate_60 (fun r9 X2 => ?_)
      refine jr_lstore_n (lf := [(0, .ref (G.1 205)), (1, .int a1), (2, .int a2)]) hz d_OP_calculate_63 rfl (by decide) rfl (fun v11 => ?_)
      refine jr_aload_n hz d_OP_calculate_64 rfl 1 rfl ?_
      refine jr_getr (j := 0) (t := 10) hz lq_205 ly_205 rfl wf_OP_9 d_OP_calculate_65 ?_
      refine jr_iconst (v := 1) hz d_OP_calculate_68 (by decide) ?_
      refine jr_callVr (As := [.int 1]) (a := 10) (ci := 1) (st := []) hz (cx_IS_item l D G hz.2.2.2.2.2.2.1 10 1 X2) (fun z h => sp_is_v (xh_k_t h)) wv_OP_59 ⟨rfl, rfl, Nat.le_of_ble_eq_true rfl, Nat.le_of_ble_eq_true rfl⟩ ⟨Nat.zero_le _, Nat.zero_le _⟩ rfl rfl (Nat.le_of_ble_eq_true rfl) d_OP_calculate_69 (fun q15 X3 => ?_)
      refine jr_callVl (As := []) (a := q15) (ci := 0) (st := []) hz (cx_BS_number l D G hz.2.2.2.2.2.2.1 q15 X3) (fun z h => sp_bs_v (xh_k_t h)) wv_OP_79 ⟨rfl, rfl, Nat.le_of_ble_eq_true rfl, Nat.le_of_ble_eq_true rfl⟩ ⟨Nat.zero_le _, Nat.zero_le _⟩ rfl rfl (Nat.le_of_ble_eq_true rfl) d_OP_calculate_72 (fun r18 X4 => ?_)
      refine jr_lstore (lf := [(3, .long v11), (0, .ref (G.1 205)), (1, .int a1), (2, .int a2)]) hz d_OP_calculate_75 (by decide) rfl (fun v20 => ?_)
      refine jr_aload_n hz d_OP_calculate_77 rfl 2 rfl ?_
      refine jr_getr (j := 0) (t := 10) hz lq_205 ly_205 rfl wf_OP_9 d_OP_calculate_78 ?_
      refine jr_iconst (v := 2) hz d_OP_calculate_81 (by decide) ?_
      refine jr_callVr (As := [.int 2]) (a := 10) (ci := 1) (st := []) hz (cx_IS_item l D G hz.2.2.2.2.2.2.1 10 2 X4) (fun z h => sp_is_v (xh_k_t h)) wv_OP_59 ⟨rfl, rfl, Nat.le_of_ble_eq_true rfl, Nat.le_of_ble_eq_true rfl⟩ ⟨Nat.zero_le _, Nat.zero_le _⟩ rfl rfl (Nat.le_of_ble_eq_true rfl) d_OP_calculate_82 (fun q24 X5 => ?_)
      refine jr_callVl (As := []) (a := q24) (ci := 0) (st := []) hz (cx_BS_number l D G hz.2.2.2.2.2.2.1 q24 X5) (fun z h => sp_bs_v (xh_k_t h)) wv_OP_79 ⟨rfl, rfl, Nat.le_of_ble_eq_true rfl, Nat.le_of_ble_eq_true rfl⟩ ⟨Nat.zero_le _, Nat.zero_le _⟩ rfl rfl (Nat.le_of_ble_eq_true rfl) d_OP_calculate_85 (fun r27 X6 => ?_)
      refine jr_lstore (lf := [(5, .long v20), (3, .long v11), (0, .ref (G.1 205)), (1, .int a1), (2, .int a2)]) hz d_OP_calculate_88 (by decide) rfl (fun v29 => ?_)
      refine jr_iload_n hz d_OP_calculate_90 rfl 4 rfl ?_
      refine jr_sipush (v := 157) hz d_OP_calculate_91 (by decide) ?_
      refine jr_icmp_ne (tgt := 107) hz d_OP_calculate_94 (by decide) ?_ ?_
      · refine jr_sub (ls' := [(0, .ref (G.1 205)), (1, .int a1), (2, .int a2), (3, .long v11), (5, .long v20), (7, .long v29)]) [3, 4, 5, 2, 1, 0] rfl ?_
        exact jb_OP_calculate_b107 hz hr hlk a1 a2 v11 v20 v29 X6
      · refine jr_lload_n hz d_OP_calculate_97 rfl 2 rfl ?_
        refine jr_lload hz d_OP_calculate_98 1 rfl ?_
        refine jr_lcmp hz d_OP_calculate_100 ?_
        refine jr_if_eq (tgt := 107) hz d_OP_calculate_101 (by decide) ?_ ?_
        · refine jr_sub (ls' := [(0, .ref (G.1 205)), (1, .int a1), (2, .int a2), (3, .long v11), (5, .long v20), (7, .long v29)]) [3, 4, 5, 2, 1, 0] rfl ?_
          exact jb_OP_calculate_b107 hz hr hlk a1 a2 v11 v20 v29 X6
        · refine jr_bipush (v := 9) hz d_OP_calculate_104 (by decide) ?_
          exact jr_iret hz hr hlk d_OP_calculate_106
    · refine jr_aload_n hz d_OP_calculate_31 rfl 0 rfl ?_
      refine jr_iload_n hz d_OP_calculate_32 rfl 3 rfl ?_
      refine jr_callVi (As := [.int a3]) (a := 205) (ci := 5) (st := []) hz (cx_OP_numberFault l D G hz.2.2.2.2.2.2.1 a3 X) (fun _ _ => ⟨lq_205, _, ly_205⟩) wv_OP_92 ⟨rfl, rfl, Nat.le_of_ble_eq_true rfl, Nat.le_of_ble_eq_true rfl⟩ ⟨Nat.zero_le _, Nat.zero_le _⟩ rfl rfl (Nat.le_of_ble_eq_true rfl) d_OP_calculate_33 (fun r30 X7 => ?_)
      refine jr_istore (lf := [(0, .ref (G.1 205)), (1, .int a1), (2, .int a2), (3, .int a3)]) hz d_OP_calculate_36 (by decide) rfl (fun v34 => ?_)
      refine jr_iload hz d_OP_calculate_38 0 rfl ?_
      refine jr_if_eq (tgt := 46) hz d_OP_calculate_40 (by decide) ?_ ?_
      · refine jr_iinc (lf := [(4, .int v34), (0, .ref (G.1 205)), (1, .int a1), (2, .int a2)]) (w := 1) hz d_OP_calculate_46 4 rfl (by decide) (by decide) rfl (fun v35 => ?_)
        refine jr_goto (tgt := 26) hz d_OP_calculate_49 (by decide) ?_
        refine jr_sub (ls' := [(0, .ref (G.1 205)), (1, .int a1), (2, .int a2), (3, .int v35)]) [2, 3, 4, 0] rfl ?_
        exact ih a1 a2 v35 X7
      · refine jr_iload hz d_OP_calculate_43 0 rfl ?_
        exact jr_iret hz hr hlk d_OP_calculate_45
def fx_OP_calculate_b23 (a1 : Int32) (s0 : Int32) (X : xh_T) : Option (Int32 × xh_T) :=
  xh_n s0 (fun v1 : Int32 =>
  xh_n 0 (fun v2 : Int32 =>
  fx_OP_calculate_b26 sp_fuel a1 v1 v2 X))
set_option maxRecDepth 100000 in
set_option maxHeartbeats 4000000 in
theorem jb_OP_calculate_b23 {p : Program} {l : Launch} {e : Env} {s : State} {m : MethodId} {args : Array Value} {below : List Frame} {meth : Method} {c : Code} {D : va_G} {G : xh_G} (hz : xh_C p s m args c b_OP_calculate 9 "SpendScript$Operations" D G (xh_A G s.heap.size)) (hr : meth.sig.returnType = (some .int)) (hlk : meth.locks = false) (a1 : Int32) (s0 : Int32) (X : xh_T) : xh_J p l e rm_OP_calculate s m args below meth c 0 0 D G (xh_A G s.heap.size) 9 (fun r X' => MQ below (xh_Qi D G (xh_A G s.heap.size) r X') args s 0 0 (xh_A G s.heap.size)) 23 [(0, .ref (G.1 205)), (1, .int a1)] [.int s0] X (fx_OP_calculate_b23 a1 s0 X) := by
  unfold fx_OP_calculate_b23
  refine jr_istore_n (lf := [(0, .ref (G.1 205)), (1, .int a1)]) hz d_OP_calculate_23 rfl (by decide) rfl (fun v1 => ?_)
  refine jr_iconst (v := 0) hz d_OP_calculate_24 (by decide) ?_
  refine jr_istore_n (lf := [(2, .int v1), (0, .ref (G.1 205)), (1, .int a1)]) hz d_OP_calculate_25 rfl (by decide) rfl (fun v2 => ?_)
  refine jr_sub (ls' := [(0, .ref (G.1 205)), (1, .int a1), (2, .int v1), (3, .int v2)]) [2, 3, 1, 0] rfl ?_
  exact jb_OP_calculate_b26 hz hr hlk sp_fuel a1 v1 v2 X
def fx_OP_calculate (p1 : Int32) (X : xh_T) : Option (Int32 × xh_T) :=
  if 146 < p1 then
  if 164 < p1 then
  fx_OP_calculate_b23 p1 3 X
  else fx_OP_calculate_b23 p1 2 X
  else fx_OP_calculate_b23 p1 1 X
set_option maxRecDepth 100000 in
set_option maxHeartbeats 4000000 in
theorem cx_OP_calculate (l : Launch) (D : va_G) (G : xh_G) (hD : xh_D G) (p1 : Int32) (X : xh_T) : xh_M xh_Qi l D G y_OP_calculate b_OP_calculate 9 (some .int) rm_OP_calculate [.ref (G.1 205), .int p1] X (fx_OP_calculate p1 X) := by
  refine xh_enter (ls := [(0, .ref (G.1 205)), (1, .int p1)]) hD (by decide +kernel) (Nat.le_of_ble_eq_true rfl) rfl ?_
  intro p e s m args below meth c hz hr hlk
  unfold fx_OP_calculate
  refine jr_iload_n hz d_OP_calculate_0 rfl 1 rfl ?_
  refine jr_sipush (v := 146) hz d_OP_calculate_1 (by decide) ?_
  refine jr_icmp_gt (tgt := 11) hz d_OP_calculate_4 (by decide) ?_ ?_
  · refine jr_iload_n hz d_OP_calculate_11 rfl 1 rfl ?_
    refine jr_sipush (v := 164) hz d_OP_calculate_12 (by decide) ?_
    refine jr_icmp_gt (tgt := 22) hz d_OP_calculate_15 (by decide) ?_ ?_
    · refine jr_iconst (v := 3) hz d_OP_calculate_22 (by decide) ?_
      refine jr_sub (ls' := [(0, .ref (G.1 205)), (1, .int p1)]) [0, 1] rfl ?_
      exact jb_OP_calculate_b23 hz hr hlk p1 3 X
    · refine jr_iconst (v := 2) hz d_OP_calculate_18 (by decide) ?_
      refine jr_goto (tgt := 23) hz d_OP_calculate_19 (by decide) ?_
      refine jr_sub (ls' := [(0, .ref (G.1 205)), (1, .int p1)]) [0, 1] rfl ?_
      exact jb_OP_calculate_b23 hz hr hlk p1 2 X
  · refine jr_iconst (v := 1) hz d_OP_calculate_7 (by decide) ?_
    refine jr_goto (tgt := 23) hz d_OP_calculate_8 (by decide) ?_
    refine jr_sub (ls' := [(0, .ref (G.1 205)), (1, .int p1)]) [0, 1] rfl ?_
    exact jb_OP_calculate_b23 hz hr hlk p1 1 X
theorem d_OP_fetchFromSecond_0 : decode b_OP_fetchFromSecond 0 = .ok (.aload_n 0, 1) := by decide +kernel
theorem d_OP_fetchFromSecond_1 : decode b_OP_fetchFromSecond 1 = .ok (.getfield 15, 3) := by decide +kernel
theorem d_OP_fetchFromSecond_4 : decode b_OP_fetchFromSecond 4 = .ok (.iconst 0, 1) := by decide +kernel
theorem d_OP_fetchFromSecond_5 : decode b_OP_fetchFromSecond 5 = .ok (.invokevirtual 49, 3) := by decide +kernel
theorem d_OP_fetchFromSecond_8 : decode b_OP_fetchFromSecond 8 = .ok (.ifCond .ne 6, 3) := by decide +kernel
theorem d_OP_fetchFromSecond_11 : decode b_OP_fetchFromSecond 11 = .ok (.bipush 11, 2) := by decide +kernel
theorem d_OP_fetchFromSecond_13 : decode b_OP_fetchFromSecond 13 = .ok (.ireturn, 1) := by decide +kernel
theorem d_OP_fetchFromSecond_14 : decode b_OP_fetchFromSecond 14 = .ok (.aload_n 0, 1) := by decide +kernel
theorem d_OP_fetchFromSecond_15 : decode b_OP_fetchFromSecond 15 = .ok (.getfield 9, 3) := by decide +kernel
theorem d_OP_fetchFromSecond_18 : decode b_OP_fetchFromSecond 18 = .ok (.invokevirtual 55, 3) := by decide +kernel
theorem d_OP_fetchFromSecond_21 : decode b_OP_fetchFromSecond 21 = .ok (.aload_n 0, 1) := by decide +kernel
theorem d_OP_fetchFromSecond_22 : decode b_OP_fetchFromSecond 22 = .ok (.getfield 15, 3) := by decide +kernel
theorem d_OP_fetchFromSecond_25 : decode b_OP_fetchFromSecond 25 = .ok (.iconst 0, 1) := by decide +kernel
theorem d_OP_fetchFromSecond_26 : decode b_OP_fetchFromSecond 26 = .ok (.invokevirtual 59, 3) := by decide +kernel
theorem d_OP_fetchFromSecond_29 : decode b_OP_fetchFromSecond 29 = .ok (.invokevirtual 63, 3) := by decide +kernel
theorem d_OP_fetchFromSecond_32 : decode b_OP_fetchFromSecond 32 = .ok (.aload_n 0, 1) := by decide +kernel
theorem d_OP_fetchFromSecond_33 : decode b_OP_fetchFromSecond 33 = .ok (.getfield 15, 3) := by decide +kernel
theorem d_OP_fetchFromSecond_36 : decode b_OP_fetchFromSecond 36 = .ok (.iconst 1, 1) := by decide +kernel
theorem d_OP_fetchFromSecond_37 : decode b_OP_fetchFromSecond 37 = .ok (.invokevirtual 69, 3) := by decide +kernel
theorem d_OP_fetchFromSecond_40 : decode b_OP_fetchFromSecond 40 = .ok (.iconst 0, 1) := by decide +kernel
theorem d_OP_fetchFromSecond_41 : decode b_OP_fetchFromSecond 41 = .ok (.ireturn, 1) := by decide +kernel
theorem wf_OP_15 : xh_F "SpendScript$Operations" 15 5 1 := ⟨R_OP, F_OP, 3, rfl, by decide, iw_OP, (sp_tb (List.mem_of_getElem? (i := 97) (by decide +kernel)))⟩
theorem wv_OP_63 : xh_V "SpendScript$Operations" 63 0 y_BS_becomeCopyOf b_BS_becomeCopyOf 2 none 1 := ⟨(sp_tb (List.mem_of_getElem? (i := 383) (by decide +kernel))), (sp_tb (List.mem_of_getElem? (i := 2) (by decide +kernel))), (sp_tb (List.mem_of_getElem? (i := 380) (by decide +kernel))), ⟨by decide +kernel, by decide +kernel, by decide +kernel⟩, (sp_tb (List.mem_of_getElem? (i := 381) (by decide +kernel))), (sp_tb (List.mem_of_getElem? (i := 382) (by decide +kernel))), F_BS, 2, rfl⟩
abbrev rm_OP_fetchFromSecond : Room := { frames := 2, cells := 0, slots := 0, locals := 101 }
def fx_OP_fetchFromSecond (X : xh_T) : Option (Int32 × xh_T) :=
  xh_b (fx_IS_has 139 0 X) (fun (r2 : Int32) (X1 : xh_T) =>
  if r2 = 0 then
  some (11, X1)
  else xh_b (fx_IS_push 10 X1) (fun (q8 : Nat) (X2 : xh_T) =>
  xh_b (fx_IS_item 139 0 X2) (fun (q12 : Nat) (X3 : xh_T) =>
  xh_b (fx_BS_becomeCopyOf q8 q12 X3) (fun (_ : Unit) (X4 : xh_T) =>
  xh_b (fx_IS_drop 139 1 X4) (fun (_ : Unit) (X5 : xh_T) =>
  some (0, X5))))))
set_option maxRecDepth 100000 in
set_option maxHeartbeats 4000000 in
theorem cx_OP_fetchFromSecond (l : Launch) (D : va_G) (G : xh_G) (hD : xh_D G) (X : xh_T) : xh_M xh_Qi l D G y_OP_fetchFromSecond b_OP_fetchFromSecond 1 (some .int) rm_OP_fetchFromSecond [.ref (G.1 205)] X (fx_OP_fetchFromSecond X) := by
  refine xh_enter (ls := [(0, .ref (G.1 205))]) hD (by decide +kernel) (Nat.le_of_ble_eq_true rfl) rfl ?_
  intro p e s m args below meth c hz hr hlk
  unfold fx_OP_fetchFromSecond
  refine jr_aload_n hz d_OP_fetchFromSecond_0 rfl 0 rfl ?_
  refine jr_getr (j := 1) (t := 139) hz lq_205 ly_205 rfl wf_OP_15 d_OP_fetchFromSecond_1 ?_
  refine jr_iconst (v := 0) hz d_OP_fetchFromSecond_4 (by decide) ?_
  refine jr_callVi (As := [.int 0]) (a := 139) (ci := 1) (st := []) hz (cx_IS_has l D G hz.2.2.2.2.2.2.1 139 0 X) (fun z h => sp_is_v (xh_k_t h)) wv_OP_49 ⟨rfl, rfl, Nat.le_of_ble_eq_true rfl, Nat.le_of_ble_eq_true rfl⟩ ⟨Nat.zero_le _, Nat.zero_le _⟩ rfl rfl (Nat.le_of_ble_eq_true rfl) d_OP_fetchFromSecond_5 (fun r2 X1 => ?_)
  refine jr_if_ne (tgt := 14) hz d_OP_fetchFromSecond_8 (by decide) ?_ ?_
  · refine jr_aload_n hz d_OP_fetchFromSecond_14 rfl 0 rfl ?_
    refine jr_getr (j := 0) (t := 10) hz lq_205 ly_205 rfl wf_OP_9 d_OP_fetchFromSecond_15 ?_
    refine jr_callVr (As := []) (a := 10) (ci := 1) (st := []) hz (cx_IS_push l D G hz.2.2.2.2.2.2.1 10 X1) (fun z h => sp_is_v (xh_k_t h)) wv_OP_55 ⟨rfl, rfl, Nat.le_of_ble_eq_true rfl, Nat.le_of_ble_eq_true rfl⟩ ⟨Nat.zero_le _, Nat.zero_le _⟩ rfl rfl (Nat.le_of_ble_eq_true rfl) d_OP_fetchFromSecond_18 (fun q8 X2 => ?_)
    refine jr_aload_n hz d_OP_fetchFromSecond_21 rfl 0 rfl ?_
    refine jr_getr (j := 1) (t := 139) hz lq_205 ly_205 rfl wf_OP_15 d_OP_fetchFromSecond_22 ?_
    refine jr_iconst (v := 0) hz d_OP_fetchFromSecond_25 (by decide) ?_
    refine jr_callVr (As := [.int 0]) (a := 139) (ci := 1) (st := [.ref (G.1 q8)]) hz (cx_IS_item l D G hz.2.2.2.2.2.2.1 139 0 X2) (fun z h => sp_is_v (xh_k_t h)) wv_OP_59 ⟨rfl, rfl, Nat.le_of_ble_eq_true rfl, Nat.le_of_ble_eq_true rfl⟩ ⟨Nat.zero_le _, Nat.zero_le _⟩ rfl rfl (Nat.le_of_ble_eq_true rfl) d_OP_fetchFromSecond_26 (fun q12 X3 => ?_)
    refine jr_callVv (As := [.ref (G.1 q12)]) (a := q8) (ci := 0) (st := []) hz (cx_BS_becomeCopyOf l D G hz.2.2.2.2.2.2.1 q8 q12 X3) (fun z h => sp_bs_v (xh_k_t h)) wv_OP_63 ⟨rfl, rfl, Nat.le_of_ble_eq_true rfl, Nat.le_of_ble_eq_true rfl⟩ ⟨Nat.zero_le _, Nat.zero_le _⟩ rfl rfl (Nat.le_of_ble_eq_true rfl) d_OP_fetchFromSecond_29 (fun _ X4 => ?_)
    refine jr_aload_n hz d_OP_fetchFromSecond_32 rfl 0 rfl ?_
    refine jr_getr (j := 1) (t := 139) hz lq_205 ly_205 rfl wf_OP_15 d_OP_fetchFromSecond_33 ?_
    refine jr_iconst (v := 1) hz d_OP_fetchFromSecond_36 (by decide) ?_
    refine jr_callVv (As := [.int 1]) (a := 139) (ci := 1) (st := []) hz (cx_IS_drop l D G hz.2.2.2.2.2.2.1 139 1 X4) (fun z h => sp_is_v (xh_k_t h)) wv_OP_69 ⟨rfl, rfl, Nat.le_of_ble_eq_true rfl, Nat.le_of_ble_eq_true rfl⟩ ⟨Nat.zero_le _, Nat.zero_le _⟩ rfl rfl (Nat.le_of_ble_eq_true rfl) d_OP_fetchFromSecond_37 (fun _ X5 => ?_)
    refine jr_iconst (v := 0) hz d_OP_fetchFromSecond_40 (by decide) ?_
    exact jr_iret hz hr hlk d_OP_fetchFromSecond_41
  · refine jr_bipush (v := 11) hz d_OP_fetchFromSecond_11 (by decide) ?_
    exact jr_iret hz hr hlk d_OP_fetchFromSecond_13
theorem d_OP_countFault_0 : decode b_OP_countFault 0 = .ok (.aload_n 0, 1) := by decide +kernel
theorem d_OP_countFault_1 : decode b_OP_countFault 1 = .ok (.iload_n 1, 1) := by decide +kernel
theorem d_OP_countFault_2 : decode b_OP_countFault 2 = .ok (.invokevirtual 92, 3) := by decide +kernel
theorem d_OP_countFault_5 : decode b_OP_countFault 5 = .ok (.istore_n 3, 1) := by decide +kernel
theorem d_OP_countFault_6 : decode b_OP_countFault 6 = .ok (.iload_n 3, 1) := by decide +kernel
theorem d_OP_countFault_7 : decode b_OP_countFault 7 = .ok (.ifCond .eq 5, 3) := by decide +kernel
theorem d_OP_countFault_10 : decode b_OP_countFault 10 = .ok (.iload_n 3, 1) := by decide +kernel
theorem d_OP_countFault_11 : decode b_OP_countFault 11 = .ok (.ireturn, 1) := by decide +kernel
theorem d_OP_countFault_12 : decode b_OP_countFault 12 = .ok (.aload_n 0, 1) := by decide +kernel
theorem d_OP_countFault_13 : decode b_OP_countFault 13 = .ok (.getfield 9, 3) := by decide +kernel
theorem d_OP_countFault_16 : decode b_OP_countFault 16 = .ok (.iload_n 1, 1) := by decide +kernel
theorem d_OP_countFault_17 : decode b_OP_countFault 17 = .ok (.invokevirtual 59, 3) := by decide +kernel
theorem d_OP_countFault_20 : decode b_OP_countFault 20 = .ok (.invokevirtual 79, 3) := by decide +kernel
theorem d_OP_countFault_23 : decode b_OP_countFault 23 = .ok (.lstore 4, 2) := by decide +kernel
theorem d_OP_countFault_25 : decode b_OP_countFault 25 = .ok (.lload 4, 2) := by decide +kernel
theorem d_OP_countFault_27 : decode b_OP_countFault 27 = .ok (.lconst 0, 1) := by decide +kernel
theorem d_OP_countFault_28 : decode b_OP_countFault 28 = .ok (.lcmp, 1) := by decide +kernel
theorem d_OP_countFault_29 : decode b_OP_countFault 29 = .ok (.ifCond .lt 11, 3) := by decide +kernel
theorem d_OP_countFault_32 : decode b_OP_countFault 32 = .ok (.lload 4, 2) := by decide +kernel
theorem d_OP_countFault_34 : decode b_OP_countFault 34 = .ok (.iload_n 2, 1) := by decide +kernel
theorem d_OP_countFault_35 : decode b_OP_countFault 35 = .ok (.i2l, 1) := by decide +kernel
theorem d_OP_countFault_36 : decode b_OP_countFault 36 = .ok (.lcmp, 1) := by decide +kernel
theorem d_OP_countFault_37 : decode b_OP_countFault 37 = .ok (.ifCond .le 8, 3) := by decide +kernel
theorem d_OP_countFault_40 : decode b_OP_countFault 40 = .ok (.bipush 13, 2) := by decide +kernel
theorem d_OP_countFault_42 : decode b_OP_countFault 42 = .ok (.goto 4, 3) := by decide +kernel
theorem d_OP_countFault_45 : decode b_OP_countFault 45 = .ok (.iconst 0, 1) := by decide +kernel
theorem d_OP_countFault_46 : decode b_OP_countFault 46 = .ok (.ireturn, 1) := by decide +kernel
abbrev rm_OP_countFault : Room := { frames := 2, cells := 0, slots := 0, locals := 43 }
def fx_OP_countFault_b40 (X : xh_T) : Option (Int32 × xh_T) :=
  some (13, X)
set_option maxRecDepth 100000 in
set_option maxHeartbeats 4000000 in
theorem jb_OP_countFault_b40 {p : Program} {l : Launch} {e : Env} {s : State} {m : MethodId} {args : Array Value} {below : List Frame} {meth : Method} {c : Code} {D : va_G} {G : xh_G} (hz : xh_C p s m args c b_OP_countFault 6 "SpendScript$Operations" D G (xh_A G s.heap.size)) (hr : meth.sig.returnType = (some .int)) (hlk : meth.locks = false) (X : xh_T) : xh_J p l e rm_OP_countFault s m args below meth c 0 0 D G (xh_A G s.heap.size) 6 (fun r X' => MQ below (xh_Qi D G (xh_A G s.heap.size) r X') args s 0 0 (xh_A G s.heap.size)) 40 [] [] X (fx_OP_countFault_b40 X) := by
  unfold fx_OP_countFault_b40
  refine jr_bipush (v := 13) hz d_OP_countFault_40 (by decide) ?_
  refine jr_goto (tgt := 46) hz d_OP_countFault_42 (by decide) ?_
  exact jr_iret hz hr hlk d_OP_countFault_46
def fx_OP_countFault (p1 : Int32) (p2 : Int32) (X : xh_T) : Option (Int32 × xh_T) :=
  xh_b (fx_OP_numberFault p1 X) (fun (r1 : Int32) (X1 : xh_T) =>
  xh_n r1 (fun v5 : Int32 =>
  if v5 = 0 then
  xh_b (fx_IS_item 10 p1 X1) (fun (q9 : Nat) (X2 : xh_T) =>
  xh_b (fx_BS_number q9 X2) (fun (r12 : Int64) (X3 : xh_T) =>
  xh_n r12 (fun v14 : Int64 =>
  if (lg_cmp v14 0) < 0 then
  fx_OP_countFault_b40 X3
  else if (lg_cmp v14 ((p2 : Int32).toInt64)) ≤ 0 then
  some (0, X3)
  else fx_OP_countFault_b40 X3)))
  else some (v5, X1)))
set_option maxRecDepth 100000 in
set_option maxHeartbeats 4000000 in
theorem cx_OP_countFault (l : Launch) (D : va_G) (G : xh_G) (hD : xh_D G) (p1 : Int32) (p2 : Int32) (X : xh_T) : xh_M xh_Qi l D G y_OP_countFault b_OP_countFault 6 (some .int) rm_OP_countFault [.ref (G.1 205), .int p1, .int p2] X (fx_OP_countFault p1 p2 X) := by
  refine xh_enter (ls := [(0, .ref (G.1 205)), (1, .int p1), (2, .int p2)]) hD (by decide +kernel) (Nat.le_of_ble_eq_true rfl) rfl ?_
  intro p e s m args below meth c hz hr hlk
  unfold fx_OP_countFault
  refine jr_aload_n hz d_OP_countFault_0 rfl 0 rfl ?_
  refine jr_iload_n hz d_OP_countFault_1 rfl 1 rfl ?_
  refine jr_callVi (As := [.int p1]) (a := 205) (ci := 5) (st := []) hz (cx_OP_numberFault l D G hz.2.2.2.2.2.2.1 p1 X) (fun _ _ => ⟨lq_205, _, ly_205⟩) wv_OP_92 ⟨rfl, rfl, Nat.le_of_ble_eq_true rfl, Nat.le_of_ble_eq_true rfl⟩ ⟨Nat.zero_le _, Nat.zero_le _⟩ rfl rfl (Nat.le_of_ble_eq_true rfl) d_OP_countFault_2 (fun r1 X1 => ?_)
  refine jr_istore_n (lf := [(0, .ref (G.1 205)), (1, .int p1), (2, .int p2)]) hz d_OP_countFault_5 rfl (by decide) rfl (fun v5 => ?_)
  refine jr_iload_n hz d_OP_countFault_6 rfl 0 rfl ?_
  refine jr_if_eq (tgt := 12) hz d_OP_countFault_7 (by decide) ?_ ?_
  · refine jr_aload_n hz d_OP_countFault_12 rfl 1 rfl ?_
    refine jr_getr (j := 0) (t := 10) hz lq_205 ly_205 rfl wf_OP_9 d_OP_countFault_13 ?_
    refine jr_iload_n hz d_OP_countFault_16 rfl 2 rfl ?_
    refine jr_callVr (As := [.int p1]) (a := 10) (ci := 1) (st := []) hz (cx_IS_item l D G hz.2.2.2.2.2.2.1 10 p1 X1) (fun z h => sp_is_v (xh_k_t h)) wv_OP_59 ⟨rfl, rfl, Nat.le_of_ble_eq_true rfl, Nat.le_of_ble_eq_true rfl⟩ ⟨Nat.zero_le _, Nat.zero_le _⟩ rfl rfl (Nat.le_of_ble_eq_true rfl) d_OP_countFault_17 (fun q9 X2 => ?_)
    refine jr_callVl (As := []) (a := q9) (ci := 0) (st := []) hz (cx_BS_number l D G hz.2.2.2.2.2.2.1 q9 X2) (fun z h => sp_bs_v (xh_k_t h)) wv_OP_79 ⟨rfl, rfl, Nat.le_of_ble_eq_true rfl, Nat.le_of_ble_eq_true rfl⟩ ⟨Nat.zero_le _, Nat.zero_le _⟩ rfl rfl (Nat.le_of_ble_eq_true rfl) d_OP_countFault_20 (fun r12 X3 => ?_)
    refine jr_lstore (lf := [(3, .int v5), (0, .ref (G.1 205)), (1, .int p1), (2, .int p2)]) hz d_OP_countFault_23 (by decide) rfl (fun v14 => ?_)
    refine jr_lload hz d_OP_countFault_25 0 rfl ?_
    refine jr_lconst (v := 0) hz d_OP_countFault_27 (by decide) ?_
    refine jr_lcmp hz d_OP_countFault_28 ?_
    refine jr_if_lt (tgt := 40) hz d_OP_countFault_29 (by decide) ?_ ?_
    · refine jr_sub (ls' := []) [] rfl ?_
      exact jb_OP_countFault_b40 hz hr hlk X3
    · refine jr_lload hz d_OP_countFault_32 0 rfl ?_
      refine jr_iload_n hz d_OP_countFault_34 rfl 4 rfl ?_
      refine jr_i2l hz d_OP_countFault_35 ?_
      refine jr_lcmp hz d_OP_countFault_36 ?_
      refine jr_if_le (tgt := 45) hz d_OP_countFault_37 (by decide) ?_ ?_
      · refine jr_iconst (v := 0) hz d_OP_countFault_45 (by decide) ?_
        exact jr_iret hz hr hlk d_OP_countFault_46
      · refine jr_sub (ls' := []) [] rfl ?_
        exact jb_OP_countFault_b40 hz hr hlk X3
  · refine jr_iload_n hz d_OP_countFault_10 rfl 0 rfl ?_
    exact jr_iret hz hr hlk d_OP_countFault_11
theorem d_OP_pick_0 : decode b_OP_pick 0 = .ok (.aload_n 0, 1) := by decide +kernel
theorem d_OP_pick_1 : decode b_OP_pick 1 = .ok (.iconst 0, 1) := by decide +kernel
theorem d_OP_pick_2 : decode b_OP_pick 2 = .ok (.ldc 74, 2) := by decide +kernel
theorem d_OP_pick_4 : decode b_OP_pick 4 = .ok (.invokevirtual 75, 3) := by decide +kernel
theorem d_OP_pick_7 : decode b_OP_pick 7 = .ok (.istore_n 2, 1) := by decide +kernel
theorem d_OP_pick_8 : decode b_OP_pick 8 = .ok (.iload_n 2, 1) := by decide +kernel
theorem d_OP_pick_9 : decode b_OP_pick 9 = .ok (.ifCond .eq 5, 3) := by decide +kernel
theorem d_OP_pick_12 : decode b_OP_pick 12 = .ok (.iload_n 2, 1) := by decide +kernel
theorem d_OP_pick_13 : decode b_OP_pick 13 = .ok (.ireturn, 1) := by decide +kernel
theorem d_OP_pick_14 : decode b_OP_pick 14 = .ok (.aload_n 0, 1) := by decide +kernel
theorem d_OP_pick_15 : decode b_OP_pick 15 = .ok (.getfield 9, 3) := by decide +kernel
theorem d_OP_pick_18 : decode b_OP_pick 18 = .ok (.iconst 0, 1) := by decide +kernel
theorem d_OP_pick_19 : decode b_OP_pick 19 = .ok (.invokevirtual 59, 3) := by decide +kernel
theorem d_OP_pick_22 : decode b_OP_pick 22 = .ok (.invokevirtual 79, 3) := by decide +kernel
theorem d_OP_pick_25 : decode b_OP_pick 25 = .ok (.l2i, 1) := by decide +kernel
theorem d_OP_pick_26 : decode b_OP_pick 26 = .ok (.istore_n 3, 1) := by decide +kernel
theorem d_OP_pick_27 : decode b_OP_pick 27 = .ok (.iload_n 3, 1) := by decide +kernel
theorem d_OP_pick_28 : decode b_OP_pick 28 = .ok (.aload_n 0, 1) := by decide +kernel
theorem d_OP_pick_29 : decode b_OP_pick 29 = .ok (.getfield 9, 3) := by decide +kernel
theorem d_OP_pick_32 : decode b_OP_pick 32 = .ok (.invokevirtual 83, 3) := by decide +kernel
theorem d_OP_pick_35 : decode b_OP_pick 35 = .ok (.iconst 1, 1) := by decide +kernel
theorem d_OP_pick_36 : decode b_OP_pick 36 = .ok (.isub, 1) := by decide +kernel
theorem d_OP_pick_37 : decode b_OP_pick 37 = .ok (.if_icmp .lt 6, 3) := by decide +kernel
theorem d_OP_pick_40 : decode b_OP_pick 40 = .ok (.bipush 11, 2) := by decide +kernel
theorem d_OP_pick_42 : decode b_OP_pick 42 = .ok (.ireturn, 1) := by decide +kernel
theorem d_OP_pick_43 : decode b_OP_pick 43 = .ok (.aload_n 0, 1) := by decide +kernel
theorem d_OP_pick_44 : decode b_OP_pick 44 = .ok (.getfield 9, 3) := by decide +kernel
theorem d_OP_pick_47 : decode b_OP_pick 47 = .ok (.iconst 1, 1) := by decide +kernel
theorem d_OP_pick_48 : decode b_OP_pick 48 = .ok (.invokevirtual 69, 3) := by decide +kernel
theorem d_OP_pick_51 : decode b_OP_pick 51 = .ok (.iload_n 1, 1) := by decide +kernel
theorem d_OP_pick_52 : decode b_OP_pick 52 = .ok (.ifCond .eq 14, 3) := by decide +kernel
theorem d_OP_pick_55 : decode b_OP_pick 55 = .ok (.aload_n 0, 1) := by decide +kernel
theorem d_OP_pick_56 : decode b_OP_pick 56 = .ok (.getfield 9, 3) := by decide +kernel
theorem d_OP_pick_59 : decode b_OP_pick 59 = .ok (.iload_n 3, 1) := by decide +kernel
theorem d_OP_pick_60 : decode b_OP_pick 60 = .ok (.invokevirtual 86, 3) := by decide +kernel
theorem d_OP_pick_63 : decode b_OP_pick 63 = .ok (.goto 11, 3) := by decide +kernel
theorem d_OP_pick_66 : decode b_OP_pick 66 = .ok (.aload_n 0, 1) := by decide +kernel
theorem d_OP_pick_67 : decode b_OP_pick 67 = .ok (.getfield 9, 3) := by decide +kernel
theorem d_OP_pick_70 : decode b_OP_pick 70 = .ok (.iload_n 3, 1) := by decide +kernel
theorem d_OP_pick_71 : decode b_OP_pick 71 = .ok (.invokevirtual 89, 3) := by decide +kernel
theorem d_OP_pick_74 : decode b_OP_pick 74 = .ok (.iconst 0, 1) := by decide +kernel
theorem d_OP_pick_75 : decode b_OP_pick 75 = .ok (.ireturn, 1) := by decide +kernel
theorem wk_OP_74 : Cond.constant "SpendScript$Operations" 74 2147483647 ∈ sp_ws := (sp_tb (List.mem_of_getElem? (i := 391) (by decide +kernel)))
theorem wv_OP_75 : xh_V "SpendScript$Operations" 75 5 y_OP_countFault b_OP_countFault 6 (some .int) 2 := ⟨(sp_tb (List.mem_of_getElem? (i := 395) (by decide +kernel))), (sp_tb (List.mem_of_getElem? (i := 7) (by decide +kernel))), (sp_tb (List.mem_of_getElem? (i := 392) (by decide +kernel))), ⟨by decide +kernel, by decide +kernel, by decide +kernel⟩, (sp_tb (List.mem_of_getElem? (i := 394) (by decide +kernel))), (sp_pv (q := (y_OP_countFault, 3)) (List.mem_of_getElem? (i := 11) (by decide +kernel))), F_OP, 3, rfl⟩
theorem wv_OP_83 : xh_V "SpendScript$Operations" 83 1 y_IS_size b_IS_size 1 (some .int) 0 := ⟨(sp_tb (List.mem_of_getElem? (i := 251) (by decide +kernel))), (sp_tb (List.mem_of_getElem? (i := 4) (by decide +kernel))), (sp_tb (List.mem_of_getElem? (i := 396) (by decide +kernel))), ⟨by decide +kernel, by decide +kernel, by decide +kernel⟩, (sp_tb (List.mem_of_getElem? (i := 249) (by decide +kernel))), (sp_tb (List.mem_of_getElem? (i := 250) (by decide +kernel))), F_IS, 3, rfl⟩
theorem wv_OP_89 : xh_V "SpendScript$Operations" 89 1 y_IS_pushCopy b_IS_pushCopy 3 none 1 := ⟨(sp_tb (List.mem_of_getElem? (i := 406) (by decide +kernel))), (sp_tb (List.mem_of_getElem? (i := 4) (by decide +kernel))), (sp_tb (List.mem_of_getElem? (i := 403) (by decide +kernel))), ⟨by decide +kernel, by decide +kernel, by decide +kernel⟩, (sp_tb (List.mem_of_getElem? (i := 404) (by decide +kernel))), (sp_tb (List.mem_of_getElem? (i := 405) (by decide +kernel))), F_IS, 3, rfl⟩
theorem wv_OP_86 : xh_V "SpendScript$Operations" 86 1 y_IS_raise b_IS_raise 4 none 1 := ⟨(sp_tb (List.mem_of_getElem? (i := 400) (by decide +kernel))), (sp_tb (List.mem_of_getElem? (i := 4) (by decide +kernel))), (sp_tb (List.mem_of_getElem? (i := 397) (by decide +kernel))), ⟨by decide +kernel, by decide +kernel, by decide +kernel⟩, (sp_tb (List.mem_of_getElem? (i := 398) (by decide +kernel))), (sp_tb (List.mem_of_getElem? (i := 399) (by decide +kernel))), F_IS, 3, rfl⟩
abbrev rm_OP_pick : Room := { frames := 3, cells := 0, slots := 0, locals := 123 }
def fx_OP_pick (p1 : Int32) (X : xh_T) : Option (Int32 × xh_T) :=
  xh_b (fx_OP_countFault 0 2147483647 X) (fun (r1 : Int32) (X1 : xh_T) =>
  xh_n r1 (fun v5 : Int32 =>
  if v5 = 0 then
  xh_b (fx_IS_item 10 0 X1) (fun (q9 : Nat) (X2 : xh_T) =>
  xh_b (fx_BS_number q9 X2) (fun (r12 : Int64) (X3 : xh_T) =>
  xh_n ((r12 : Int64).toInt32) (fun v14 : Int32 =>
  xh_b (fx_IS_size 10 X3) (fun (r15 : Int32) (X4 : xh_T) =>
  if v14 < (r15 - 1) then
  xh_b (fx_IS_drop 10 1 X4) (fun (_ : Unit) (X5 : xh_T) =>
  if p1 = 0 then
  xh_b (fx_IS_pushCopy 10 v14 X5) (fun (_ : Unit) (X6 : xh_T) =>
  some (0, X6))
  else xh_b (fx_IS_raise 10 v14 X5) (fun (_ : Unit) (X7 : xh_T) =>
  some (0, X7)))
  else some (11, X4)))))
  else some (v5, X1)))
set_option maxRecDepth 100000 in
set_option maxHeartbeats 4000000 in
theorem cx_OP_pick (l : Launch) (D : va_G) (G : xh_G) (hD : xh_D G) (p1 : Int32) (X : xh_T) : xh_M xh_Qi l D G y_OP_pick b_OP_pick 4 (some .int) rm_OP_pick [.ref (G.1 205), .int p1] X (fx_OP_pick p1 X) := by
  refine xh_enter (ls := [(0, .ref (G.1 205)), (1, .int p1)]) hD (by decide +kernel) (Nat.le_of_ble_eq_true rfl) rfl ?_
  intro p e s m args below meth c hz hr hlk
  unfold fx_OP_pick
  refine jr_aload_n hz d_OP_pick_0 rfl 0 rfl ?_
  refine jr_iconst (v := 0) hz d_OP_pick_1 (by decide) ?_
  refine jr_ldc (v := 2147483647) hz wk_OP_74 d_OP_pick_2 ?_
  refine jr_callVi (As := [.int 0, .int 2147483647]) (a := 205) (ci := 5) (st := []) hz (cx_OP_countFault l D G hz.2.2.2.2.2.2.1 0 2147483647 X) (fun _ _ => ⟨lq_205, _, ly_205⟩) wv_OP_75 ⟨rfl, rfl, Nat.le_of_ble_eq_true rfl, Nat.le_of_ble_eq_true rfl⟩ ⟨Nat.zero_le _, Nat.zero_le _⟩ rfl rfl (Nat.le_of_ble_eq_true rfl) d_OP_pick_4 (fun r1 X1 => ?_)
  refine jr_istore_n (lf := [(0, .ref (G.1 205)), (1, .int p1)]) hz d_OP_pick_7 rfl (by decide) rfl (fun v5 => ?_)
  refine jr_iload_n hz d_OP_pick_8 rfl 0 rfl ?_
  refine jr_if_eq (tgt := 14) hz d_OP_pick_9 (by decide) ?_ ?_
  · refine jr_aload_n hz d_OP_pick_14 rfl 1 rfl ?_
    refine jr_getr (j := 0) (t := 10) hz lq_205 ly_205 rfl wf_OP_9 d_OP_pick_15 ?_
    refine jr_iconst (v := 0) hz d_OP_pick_18 (by decide) ?_
    refine jr_callVr (As := [.int 0]) (a := 10) (ci := 1) (st := []) hz (cx_IS_item l D G hz.2.2.2.2.2.2.1 10 0 X1) (fun z h => sp_is_v (xh_k_t h)) wv_OP_59 ⟨rfl, rfl, Nat.le_of_ble_eq_true rfl, Nat.le_of_ble_eq_true rfl⟩ ⟨Nat.zero_le _, Nat.zero_le _⟩ rfl rfl (Nat.le_of_ble_eq_true rfl) d_OP_pick_19 (fun q9 X2 => ?_)
    refine jr_callVl (As := []) (a := q9) (ci := 0) (st := []) hz (cx_BS_number l D G hz.2.2.2.2.2.2.1 q9 X2) (fun z h => sp_bs_v (xh_k_t h)) wv_OP_79 ⟨rfl, rfl, Nat.le_of_ble_eq_true rfl, Nat.le_of_ble_eq_true rfl⟩ ⟨Nat.zero_le _, Nat.zero_le _⟩ rfl rfl (Nat.le_of_ble_eq_true rfl) d_OP_pick_22 (fun r12 X3 => ?_)
    refine jr_l2i hz d_OP_pick_25 ?_
    refine jr_istore_n (lf := [(2, .int v5), (0, .ref (G.1 205)), (1, .int p1)]) hz d_OP_pick_26 rfl (by decide) rfl (fun v14 => ?_)
    refine jr_iload_n hz d_OP_pick_27 rfl 0 rfl ?_
    refine jr_aload_n hz d_OP_pick_28 rfl 2 rfl ?_
    refine jr_getr (j := 0) (t := 10) hz lq_205 ly_205 rfl wf_OP_9 d_OP_pick_29 ?_
    refine jr_callVi (As := []) (a := 10) (ci := 1) (st := [.int v14]) hz (cx_IS_size l D G hz.2.2.2.2.2.2.1 10 X3) (fun z h => sp_is_v (xh_k_t h)) wv_OP_83 ⟨rfl, rfl, Nat.le_of_ble_eq_true rfl, Nat.le_of_ble_eq_true rfl⟩ ⟨Nat.zero_le _, Nat.zero_le _⟩ rfl rfl (Nat.le_of_ble_eq_true rfl) d_OP_pick_32 (fun r15 X4 => ?_)
    refine jr_iconst (v := 1) hz d_OP_pick_35 (by decide) ?_
    refine jr_isub hz d_OP_pick_36 ?_
    refine jr_icmp_lt (tgt := 43) hz d_OP_pick_37 (by decide) ?_ ?_
    · refine jr_aload_n hz d_OP_pick_43 rfl 2 rfl ?_
      refine jr_getr (j := 0) (t := 10) hz lq_205 ly_205 rfl wf_OP_9 d_OP_pick_44 ?_
      refine jr_iconst (v := 1) hz d_OP_pick_47 (by decide) ?_
      refine jr_callVv (As := [.int 1]) (a := 10) (ci := 1) (st := []) hz (cx_IS_drop l D G hz.2.2.2.2.2.2.1 10 1 X4) (fun z h => sp_is_v (xh_k_t h)) wv_OP_69 ⟨rfl, rfl, Nat.le_of_ble_eq_true rfl, Nat.le_of_ble_eq_true rfl⟩ ⟨Nat.zero_le _, Nat.zero_le _⟩ rfl rfl (Nat.le_of_ble_eq_true rfl) d_OP_pick_48 (fun _ X5 => ?_)
      refine jr_iload_n hz d_OP_pick_51 rfl 3 rfl ?_
      refine jr_if_eq (tgt := 66) hz d_OP_pick_52 (by decide) ?_ ?_
      · refine jr_aload_n hz d_OP_pick_66 rfl 2 rfl ?_
        refine jr_getr (j := 0) (t := 10) hz lq_205 ly_205 rfl wf_OP_9 d_OP_pick_67 ?_
        refine jr_iload_n hz d_OP_pick_70 rfl 0 rfl ?_
        refine jr_callVv (As := [.int v14]) (a := 10) (ci := 1) (st := []) hz (cx_IS_pushCopy l D G hz.2.2.2.2.2.2.1 10 v14 X5) (fun z h => sp_is_v (xh_k_t h)) wv_OP_89 ⟨rfl, rfl, Nat.le_of_ble_eq_true rfl, Nat.le_of_ble_eq_true rfl⟩ ⟨Nat.zero_le _, Nat.zero_le _⟩ rfl rfl (Nat.le_of_ble_eq_true rfl) d_OP_pick_71 (fun _ X6 => ?_)
        refine jr_iconst (v := 0) hz d_OP_pick_74 (by decide) ?_
        exact jr_iret hz hr hlk d_OP_pick_75
      · refine jr_aload_n hz d_OP_pick_55 rfl 2 rfl ?_
        refine jr_getr (j := 0) (t := 10) hz lq_205 ly_205 rfl wf_OP_9 d_OP_pick_56 ?_
        refine jr_iload_n hz d_OP_pick_59 rfl 0 rfl ?_
        refine jr_callVv (As := [.int v14]) (a := 10) (ci := 1) (st := []) hz (cx_IS_raise l D G hz.2.2.2.2.2.2.1 10 v14 X5) (fun z h => sp_is_v (xh_k_t h)) wv_OP_86 ⟨rfl, rfl, Nat.le_of_ble_eq_true rfl, Nat.le_of_ble_eq_true rfl⟩ ⟨Nat.zero_le _, Nat.zero_le _⟩ rfl rfl (Nat.le_of_ble_eq_true rfl) d_OP_pick_60 (fun _ X7 => ?_)
        refine jr_goto (tgt := 74) hz d_OP_pick_63 (by decide) ?_
        refine jr_iconst (v := 0) hz d_OP_pick_74 (by decide) ?_
        exact jr_iret hz hr hlk d_OP_pick_75
    · refine jr_bipush (v := 11) hz d_OP_pick_40 (by decide) ?_
      exact jr_iret hz hr hlk d_OP_pick_42
  · refine jr_iload_n hz d_OP_pick_12 rfl 0 rfl ?_
    exact jr_iret hz hr hlk d_OP_pick_13
theorem d_OP_allSigned_0 : decode b_OP_allSigned 0 = .ok (.iconst 0, 1) := by decide +kernel
theorem d_OP_allSigned_1 : decode b_OP_allSigned 1 = .ok (.istore_n 3, 1) := by decide +kernel
theorem d_OP_allSigned_2 : decode b_OP_allSigned 2 = .ok (.iconst 1, 1) := by decide +kernel
theorem d_OP_allSigned_3 : decode b_OP_allSigned 3 = .ok (.istore 4, 2) := by decide +kernel
theorem d_OP_allSigned_5 : decode b_OP_allSigned 5 = .ok (.iload 4, 2) := by decide +kernel
theorem d_OP_allSigned_7 : decode b_OP_allSigned 7 = .ok (.iload_n 1, 1) := by decide +kernel
theorem d_OP_allSigned_8 : decode b_OP_allSigned 8 = .ok (.if_icmp .gt 48, 3) := by decide +kernel
theorem d_OP_allSigned_11 : decode b_OP_allSigned 11 = .ok (.iload_n 3, 1) := by decide +kernel
theorem d_OP_allSigned_12 : decode b_OP_allSigned 12 = .ok (.iload_n 2, 1) := by decide +kernel
theorem d_OP_allSigned_13 : decode b_OP_allSigned 13 = .ok (.if_icmp .ge 43, 3) := by decide +kernel
theorem d_OP_allSigned_16 : decode b_OP_allSigned 16 = .ok (.aload_n 0, 1) := by decide +kernel
theorem d_OP_allSigned_17 : decode b_OP_allSigned 17 = .ok (.getfield 18, 3) := by decide +kernel
theorem d_OP_allSigned_20 : decode b_OP_allSigned 20 = .ok (.aload_n 0, 1) := by decide +kernel
theorem d_OP_allSigned_21 : decode b_OP_allSigned 21 = .ok (.getfield 9, 3) := by decide +kernel
theorem d_OP_allSigned_24 : decode b_OP_allSigned 24 = .ok (.iload_n 1, 1) := by decide +kernel
theorem d_OP_allSigned_25 : decode b_OP_allSigned 25 = .ok (.iconst 2, 1) := by decide +kernel
theorem d_OP_allSigned_26 : decode b_OP_allSigned 26 = .ok (.iadd, 1) := by decide +kernel
theorem d_OP_allSigned_27 : decode b_OP_allSigned 27 = .ok (.iload_n 3, 1) := by decide +kernel
theorem d_OP_allSigned_28 : decode b_OP_allSigned 28 = .ok (.iadd, 1) := by decide +kernel
theorem d_OP_allSigned_29 : decode b_OP_allSigned 29 = .ok (.invokevirtual 59, 3) := by decide +kernel
theorem d_OP_allSigned_32 : decode b_OP_allSigned 32 = .ok (.aload_n 0, 1) := by decide +kernel
theorem d_OP_allSigned_33 : decode b_OP_allSigned 33 = .ok (.getfield 9, 3) := by decide +kernel
theorem d_OP_allSigned_36 : decode b_OP_allSigned 36 = .ok (.iload 4, 2) := by decide +kernel
theorem d_OP_allSigned_38 : decode b_OP_allSigned 38 = .ok (.invokevirtual 59, 3) := by decide +kernel
theorem d_OP_allSigned_41 : decode b_OP_allSigned 41 = .ok (.invokevirtual 107, 3) := by decide +kernel
theorem d_OP_allSigned_44 : decode b_OP_allSigned 44 = .ok (.ifCond .eq 6, 3) := by decide +kernel
theorem d_OP_allSigned_47 : decode b_OP_allSigned 47 = .ok (.iinc 3 1, 3) := by decide +kernel
theorem d_OP_allSigned_50 : decode b_OP_allSigned 50 = .ok (.iinc 4 1, 3) := by decide +kernel
theorem d_OP_allSigned_53 : decode b_OP_allSigned 53 = .ok (.goto (-48), 3) := by decide +kernel
theorem d_OP_allSigned_56 : decode b_OP_allSigned 56 = .ok (.iload_n 3, 1) := by decide +kernel
theorem d_OP_allSigned_57 : decode b_OP_allSigned 57 = .ok (.iload_n 2, 1) := by decide +kernel
theorem d_OP_allSigned_58 : decode b_OP_allSigned 58 = .ok (.if_icmp .ne 7, 3) := by decide +kernel
theorem d_OP_allSigned_61 : decode b_OP_allSigned 61 = .ok (.iconst 1, 1) := by decide +kernel
theorem d_OP_allSigned_62 : decode b_OP_allSigned 62 = .ok (.goto 4, 3) := by decide +kernel
theorem d_OP_allSigned_65 : decode b_OP_allSigned 65 = .ok (.iconst 0, 1) := by decide +kernel
theorem d_OP_allSigned_66 : decode b_OP_allSigned 66 = .ok (.ireturn, 1) := by decide +kernel
theorem wf_OP_18 : xh_F "SpendScript$Operations" 18 5 2 := ⟨R_OP, F_OP, 3, rfl, by decide, iw_OP, (sp_tb (List.mem_of_getElem? (i := 98) (by decide +kernel)))⟩
theorem wv_OP_107 : xh_V "SpendScript$Operations" 107 2 y_ST_isValid b_ST_isValid 6 (some .boolean) 2 := ⟨(sp_tb (List.mem_of_getElem? (i := 420) (by decide +kernel))), (sp_tb (List.mem_of_getElem? (i := 3) (by decide +kernel))), (sp_tb (List.mem_of_getElem? (i := 417) (by decide +kernel))), ⟨by decide +kernel, by decide +kernel, by decide +kernel⟩, (sp_tb (List.mem_of_getElem? (i := 418) (by decide +kernel))), (sp_tb (List.mem_of_getElem? (i := 419) (by decide +kernel))), F_ST, 3, rfl⟩
abbrev rm_OP_allSigned : Room := { frames := 2, cells := 0, slots := 0, locals := 49 }
def fx_OP_allSigned_b56 (a2 : Int32) (a3 : Int32) (X : xh_T) : Option (Int32 × xh_T) :=
  if a3 = a2 then
  some (1, X)
  else some (0, X)
set_option maxRecDepth 100000 in
set_option maxHeartbeats 4000000 in
theorem jb_OP_allSigned_b56 {p : Program} {l : Launch} {e : Env} {s : State} {m : MethodId} {args : Array Value} {below : List Frame} {meth : Method} {c : Code} {D : va_G} {G : xh_G} (hz : xh_C p s m args c b_OP_allSigned 5 "SpendScript$Operations" D G (xh_A G s.heap.size)) (hr : meth.sig.returnType = (some .boolean)) (hlk : meth.locks = false) (a2 : Int32) (a3 : Int32) (X : xh_T) : xh_J p l e rm_OP_allSigned s m args below meth c 0 0 D G (xh_A G s.heap.size) 5 (fun r X' => MQ below (xh_Qi D G (xh_A G s.heap.size) r X') args s 0 0 (xh_A G s.heap.size)) 56 [(2, .int a2), (3, .int a3)] [] X (fx_OP_allSigned_b56 a2 a3 X) := by
  unfold fx_OP_allSigned_b56
  refine jr_iload_n hz d_OP_allSigned_56 rfl 1 rfl ?_
  refine jr_iload_n hz d_OP_allSigned_57 rfl 0 rfl ?_
  refine jr_icmp_ne (tgt := 65) hz d_OP_allSigned_58 (by decide) ?_ ?_
  · refine jr_iconst (v := 0) hz d_OP_allSigned_65 (by decide) ?_
    exact jr_zret hz hr hlk (by decide) d_OP_allSigned_66
  · refine jr_iconst (v := 1) hz d_OP_allSigned_61 (by decide) ?_
    refine jr_goto (tgt := 66) hz d_OP_allSigned_62 (by decide) ?_
    exact jr_zret hz hr hlk (by decide) d_OP_allSigned_66
def fx_OP_allSigned_b5 : Nat → Int32 → Int32 → Int32 → Int32 → xh_T → Option (Int32 × xh_T)
  | 0, _, _, _, _, _ => none
  | n + 1, a1, a2, a3, a4, X => if a1 < a4 then
  fx_OP_allSigned_b56 a2 a3 X
  else if a2 ≤ a3 then
  fx_OP_allSigned_b56 a2 a3 X
  else xh_b (fx_IS_item 10 ((a1 + 2) + a3) X) (fun (q6 : Nat) (X1 : xh_T) =>
  xh_b (fx_IS_item 10 a4 X1) (fun (q10 : Nat) (X2 : xh_T) =>
  xh_b (fx_ST_isValid q6 q10 X2) (fun (r12 : Int32) (X3 : xh_T) =>
  if r12 = 0 then
  xh_n (a4 + 1) (fun v15 : Int32 =>
  fx_OP_allSigned_b5 n a1 a2 a3 v15 X3)
  else xh_n (a3 + 1) (fun v16 : Int32 =>
  xh_n (a4 + 1) (fun v17 : Int32 =>
  fx_OP_allSigned_b5 n a1 a2 v16 v17 X3)))))
set_option maxRecDepth 100000 in
set_option maxHeartbeats 4000000 in
theorem jb_OP_allSigned_b5 {p : Program} {l : Launch} {e : Env} {s : State} {m : MethodId} {args : Array Value} {below : List Frame} {meth : Method} {c : Code} {D : va_G} {G : xh_G} (hz : xh_C p s m args c b_OP_allSigned 5 "SpendScript$Operations" D G (xh_A G s.heap.size)) (hr : meth.sig.returnType = (some .boolean)) (hlk : meth.locks = false) : ∀ (n : Nat) (a1 : Int32) (a2 : Int32) (a3 : Int32) (a4 : Int32) (X : xh_T), xh_J p l e rm_OP_allSigned s m args below meth c 0 0 D G (xh_A G s.heap.size) 5 (fun r X' => MQ below (xh_Qi D G (xh_A G s.heap.size) r X') args s 0 0 (xh_A G s.heap.size)) 5 [(0, .ref (G.1 205)), (1, .int a1), (2, .int a2), (3, .int a3), (4, .int a4)] [] X (fx_OP_allSigned_b5 n a1 a2 a3 a4 X) := by
  intro n
  induction n with
  | zero => intro a1 a2 a3 a4 X; exact jr_none
  | succ n ih =>
    intro a1 a2 a3 a4 X
    rw [fx_OP_allSigned_b5]
    refine jr_iload hz d_OP_allSigned_5 4 rfl ?_
    refine jr_iload_n hz d_OP_allSigned_7 rfl 1 rfl ?_
    refine jr_icmp_gt (tgt := 56) hz d_OP_allSigned_8 (by decide) ?_ ?_
    · refine jr_sub (ls' := [(2, .int a2), (3, .int a3)]) [2, 3] rfl ?_
      exact jb_OP_allSigned_b56 hz hr hlk a2 a3 X
    · refine jr_iload_n hz d_OP_allSigned_11 rfl 3 rfl ?_
      refine jr_iload_n hz d_OP_allSigned_12 rfl 2 rfl ?_
      refine jr_icmp_ge (tgt := 56) hz d_OP_allSigned_13 (by decide) ?_ ?_
      · refine jr_sub (ls' := [(2, .int a2), (3, .int a3)]) [2, 3] rfl ?_
        exact jb_OP_allSigned_b56 hz hr hlk a2 a3 X
      · refine jr_aload_n hz d_OP_allSigned_16 rfl 0 rfl ?_
        refine jr_getr (j := 2) (t := 7) hz lq_205 ly_205 rfl wf_OP_18 d_OP_allSigned_17 ?_
        refine jr_aload_n hz d_OP_allSigned_20 rfl 0 rfl ?_
        refine jr_getr (j := 0) (t := 10) hz lq_205 ly_205 rfl wf_OP_9 d_OP_allSigned_21 ?_
        refine jr_iload_n hz d_OP_allSigned_24 rfl 1 rfl ?_
        refine jr_iconst (v := 2) hz d_OP_allSigned_25 (by decide) ?_
        refine jr_iadd hz d_OP_allSigned_26 ?_
        refine jr_iload_n hz d_OP_allSigned_27 rfl 3 rfl ?_
        refine jr_iadd hz d_OP_allSigned_28 ?_
        refine jr_callVr (As := [.int ((a1 + 2) + a3)]) (a := 10) (ci := 1) (st := [.ref (G.1 7)]) hz (cx_IS_item l D G hz.2.2.2.2.2.2.1 10 ((a1 + 2) + a3) X) (fun z h => sp_is_v (xh_k_t h)) wv_OP_59 ⟨rfl, rfl, Nat.le_of_ble_eq_true rfl, Nat.le_of_ble_eq_true rfl⟩ ⟨Nat.zero_le _, Nat.zero_le _⟩ rfl rfl (Nat.le_of_ble_eq_true rfl) d_OP_allSigned_29 (fun q6 X1 => ?_)
        refine jr_aload_n hz d_OP_allSigned_32 rfl 0 rfl ?_
        refine jr_getr (j := 0) (t := 10) hz lq_205 ly_205 rfl wf_OP_9 d_OP_allSigned_33 ?_
        refine jr_iload hz d_OP_allSigned_36 4 rfl ?_
        refine jr_callVr (As := [.int a4]) (a := 10) (ci := 1) (st := [.ref (G.1 q6), .ref (G.1 7)]) hz (cx_IS_item l D G hz.2.2.2.2.2.2.1 10 a4 X1) (fun z h => sp_is_v (xh_k_t h)) wv_OP_59 ⟨rfl, rfl, Nat.le_of_ble_eq_true rfl, Nat.le_of_ble_eq_true rfl⟩ ⟨Nat.zero_le _, Nat.zero_le _⟩ rfl rfl (Nat.le_of_ble_eq_true rfl) d_OP_allSigned_38 (fun q10 X2 => ?_)
        refine jr_callVi (As := [.ref (G.1 q6), .ref (G.1 q10)]) (a := 7) (ci := 2) (st := []) hz (cx_ST_isValid l D G hz.2.2.2.2.2.2.1 q6 q10 X2) (fun _ _ => ⟨lq_7, _, ly_7⟩) wv_OP_107 ⟨rfl, rfl, Nat.le_of_ble_eq_true rfl, Nat.le_of_ble_eq_true rfl⟩ ⟨Nat.zero_le _, Nat.zero_le _⟩ rfl rfl (Nat.le_of_ble_eq_true rfl) d_OP_allSigned_41 (fun r12 X3 => ?_)
        refine jr_if_eq (tgt := 50) hz d_OP_allSigned_44 (by decide) ?_ ?_
        · refine jr_iinc (lf := [(0, .ref (G.1 205)), (1, .int a1), (2, .int a2), (3, .int a3)]) (w := 1) hz d_OP_allSigned_50 4 rfl (by decide) (by decide) rfl (fun v15 => ?_)
          refine jr_goto (tgt := 5) hz d_OP_allSigned_53 (by decide) ?_
          refine jr_sub (ls' := [(0, .ref (G.1 205)), (1, .int a1), (2, .int a2), (3, .int a3), (4, .int v15)]) [1, 2, 3, 4, 0] rfl ?_
          exact ih a1 a2 a3 v15 X3
        · refine jr_iinc (lf := [(0, .ref (G.1 205)), (1, .int a1), (2, .int a2), (4, .int a4)]) (w := 1) hz d_OP_allSigned_47 3 rfl (by decide) (by decide) rfl (fun v16 => ?_)
          refine jr_iinc (lf := [(3, .int v16), (0, .ref (G.1 205)), (1, .int a1), (2, .int a2)]) (w := 1) hz d_OP_allSigned_50 4 rfl (by decide) (by decide) rfl (fun v17 => ?_)
          refine jr_goto (tgt := 5) hz d_OP_allSigned_53 (by decide) ?_
          refine jr_sub (ls' := [(0, .ref (G.1 205)), (1, .int a1), (2, .int a2), (3, .int v16), (4, .int v17)]) [2, 3, 4, 1, 0] rfl ?_
          exact ih a1 a2 v16 v17 X3
def fx_OP_allSigned (p1 : Int32) (p2 : Int32) (X : xh_T) : Option (Int32 × xh_T) :=
  xh_n 0 (fun v1 : Int32 =>
  xh_n 1 (fun v2 : Int32 =>
  fx_OP_allSigned_b5 sp_fuel p1 p2 v1 v2 X))
set_option maxRecDepth 100000 in
set_option maxHeartbeats 4000000 in
theorem cx_OP_allSigned (l : Launch) (D : va_G) (G : xh_G) (hD : xh_D G) (p1 : Int32) (p2 : Int32) (X : xh_T) : xh_M xh_Qi l D G y_OP_allSigned b_OP_allSigned 5 (some .boolean) rm_OP_allSigned [.ref (G.1 205), .int p1, .int p2] X (fx_OP_allSigned p1 p2 X) := by
  refine xh_enter (ls := [(0, .ref (G.1 205)), (1, .int p1), (2, .int p2)]) hD (by decide +kernel) (Nat.le_of_ble_eq_true rfl) rfl ?_
  intro p e s m args below meth c hz hr hlk
  unfold fx_OP_allSigned
  refine jr_iconst (v := 0) hz d_OP_allSigned_0 (by decide) ?_
  refine jr_istore_n (lf := [(0, .ref (G.1 205)), (1, .int p1), (2, .int p2)]) hz d_OP_allSigned_1 rfl (by decide) rfl (fun v1 => ?_)
  refine jr_iconst (v := 1) hz d_OP_allSigned_2 (by decide) ?_
  refine jr_istore (lf := [(3, .int v1), (0, .ref (G.1 205)), (1, .int p1), (2, .int p2)]) hz d_OP_allSigned_3 (by decide) rfl (fun v2 => ?_)
  refine jr_sub (ls' := [(0, .ref (G.1 205)), (1, .int p1), (2, .int p2), (3, .int v1), (4, .int v2)]) [2, 3, 4, 1, 0] rfl ?_
  exact jb_OP_allSigned_b5 hz hr hlk sp_fuel p1 p2 v1 v2 X

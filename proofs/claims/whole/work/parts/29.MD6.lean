/-! printed by wip/whole/gen_walks.py -/
theorem d_MD_operate_0 : decode b_MD_operate 0 = .ok (.iload_n 1, 1) := by decide +kernel
theorem d_MD_operate_1 : decode b_MD_operate 1 = .ok (.ifCond .ne 6, 3) := by decide +kernel
theorem d_MD_operate_4 : decode b_MD_operate 4 = .ok (.bipush 15, 2) := by decide +kernel
theorem d_MD_operate_6 : decode b_MD_operate 6 = .ok (.ireturn, 1) := by decide +kernel
theorem d_MD_operate_7 : decode b_MD_operate 7 = .ok (.iload_n 2, 1) := by decide +kernel
theorem d_MD_operate_8 : decode b_MD_operate 8 = .ok (.invokestatic 119, 3) := by decide +kernel
theorem d_MD_operate_11 : decode b_MD_operate 11 = .ok (.ifCond .ne 5, 3) := by decide +kernel
theorem d_MD_operate_14 : decode b_MD_operate 14 = .ok (.iconst 2, 1) := by decide +kernel
theorem d_MD_operate_15 : decode b_MD_operate 15 = .ok (.ireturn, 1) := by decide +kernel
theorem d_MD_operate_16 : decode b_MD_operate 16 = .ok (.aload_n 0, 1) := by decide +kernel
theorem d_MD_operate_17 : decode b_MD_operate 17 = .ok (.getfield 93, 3) := by decide +kernel
theorem d_MD_operate_20 : decode b_MD_operate 20 = .ok (.bipush 25, 2) := by decide +kernel
theorem d_MD_operate_22 : decode b_MD_operate 22 = .ok (.if_icmp .ne 6, 3) := by decide +kernel
theorem d_MD_operate_25 : decode b_MD_operate 25 = .ok (.bipush 6, 2) := by decide +kernel
theorem d_MD_operate_27 : decode b_MD_operate 27 = .ok (.ireturn, 1) := by decide +kernel
theorem d_MD_operate_28 : decode b_MD_operate 28 = .ok (.aload_n 0, 1) := by decide +kernel
theorem d_MD_operate_29 : decode b_MD_operate 29 = .ok (.aload_n 0, 1) := by decide +kernel
theorem d_MD_operate_30 : decode b_MD_operate 30 = .ok (.getfield 93, 3) := by decide +kernel
theorem d_MD_operate_33 : decode b_MD_operate 33 = .ok (.iconst 1, 1) := by decide +kernel
theorem d_MD_operate_34 : decode b_MD_operate 34 = .ok (.iadd, 1) := by decide +kernel
theorem d_MD_operate_35 : decode b_MD_operate 35 = .ok (.putfield 93, 3) := by decide +kernel
theorem d_MD_operate_38 : decode b_MD_operate 38 = .ok (.aload_n 0, 1) := by decide +kernel
theorem d_MD_operate_39 : decode b_MD_operate 39 = .ok (.invokevirtual 105, 3) := by decide +kernel
theorem d_MD_operate_42 : decode b_MD_operate 42 = .ok (.istore_n 3, 1) := by decide +kernel
theorem d_MD_operate_43 : decode b_MD_operate 43 = .ok (.iconst 0, 1) := by decide +kernel
theorem d_MD_operate_44 : decode b_MD_operate 44 = .ok (.istore 4, 2) := by decide +kernel
theorem d_MD_operate_46 : decode b_MD_operate 46 = .ok (.iload_n 2, 1) := by decide +kernel
theorem d_MD_operate_47 : decode b_MD_operate 47 = .ok (.bipush 99, 2) := by decide +kernel
theorem d_MD_operate_49 : decode b_MD_operate 49 = .ok (.if_icmp .eq 9, 3) := by decide +kernel
theorem d_MD_operate_52 : decode b_MD_operate 52 = .ok (.iload_n 2, 1) := by decide +kernel
theorem d_MD_operate_53 : decode b_MD_operate 53 = .ok (.bipush 100, 2) := by decide +kernel
theorem d_MD_operate_55 : decode b_MD_operate 55 = .ok (.if_icmp .ne 14, 3) := by decide +kernel
theorem d_MD_operate_58 : decode b_MD_operate 58 = .ok (.aload_n 0, 1) := by decide +kernel
theorem d_MD_operate_59 : decode b_MD_operate 59 = .ok (.iload_n 2, 1) := by decide +kernel
theorem d_MD_operate_60 : decode b_MD_operate 60 = .ok (.iload_n 3, 1) := by decide +kernel
theorem d_MD_operate_61 : decode b_MD_operate 61 = .ok (.invokevirtual 122, 3) := by decide +kernel
theorem d_MD_operate_64 : decode b_MD_operate 64 = .ok (.istore 4, 2) := by decide +kernel
theorem d_MD_operate_66 : decode b_MD_operate 66 = .ok (.goto 127, 3) := by decide +kernel
theorem d_MD_operate_69 : decode b_MD_operate 69 = .ok (.iload_n 2, 1) := by decide +kernel
theorem d_MD_operate_70 : decode b_MD_operate 70 = .ok (.bipush 103, 2) := by decide +kernel
theorem d_MD_operate_72 : decode b_MD_operate 72 = .ok (.if_icmp .eq 9, 3) := by decide +kernel
theorem d_MD_operate_75 : decode b_MD_operate 75 = .ok (.iload_n 2, 1) := by decide +kernel
theorem d_MD_operate_76 : decode b_MD_operate 76 = .ok (.bipush 104, 2) := by decide +kernel
theorem d_MD_operate_78 : decode b_MD_operate 78 = .ok (.if_icmp .ne 65, 3) := by decide +kernel
theorem d_MD_operate_81 : decode b_MD_operate 81 = .ok (.aload_n 0, 1) := by decide +kernel
theorem d_MD_operate_82 : decode b_MD_operate 82 = .ok (.getfield 90, 3) := by decide +kernel
theorem d_MD_operate_85 : decode b_MD_operate 85 = .ok (.ifCond .ne 6, 3) := by decide +kernel
theorem d_MD_operate_88 : decode b_MD_operate 88 = .ok (.bipush 7, 2) := by decide +kernel
theorem d_MD_operate_90 : decode b_MD_operate 90 = .ok (.ireturn, 1) := by decide +kernel
theorem d_MD_operate_91 : decode b_MD_operate 91 = .ok (.iload_n 2, 1) := by decide +kernel
theorem d_MD_operate_92 : decode b_MD_operate 92 = .ok (.bipush 103, 2) := by decide +kernel
theorem d_MD_operate_94 : decode b_MD_operate 94 = .ok (.if_icmp .ne 36, 3) := by decide +kernel
theorem d_MD_operate_97 : decode b_MD_operate 97 = .ok (.aload_n 0, 1) := by decide +kernel
theorem d_MD_operate_98 : decode b_MD_operate 98 = .ok (.getfield 25, 3) := by decide +kernel
theorem d_MD_operate_101 : decode b_MD_operate 101 = .ok (.aload_n 0, 1) := by decide +kernel
theorem d_MD_operate_102 : decode b_MD_operate 102 = .ok (.getfield 90, 3) := by decide +kernel
theorem d_MD_operate_105 : decode b_MD_operate 105 = .ok (.iconst 1, 1) := by decide +kernel
theorem d_MD_operate_106 : decode b_MD_operate 106 = .ok (.isub, 1) := by decide +kernel
theorem d_MD_operate_107 : decode b_MD_operate 107 = .ok (.aload_n 0, 1) := by decide +kernel
theorem d_MD_operate_108 : decode b_MD_operate 108 = .ok (.getfield 25, 3) := by decide +kernel
theorem d_MD_operate_111 : decode b_MD_operate 111 = .ok (.aload_n 0, 1) := by decide +kernel
theorem d_MD_operate_112 : decode b_MD_operate 112 = .ok (.getfield 90, 3) := by decide +kernel
theorem d_MD_operate_115 : decode b_MD_operate 115 = .ok (.iconst 1, 1) := by decide +kernel
theorem d_MD_operate_116 : decode b_MD_operate 116 = .ok (.isub, 1) := by decide +kernel
theorem d_MD_operate_117 : decode b_MD_operate 117 = .ok (.baload, 1) := by decide +kernel
theorem d_MD_operate_118 : decode b_MD_operate 118 = .ok (.ifCond .ne 7, 3) := by decide +kernel
theorem d_MD_operate_121 : decode b_MD_operate 121 = .ok (.iconst 1, 1) := by decide +kernel
theorem d_MD_operate_122 : decode b_MD_operate 122 = .ok (.goto 4, 3) := by decide +kernel
theorem d_MD_operate_125 : decode b_MD_operate 125 = .ok (.iconst 0, 1) := by decide +kernel
theorem d_MD_operate_126 : decode b_MD_operate 126 = .ok (.bastore, 1) := by decide +kernel
theorem d_MD_operate_127 : decode b_MD_operate 127 = .ok (.goto 66, 3) := by decide +kernel
theorem d_MD_operate_130 : decode b_MD_operate 130 = .ok (.aload_n 0, 1) := by decide +kernel
theorem d_MD_operate_131 : decode b_MD_operate 131 = .ok (.aload_n 0, 1) := by decide +kernel
theorem d_MD_operate_132 : decode b_MD_operate 132 = .ok (.getfield 90, 3) := by decide +kernel
theorem d_MD_operate_135 : decode b_MD_operate 135 = .ok (.iconst 1, 1) := by decide +kernel
theorem d_MD_operate_136 : decode b_MD_operate 136 = .ok (.isub, 1) := by decide +kernel
theorem d_MD_operate_137 : decode b_MD_operate 137 = .ok (.putfield 90, 3) := by decide +kernel
theorem d_MD_operate_140 : decode b_MD_operate 140 = .ok (.goto 53, 3) := by decide +kernel
theorem d_MD_operate_143 : decode b_MD_operate 143 = .ok (.iload_n 3, 1) := by decide +kernel
theorem d_MD_operate_144 : decode b_MD_operate 144 = .ok (.ifCond .ne 5, 3) := by decide +kernel
theorem d_MD_operate_147 : decode b_MD_operate 147 = .ok (.iconst 0, 1) := by decide +kernel
theorem d_MD_operate_148 : decode b_MD_operate 148 = .ok (.ireturn, 1) := by decide +kernel
theorem d_MD_operate_149 : decode b_MD_operate 149 = .ok (.iload_n 2, 1) := by decide +kernel
theorem d_MD_operate_150 : decode b_MD_operate 150 = .ok (.sipush 139, 3) := by decide +kernel
theorem d_MD_operate_153 : decode b_MD_operate 153 = .ok (.if_icmp .lt 18, 3) := by decide +kernel
theorem d_MD_operate_156 : decode b_MD_operate 156 = .ok (.iload_n 2, 1) := by decide +kernel
theorem d_MD_operate_157 : decode b_MD_operate 157 = .ok (.sipush 165, 3) := by decide +kernel
theorem d_MD_operate_160 : decode b_MD_operate 160 = .ok (.if_icmp .gt 11, 3) := by decide +kernel
theorem d_MD_operate_163 : decode b_MD_operate 163 = .ok (.aload_n 0, 1) := by decide +kernel
theorem d_MD_operate_164 : decode b_MD_operate 164 = .ok (.iload_n 2, 1) := by decide +kernel
theorem d_MD_operate_165 : decode b_MD_operate 165 = .ok (.invokevirtual 126, 3) := by decide +kernel
theorem d_MD_operate_168 : decode b_MD_operate 168 = .ok (.goto 23, 3) := by decide +kernel
theorem d_MD_operate_171 : decode b_MD_operate 171 = .ok (.iload_n 2, 1) := by decide +kernel
theorem d_MD_operate_172 : decode b_MD_operate 172 = .ok (.sipush 130, 3) := by decide +kernel
theorem d_MD_operate_175 : decode b_MD_operate 175 = .ok (.if_icmp .lt 11, 3) := by decide +kernel
theorem d_MD_operate_178 : decode b_MD_operate 178 = .ok (.aload_n 0, 1) := by decide +kernel
theorem d_MD_operate_179 : decode b_MD_operate 179 = .ok (.iload_n 2, 1) := by decide +kernel
theorem d_MD_operate_180 : decode b_MD_operate 180 = .ok (.invokevirtual 129, 3) := by decide +kernel
theorem d_MD_operate_183 : decode b_MD_operate 183 = .ok (.goto 8, 3) := by decide +kernel
theorem d_MD_operate_186 : decode b_MD_operate 186 = .ok (.aload_n 0, 1) := by decide +kernel
theorem d_MD_operate_187 : decode b_MD_operate 187 = .ok (.iload_n 2, 1) := by decide +kernel
theorem d_MD_operate_188 : decode b_MD_operate 188 = .ok (.invokevirtual 132, 3) := by decide +kernel
theorem d_MD_operate_191 : decode b_MD_operate 191 = .ok (.istore 4, 2) := by decide +kernel
theorem d_MD_operate_193 : decode b_MD_operate 193 = .ok (.iload 4, 2) := by decide +kernel
theorem d_MD_operate_195 : decode b_MD_operate 195 = .ok (.ifCond .ne 13, 3) := by decide +kernel
theorem d_MD_operate_198 : decode b_MD_operate 198 = .ok (.aload_n 0, 1) := by decide +kernel
theorem d_MD_operate_199 : decode b_MD_operate 199 = .ok (.aload_n 0, 1) := by decide +kernel
theorem d_MD_operate_200 : decode b_MD_operate 200 = .ok (.getfield 116, 3) := by decide +kernel
theorem d_MD_operate_203 : decode b_MD_operate 203 = .ok (.iconst 1, 1) := by decide +kernel
theorem d_MD_operate_204 : decode b_MD_operate 204 = .ok (.iadd, 1) := by decide +kernel
theorem d_MD_operate_205 : decode b_MD_operate 205 = .ok (.putfield 116, 3) := by decide +kernel
theorem d_MD_operate_208 : decode b_MD_operate 208 = .ok (.iload 4, 2) := by decide +kernel
theorem d_MD_operate_210 : decode b_MD_operate 210 = .ok (.ireturn, 1) := by decide +kernel
theorem ws_MD_119 : xh_S "SpendScriptModel" 119 y_MD_known b_MD_known 1 (some .boolean) 1 := ⟨(sp_tb (List.mem_of_getElem? (i := 650) (by decide +kernel))), (sp_tb (List.mem_of_getElem? (i := 8) (by decide +kernel))), (sp_tb (List.mem_of_getElem? (i := 648) (by decide +kernel))), ⟨by decide +kernel, by decide +kernel, by decide +kernel⟩, (sp_tb (List.mem_of_getElem? (i := 649) (by decide +kernel)))⟩
theorem wf_MD_93 : xh_F "SpendScriptModel" 93 7 9 := ⟨R_MD, F_MD, 19, rfl, by decide, iw_MD, (sp_tb (List.mem_of_getElem? (i := 546) (by decide +kernel)))⟩
theorem wp_MD_93 : xh_Fp "SpendScriptModel" 93 7 9 := ⟨R_MD, F_MD, 19, t_MD, rfl, by decide, iw_MD, (sp_tb (List.mem_of_getElem? (i := 546) (by decide +kernel))), tk_MD, nk_MD, rfl, rfl⟩
theorem wv_MD_126 : xh_V "SpendScriptModel" 126 7 y_MD_calculate b_MD_calculate 7 (some .int) 1 := ⟨(sp_tb (List.mem_of_getElem? (i := 678) (by decide +kernel))), (sp_tb (List.mem_of_getElem? (i := 8) (by decide +kernel))), (sp_tb (List.mem_of_getElem? (i := 675) (by decide +kernel))), ⟨by decide +kernel, by decide +kernel, by decide +kernel⟩, (sp_tb (List.mem_of_getElem? (i := 677) (by decide +kernel))), (sp_pv (q := (y_MD_calculate, 19)) (List.mem_of_getElem? (i := 35) (by decide +kernel))), F_MD, 19, rfl⟩
theorem wv_MD_122 : xh_V "SpendScriptModel" 122 7 y_MD_branch b_MD_branch 4 (some .int) 2 := ⟨(sp_tb (List.mem_of_getElem? (i := 654) (by decide +kernel))), (sp_tb (List.mem_of_getElem? (i := 8) (by decide +kernel))), (sp_tb (List.mem_of_getElem? (i := 651) (by decide +kernel))), ⟨by decide +kernel, by decide +kernel, by decide +kernel⟩, (sp_tb (List.mem_of_getElem? (i := 653) (by decide +kernel))), (sp_pv (q := (y_MD_branch, 19)) (List.mem_of_getElem? (i := 29) (by decide +kernel))), F_MD, 19, rfl⟩
theorem wv_MD_132 : xh_V "SpendScriptModel" 132 7 y_MD_move b_MD_move 3 (some .int) 1 := ⟨(sp_tb (List.mem_of_getElem? (i := 719) (by decide +kernel))), (sp_tb (List.mem_of_getElem? (i := 8) (by decide +kernel))), (sp_tb (List.mem_of_getElem? (i := 716) (by decide +kernel))), ⟨by decide +kernel, by decide +kernel, by decide +kernel⟩, (sp_tb (List.mem_of_getElem? (i := 718) (by decide +kernel))), (sp_pv (q := (y_MD_move, 19)) (List.mem_of_getElem? (i := 44) (by decide +kernel))), F_MD, 19, rfl⟩
theorem wv_MD_129 : xh_V "SpendScriptModel" 129 7 y_MD_compare b_MD_compare 6 (some .int) 1 := ⟨(sp_tb (List.mem_of_getElem? (i := 694) (by decide +kernel))), (sp_tb (List.mem_of_getElem? (i := 8) (by decide +kernel))), (sp_tb (List.mem_of_getElem? (i := 691) (by decide +kernel))), ⟨by decide +kernel, by decide +kernel, by decide +kernel⟩, (sp_tb (List.mem_of_getElem? (i := 693) (by decide +kernel))), (sp_pv (q := (y_MD_compare, 19)) (List.mem_of_getElem? (i := 38) (by decide +kernel))), F_MD, 19, rfl⟩
abbrev rm_MD_operate : Room := { frames := 6, cells := 0, slots := 0, locals := 141 }
def fx_MD_operate_b193 (a4 : Int32) (X : xh_T) : Option (Int32 × xh_T) :=
  if a4 = 0 then
  xh_n (xh_i X 206 17 (X.1 206 17 + 1)) (fun X9 : xh_T =>
  some (a4, X9))
  else some (a4, X)
set_option maxRecDepth 100000 in
set_option maxHeartbeats 4000000 in
theorem jb_MD_operate_b193 {p : Program} {l : Launch} {e : Env} {s : State} {m : MethodId} {args : Array Value} {below : List Frame} {meth : Method} {c : Code} {D : va_G} {G : xh_G} (hz : xh_C p s m args c b_MD_operate 5 "SpendScriptModel" D G (xh_A G s.heap.size)) (hr : meth.sig.returnType = (some .int)) (hlk : meth.locks = false) (a4 : Int32) (X : xh_T) : xh_J p l e rm_MD_operate s m args below meth c 0 0 D G (xh_A G s.heap.size) 5 (fun r X' => MQ below (xh_Qi D G (xh_A G s.heap.size) r X') args s 0 0 (xh_A G s.heap.size)) 193 [(0, .ref (G.1 206)), (4, .int a4)] [] X (fx_MD_operate_b193 a4 X) := by
  unfold fx_MD_operate_b193
  refine jr_iload hz d_MD_operate_193 1 rfl ?_
  refine jr_if_ne (tgt := 208) hz d_MD_operate_195 (by decide) ?_ ?_
  · refine jr_iload hz d_MD_operate_208 1 rfl ?_
    exact jr_iret hz hr hlk d_MD_operate_210
  · refine jr_aload_n hz d_MD_operate_198 rfl 0 rfl ?_
    refine jr_aload_n hz d_MD_operate_199 rfl 0 rfl ?_
    refine jr_geti (j := 17) hz lq_206 ly_206 rfl wf_MD_116 d_MD_operate_200 ?_
    refine jr_iconst (v := 1) hz d_MD_operate_203 (by decide) ?_
    refine jr_iadd hz d_MD_operate_204 ?_
    refine jr_puti hz lq_206 ly_206 rfl wp_MD_116 d_MD_operate_205 (fun X9 => ?_)
    refine jr_iload hz d_MD_operate_208 1 rfl ?_
    exact jr_iret hz hr hlk d_MD_operate_210
def fx_MD_operate_b58 (a2 : Int32) (a3 : Int32) (X : xh_T) : Option (Int32 × xh_T) :=
  xh_b (fx_MD_branch a2 a3 X) (fun (r15 : Int32) (X5 : xh_T) =>
  xh_n r15 (fun v19 : Int32 =>
  fx_MD_operate_b193 v19 X5))
set_option maxRecDepth 100000 in
set_option maxHeartbeats 4000000 in
theorem jb_MD_operate_b58 {p : Program} {l : Launch} {e : Env} {s : State} {m : MethodId} {args : Array Value} {below : List Frame} {meth : Method} {c : Code} {D : va_G} {G : xh_G} (hz : xh_C p s m args c b_MD_operate 5 "SpendScriptModel" D G (xh_A G s.heap.size)) (hr : meth.sig.returnType = (some .int)) (hlk : meth.locks = false) (a2 : Int32) (a3 : Int32) (X : xh_T) : xh_J p l e rm_MD_operate s m args below meth c 0 0 D G (xh_A G s.heap.size) 5 (fun r X' => MQ below (xh_Qi D G (xh_A G s.heap.size) r X') args s 0 0 (xh_A G s.heap.size)) 58 [(0, .ref (G.1 206)), (2, .int a2), (3, .int a3)] [] X (fx_MD_operate_b58 a2 a3 X) := by
  unfold fx_MD_operate_b58
  refine jr_aload_n hz d_MD_operate_58 rfl 0 rfl ?_
  refine jr_iload_n hz d_MD_operate_59 rfl 1 rfl ?_
  refine jr_iload_n hz d_MD_operate_60 rfl 2 rfl ?_
  refine jr_callVi (As := [.int a2, .int a3]) (a := 206) (ci := 7) (st := []) hz (cx_MD_branch l D G hz.2.2.2.2.2.2.1 a2 a3 X) (fun _ _ => ⟨lq_206, _, ly_206⟩) wv_MD_122 ⟨rfl, rfl, Nat.le_of_ble_eq_true rfl, Nat.le_of_ble_eq_true rfl⟩ ⟨Nat.zero_le _, Nat.zero_le _⟩ rfl rfl (Nat.le_of_ble_eq_true rfl) d_MD_operate_61 (fun r15 X5 => ?_)
  refine jr_istore (lf := [(0, .ref (G.1 206)), (2, .int a2), (3, .int a3)]) hz d_MD_operate_64 (by decide) rfl (fun v19 => ?_)
  refine jr_goto (tgt := 193) hz d_MD_operate_66 (by decide) ?_
  refine jr_sub (ls' := [(0, .ref (G.1 206)), (4, .int v19)]) [1, 0] rfl ?_
  exact jb_MD_operate_b193 hz hr hlk v19 X5
def fx_MD_operate_b191 (s0 : Int32) (X : xh_T) : Option (Int32 × xh_T) :=
  xh_n s0 (fun v28 : Int32 =>
  fx_MD_operate_b193 v28 X)
set_option maxRecDepth 100000 in
set_option maxHeartbeats 4000000 in
theorem jb_MD_operate_b191 {p : Program} {l : Launch} {e : Env} {s : State} {m : MethodId} {args : Array Value} {below : List Frame} {meth : Method} {c : Code} {D : va_G} {G : xh_G} (hz : xh_C p s m args c b_MD_operate 5 "SpendScriptModel" D G (xh_A G s.heap.size)) (hr : meth.sig.returnType = (some .int)) (hlk : meth.locks = false) (s0 : Int32) (X : xh_T) : xh_J p l e rm_MD_operate s m args below meth c 0 0 D G (xh_A G s.heap.size) 5 (fun r X' => MQ below (xh_Qi D G (xh_A G s.heap.size) r X') args s 0 0 (xh_A G s.heap.size)) 191 [(0, .ref (G.1 206))] [.int s0] X (fx_MD_operate_b191 s0 X) := by
  unfold fx_MD_operate_b191
  refine jr_istore (lf := [(0, .ref (G.1 206))]) hz d_MD_operate_191 (by decide) rfl (fun v28 => ?_)
  refine jr_sub (ls' := [(0, .ref (G.1 206)), (4, .int v28)]) [1, 0] rfl ?_
  exact jb_MD_operate_b193 hz hr hlk v28 X
def fx_MD_operate_b126 (a4 : Int32) (s0 : Int32) (s1 : Int32) (X : xh_T) : Option (Int32 × xh_T) :=
  xh_o s1 8 (xh_n (xh_i X 212 (s1 : Int32).toNatClampNeg (vp_nar .boolean s0)) (fun X10 : xh_T =>
  fx_MD_operate_b193 a4 X10))
set_option maxRecDepth 100000 in
set_option maxHeartbeats 4000000 in
theorem jb_MD_operate_b126 {p : Program} {l : Launch} {e : Env} {s : State} {m : MethodId} {args : Array Value} {below : List Frame} {meth : Method} {c : Code} {D : va_G} {G : xh_G} (hz : xh_C p s m args c b_MD_operate 5 "SpendScriptModel" D G (xh_A G s.heap.size)) (hr : meth.sig.returnType = (some .int)) (hlk : meth.locks = false) (a4 : Int32) (s0 : Int32) (s1 : Int32) (X : xh_T) : xh_J p l e rm_MD_operate s m args below meth c 0 0 D G (xh_A G s.heap.size) 5 (fun r X' => MQ below (xh_Qi D G (xh_A G s.heap.size) r X') args s 0 0 (xh_A G s.heap.size)) 126 [(0, .ref (G.1 206)), (4, .int a4)] [.int s0, .int s1, .ref (G.1 212)] X (fx_MD_operate_b126 a4 s0 s1 X) := by
  unfold fx_MD_operate_b126
  refine jr_zast (n := 8) hz lq_212 ly_212 d_MD_operate_126 (fun X10 => ?_)
  refine jr_goto (tgt := 193) hz d_MD_operate_127 (by decide) ?_
  refine jr_sub (ls' := [(0, .ref (G.1 206)), (4, .int a4)]) [0, 1] rfl ?_
  exact jb_MD_operate_b193 hz hr hlk a4 X10
def fx_MD_operate_b81 (a2 : Int32) (a4 : Int32) (X : xh_T) : Option (Int32 × xh_T) :=
  if X.1 206 8 = 0 then
  some (7, X)
  else if a2 = 103 then
  xh_o (X.1 206 8 - 1) 8 (if (X.1 212 ((X.1 206 8 - 1)).toNatClampNeg) = 0 then
  fx_MD_operate_b126 a4 1 (X.1 206 8 - 1) X
  else fx_MD_operate_b126 a4 0 (X.1 206 8 - 1) X)
  else xh_n (xh_i X 206 8 (X.1 206 8 - 1)) (fun X6 : xh_T =>
  fx_MD_operate_b193 a4 X6)
set_option maxRecDepth 100000 in
set_option maxHeartbeats 4000000 in
theorem jb_MD_operate_b81 {p : Program} {l : Launch} {e : Env} {s : State} {m : MethodId} {args : Array Value} {below : List Frame} {meth : Method} {c : Code} {D : va_G} {G : xh_G} (hz : xh_C p s m args c b_MD_operate 5 "SpendScriptModel" D G (xh_A G s.heap.size)) (hr : meth.sig.returnType = (some .int)) (hlk : meth.locks = false) (a2 : Int32) (a4 : Int32) (X : xh_T) : xh_J p l e rm_MD_operate s m args below meth c 0 0 D G (xh_A G s.heap.size) 5 (fun r X' => MQ below (xh_Qi D G (xh_A G s.heap.size) r X') args s 0 0 (xh_A G s.heap.size)) 81 [(0, .ref (G.1 206)), (2, .int a2), (4, .int a4)] [] X (fx_MD_operate_b81 a2 a4 X) := by
  unfold fx_MD_operate_b81
  refine jr_aload_n hz d_MD_operate_81 rfl 0 rfl ?_
  refine jr_geti (j := 8) hz lq_206 ly_206 rfl wf_MD_90 d_MD_operate_82 ?_
  refine jr_if_ne (tgt := 91) hz d_MD_operate_85 (by decide) ?_ ?_
  · refine jr_iload_n hz d_MD_operate_91 rfl 1 rfl ?_
    refine jr_bipush (v := 103) hz d_MD_operate_92 (by decide) ?_
    refine jr_icmp_ne (tgt := 130) hz d_MD_operate_94 (by decide) ?_ ?_
    · refine jr_aload_n hz d_MD_operate_130 rfl 0 rfl ?_
      refine jr_aload_n hz d_MD_operate_131 rfl 0 rfl ?_
      refine jr_geti (j := 8) hz lq_206 ly_206 rfl wf_MD_90 d_MD_operate_132 ?_
      refine jr_iconst (v := 1) hz d_MD_operate_135 (by decide) ?_
      refine jr_isub hz d_MD_operate_136 ?_
      refine jr_puti hz lq_206 ly_206 rfl wp_MD_90 d_MD_operate_137 (fun X6 => ?_)
      refine jr_goto (tgt := 193) hz d_MD_operate_140 (by decide) ?_
      refine jr_sub (ls' := [(0, .ref (G.1 206)), (4, .int a4)]) [0, 2] rfl ?_
      exact jb_MD_operate_b193 hz hr hlk a4 X6
    · refine jr_aload_n hz d_MD_operate_97 rfl 0 rfl ?_
      refine jr_getr (j := 7) (t := 212) hz lq_206 ly_206 rfl wf_MD_25 d_MD_operate_98 ?_
      refine jr_aload_n hz d_MD_operate_101 rfl 0 rfl ?_
      refine jr_geti (j := 8) hz lq_206 ly_206 rfl wf_MD_90 d_MD_operate_102 ?_
      refine jr_iconst (v := 1) hz d_MD_operate_105 (by decide) ?_
      refine jr_isub hz d_MD_operate_106 ?_
      refine jr_aload_n hz d_MD_operate_107 rfl 0 rfl ?_
      refine jr_getr (j := 7) (t := 212) hz lq_206 ly_206 rfl wf_MD_25 d_MD_operate_108 ?_
      refine jr_aload_n hz d_MD_operate_111 rfl 0 rfl ?_
      refine jr_geti (j := 8) hz lq_206 ly_206 rfl wf_MD_90 d_MD_operate_112 ?_
      refine jr_iconst (v := 1) hz d_MD_operate_115 (by decide) ?_
      refine jr_isub hz d_MD_operate_116 ?_
      refine jr_zald (n := 8) hz lq_212 ly_212 d_MD_operate_117 ?_
      refine jr_if_ne (tgt := 125) hz d_MD_operate_118 (by decide) ?_ ?_
      · refine jr_iconst (v := 0) hz d_MD_operate_125 (by decide) ?_
        refine jr_sub (ls' := [(0, .ref (G.1 206)), (4, .int a4)]) [0, 2] rfl ?_
        exact jb_MD_operate_b126 hz hr hlk a4 0 (X.1 206 8 - 1) X
      · refine jr_iconst (v := 1) hz d_MD_operate_121 (by decide) ?_
        refine jr_goto (tgt := 126) hz d_MD_operate_122 (by decide) ?_
        refine jr_sub (ls' := [(0, .ref (G.1 206)), (4, .int a4)]) [0, 2] rfl ?_
        exact jb_MD_operate_b126 hz hr hlk a4 1 (X.1 206 8 - 1) X
  · refine jr_bipush (v := 7) hz d_MD_operate_88 (by decide) ?_
    exact jr_iret hz hr hlk d_MD_operate_90
def fx_MD_operate_b171 (a2 : Int32) (X : xh_T) : Option (Int32 × xh_T) :=
  if a2 < 130 then
  xh_b (fx_MD_move a2 X) (fun (r20 : Int32) (X7 : xh_T) =>
  fx_MD_operate_b191 r20 X7)
  else xh_b (fx_MD_compare a2 X) (fun (r24 : Int32) (X8 : xh_T) =>
  fx_MD_operate_b191 r24 X8)
set_option maxRecDepth 100000 in
set_option maxHeartbeats 4000000 in
theorem jb_MD_operate_b171 {p : Program} {l : Launch} {e : Env} {s : State} {m : MethodId} {args : Array Value} {below : List Frame} {meth : Method} {c : Code} {D : va_G} {G : xh_G} (hz : xh_C p s m args c b_MD_operate 5 "SpendScriptModel" D G (xh_A G s.heap.size)) (hr : meth.sig.returnType = (some .int)) (hlk : meth.locks = false) (a2 : Int32) (X : xh_T) : xh_J p l e rm_MD_operate s m args below meth c 0 0 D G (xh_A G s.heap.size) 5 (fun r X' => MQ below (xh_Qi D G (xh_A G s.heap.size) r X') args s 0 0 (xh_A G s.heap.size)) 171 [(0, .ref (G.1 206)), (2, .int a2)] [] X (fx_MD_operate_b171 a2 X) := by
  unfold fx_MD_operate_b171
  refine jr_iload_n hz d_MD_operate_171 rfl 1 rfl ?_
  refine jr_sipush (v := 130) hz d_MD_operate_172 (by decide) ?_
  refine jr_icmp_lt (tgt := 186) hz d_MD_operate_175 (by decide) ?_ ?_
  · refine jr_aload_n hz d_MD_operate_186 rfl 0 rfl ?_
    refine jr_iload_n hz d_MD_operate_187 rfl 1 rfl ?_
    refine jr_callVi (As := [.int a2]) (a := 206) (ci := 7) (st := []) hz (cx_MD_move l D G hz.2.2.2.2.2.2.1 a2 X) (fun _ _ => ⟨lq_206, _, ly_206⟩) wv_MD_132 ⟨rfl, rfl, Nat.le_of_ble_eq_true rfl, Nat.le_of_ble_eq_true rfl⟩ ⟨Nat.zero_le _, Nat.zero_le _⟩ rfl rfl (Nat.le_of_ble_eq_true rfl) d_MD_operate_188 (fun r20 X7 => ?_)
    refine jr_sub (ls' := [(0, .ref (G.1 206))]) [0] rfl ?_
    exact jb_MD_operate_b191 hz hr hlk r20 X7
  · refine jr_aload_n hz d_MD_operate_178 rfl 0 rfl ?_
    refine jr_iload_n hz d_MD_operate_179 rfl 1 rfl ?_
    refine jr_callVi (As := [.int a2]) (a := 206) (ci := 7) (st := []) hz (cx_MD_compare l D G hz.2.2.2.2.2.2.1 a2 X) (fun _ _ => ⟨lq_206, _, ly_206⟩) wv_MD_129 ⟨rfl, rfl, Nat.le_of_ble_eq_true rfl, Nat.le_of_ble_eq_true rfl⟩ ⟨Nat.zero_le _, Nat.zero_le _⟩ rfl rfl (Nat.le_of_ble_eq_true rfl) d_MD_operate_180 (fun r24 X8 => ?_)
    refine jr_goto (tgt := 191) hz d_MD_operate_183 (by decide) ?_
    refine jr_sub (ls' := [(0, .ref (G.1 206))]) [0] rfl ?_
    exact jb_MD_operate_b191 hz hr hlk r24 X8
def fx_MD_operate (p1 : Int32) (p2 : Int32) (X : xh_T) : Option (Int32 × xh_T) :=
  if p1 = 0 then
  some (15, X)
  else xh_b (fx_MD_known p2 X) (fun (r2 : Int32) (X1 : xh_T) =>
  if r2 = 0 then
  some (2, X1)
  else if X1.1 206 9 = 25 then
  some (6, X1)
  else xh_n (xh_i X1 206 9 (X1.1 206 9 + 1)) (fun X2 : xh_T =>
  xh_b (fx_MD_live X2) (fun (r6 : Int32) (X3 : xh_T) =>
  xh_n r6 (fun v9 : Int32 =>
  xh_n 0 (fun v10 : Int32 =>
  if p2 = 99 then
  fx_MD_operate_b58 p2 v9 X3
  else if p2 = 100 then
  fx_MD_operate_b58 p2 v9 X3
  else if p2 = 103 then
  fx_MD_operate_b81 p2 v10 X3
  else if p2 = 104 then
  fx_MD_operate_b81 p2 v10 X3
  else if v9 = 0 then
  some (0, X3)
  else if p2 < 139 then
  fx_MD_operate_b171 p2 X3
  else if 165 < p2 then
  fx_MD_operate_b171 p2 X3
  else xh_b (fx_MD_calculate p2 X3) (fun (r11 : Int32) (X4 : xh_T) =>
  fx_MD_operate_b191 r11 X4))))))
set_option maxRecDepth 100000 in
set_option maxHeartbeats 4000000 in
theorem cx_MD_operate (l : Launch) (D : va_G) (G : xh_G) (hD : xh_D G) (p1 : Int32) (p2 : Int32) (X : xh_T) : xh_M xh_Qi l D G y_MD_operate b_MD_operate 5 (some .int) rm_MD_operate [.ref (G.1 206), .int p1, .int p2] X (fx_MD_operate p1 p2 X) := by
  refine xh_enter (ls := [(0, .ref (G.1 206)), (1, .int p1), (2, .int p2)]) hD (by decide +kernel) (Nat.le_of_ble_eq_true rfl) rfl ?_
  intro p e s m args below meth c hz hr hlk
  unfold fx_MD_operate
  refine jr_iload_n hz d_MD_operate_0 rfl 1 rfl ?_
  refine jr_if_ne (tgt := 7) hz d_MD_operate_1 (by decide) ?_ ?_
  · refine jr_iload_n hz d_MD_operate_7 rfl 2 rfl ?_
    refine jr_callSi (As := [.int p2]) (st := []) hz (cx_MD_known l D G hz.2.2.2.2.2.2.1 p2 X) ws_MD_119 ⟨rfl, rfl, Nat.le_of_ble_eq_true rfl, Nat.le_of_ble_eq_true rfl⟩ ⟨Nat.zero_le _, Nat.zero_le _⟩ rfl rfl (Nat.le_of_ble_eq_true rfl) d_MD_operate_8 (fun r2 X1 => ?_)
    refine jr_if_ne (tgt := 16) hz d_MD_operate_11 (by decide) ?_ ?_
    · refine jr_aload_n hz d_MD_operate_16 rfl 0 rfl ?_
      refine jr_geti (j := 9) hz lq_206 ly_206 rfl wf_MD_93 d_MD_operate_17 ?_
      refine jr_bipush (v := 25) hz d_MD_operate_20 (by decide) ?_
      refine jr_icmp_ne (tgt := 28) hz d_MD_operate_22 (by decide) ?_ ?_
      · refine jr_aload_n hz d_MD_operate_28 rfl 0 rfl ?_
        refine jr_aload_n hz d_MD_operate_29 rfl 0 rfl ?_
        refine jr_geti (j := 9) hz lq_206 ly_206 rfl wf_MD_93 d_MD_operate_30 ?_
        refine jr_iconst (v := 1) hz d_MD_operate_33 (by decide) ?_
        refine jr_iadd hz d_MD_operate_34 ?_
        refine jr_puti hz lq_206 ly_206 rfl wp_MD_93 d_MD_operate_35 (fun X2 => ?_)
        refine jr_aload_n hz d_MD_operate_38 rfl 0 rfl ?_
        refine jr_callVi (As := []) (a := 206) (ci := 7) (st := []) hz (cx_MD_live l D G hz.2.2.2.2.2.2.1 X2) (fun _ _ => ⟨lq_206, _, ly_206⟩) wv_MD_105 ⟨rfl, rfl, Nat.le_of_ble_eq_true rfl, Nat.le_of_ble_eq_true rfl⟩ ⟨Nat.zero_le _, Nat.zero_le _⟩ rfl rfl (Nat.le_of_ble_eq_true rfl) d_MD_operate_39 (fun r6 X3 => ?_)
        refine jr_istore_n (lf := [(0, .ref (G.1 206)), (1, .int p1), (2, .int p2)]) hz d_MD_operate_42 rfl (by decide) rfl (fun v9 => ?_)
        refine jr_iconst (v := 0) hz d_MD_operate_43 (by decide) ?_
        refine jr_istore (lf := [(3, .int v9), (0, .ref (G.1 206)), (1, .int p1), (2, .int p2)]) hz d_MD_operate_44 (by decide) rfl (fun v10 => ?_)
        refine jr_iload_n hz d_MD_operate_46 rfl 4 rfl ?_
        refine jr_bipush (v := 99) hz d_MD_operate_47 (by decide) ?_
        refine jr_icmp_eq (tgt := 58) hz d_MD_operate_49 (by decide) ?_ ?_
        · refine jr_sub (ls' := [(0, .ref (G.1 206)), (2, .int p2), (3, .int v9)]) [2, 4, 1] rfl ?_
          exact jb_MD_operate_b58 hz hr hlk p2 v9 X3
        · refine jr_iload_n hz d_MD_operate_52 rfl 4 rfl ?_
          refine jr_bipush (v := 100) hz d_MD_operate_53 (by decide) ?_
          refine jr_icmp_ne (tgt := 69) hz d_MD_operate_55 (by decide) ?_ ?_
          · refine jr_iload_n hz d_MD_operate_69 rfl 4 rfl ?_
            refine jr_bipush (v := 103) hz d_MD_operate_70 (by decide) ?_
            refine jr_icmp_eq (tgt := 81) hz d_MD_operate_72 (by decide) ?_ ?_
            · refine jr_sub (ls' := [(0, .ref (G.1 206)), (2, .int p2), (4, .int v10)]) [2, 4, 0] rfl ?_
              exact jb_MD_operate_b81 hz hr hlk p2 v10 X3
            · refine jr_iload_n hz d_MD_operate_75 rfl 4 rfl ?_
              refine jr_bipush (v := 104) hz d_MD_operate_76 (by decide) ?_
              refine jr_icmp_ne (tgt := 143) hz d_MD_operate_78 (by decide) ?_ ?_
              · refine jr_iload_n hz d_MD_operate_143 rfl 1 rfl ?_
                refine jr_if_ne (tgt := 149) hz d_MD_operate_144 (by decide) ?_ ?_
                · refine jr_iload_n hz d_MD_operate_149 rfl 4 rfl ?_
                  refine jr_sipush (v := 139) hz d_MD_operate_150 (by decide) ?_
                  refine jr_icmp_lt (tgt := 171) hz d_MD_operate_153 (by decide) ?_ ?_
                  · refine jr_sub (ls' := [(0, .ref (G.1 206)), (2, .int p2)]) [2, 4] rfl ?_
                    exact jb_MD_operate_b171 hz hr hlk p2 X3
                  · refine jr_iload_n hz d_MD_operate_156 rfl 4 rfl ?_
                    refine jr_sipush (v := 165) hz d_MD_operate_157 (by decide) ?_
                    refine jr_icmp_gt (tgt := 171) hz d_MD_operate_160 (by decide) ?_ ?_
                    · refine jr_sub (ls' := [(0, .ref (G.1 206)), (2, .int p2)]) [2, 4] rfl ?_
                      exact jb_MD_operate_b171 hz hr hlk p2 X3
                    · refine jr_aload_n hz d_MD_operate_163 rfl 2 rfl ?_
                      refine jr_iload_n hz d_MD_operate_164 rfl 4 rfl ?_
                      refine jr_callVi (As := [.int p2]) (a := 206) (ci := 7) (st := []) hz (cx_MD_calculate l D G hz.2.2.2.2.2.2.1 p2 X3) (fun _ _ => ⟨lq_206, _, ly_206⟩) wv_MD_126 ⟨rfl, rfl, Nat.le_of_ble_eq_true rfl, Nat.le_of_ble_eq_true rfl⟩ ⟨Nat.zero_le _, Nat.zero_le _⟩ rfl rfl (Nat.le_of_ble_eq_true rfl) d_MD_operate_165 (fun r11 X4 => ?_)
                      refine jr_goto (tgt := 191) hz d_MD_operate_168 (by decide) ?_
                      refine jr_sub (ls' := [(0, .ref (G.1 206))]) [2] rfl ?_
                      exact jb_MD_operate_b191 hz hr hlk r11 X4
                · refine jr_iconst (v := 0) hz d_MD_operate_147 (by decide) ?_
                  exact jr_iret hz hr hlk d_MD_operate_148
              · refine jr_sub (ls' := [(0, .ref (G.1 206)), (2, .int p2), (4, .int v10)]) [2, 4, 0] rfl ?_
                exact jb_MD_operate_b81 hz hr hlk p2 v10 X3
          · refine jr_sub (ls' := [(0, .ref (G.1 206)), (2, .int p2), (3, .int v9)]) [2, 4, 1] rfl ?_
            exact jb_MD_operate_b58 hz hr hlk p2 v9 X3
      · refine jr_bipush (v := 6) hz d_MD_operate_25 (by decide) ?_
        exact jr_iret hz hr hlk d_MD_operate_27
    · refine jr_iconst (v := 2) hz d_MD_operate_14 (by decide) ?_
      exact jr_iret hz hr hlk d_MD_operate_15
  · refine jr_bipush (v := 15) hz d_MD_operate_4 (by decide) ?_
    exact jr_iret hz hr hlk d_MD_operate_6
theorem d_MD_run_0 : decode b_MD_run 0 = .ok (.aload_n 0, 1) := by decide +kernel
theorem d_MD_run_1 : decode b_MD_run 1 = .ok (.iconst 0, 1) := by decide +kernel
theorem d_MD_run_2 : decode b_MD_run 2 = .ok (.putfield 76, 3) := by decide +kernel
theorem d_MD_run_5 : decode b_MD_run 5 = .ok (.aload_n 0, 1) := by decide +kernel
theorem d_MD_run_6 : decode b_MD_run 6 = .ok (.iconst 0, 1) := by decide +kernel
theorem d_MD_run_7 : decode b_MD_run 7 = .ok (.putfield 90, 3) := by decide +kernel
theorem d_MD_run_10 : decode b_MD_run 10 = .ok (.aload_n 0, 1) := by decide +kernel
theorem d_MD_run_11 : decode b_MD_run 11 = .ok (.iconst 0, 1) := by decide +kernel
theorem d_MD_run_12 : decode b_MD_run 12 = .ok (.putfield 93, 3) := by decide +kernel
theorem d_MD_run_15 : decode b_MD_run 15 = .ok (.iconst 0, 1) := by decide +kernel
theorem d_MD_run_16 : decode b_MD_run 16 = .ok (.istore_n 2, 1) := by decide +kernel
theorem d_MD_run_17 : decode b_MD_run 17 = .ok (.iconst 0, 1) := by decide +kernel
theorem d_MD_run_18 : decode b_MD_run 18 = .ok (.istore_n 3, 1) := by decide +kernel
theorem d_MD_run_19 : decode b_MD_run 19 = .ok (.iload_n 3, 1) := by decide +kernel
theorem d_MD_run_20 : decode b_MD_run 20 = .ok (.bipush 120, 2) := by decide +kernel
theorem d_MD_run_22 : decode b_MD_run 22 = .ok (.if_icmp .ge 87, 3) := by decide +kernel
theorem d_MD_run_25 : decode b_MD_run 25 = .ok (.iload_n 2, 1) := by decide +kernel
theorem d_MD_run_26 : decode b_MD_run 26 = .ok (.aload_n 0, 1) := by decide +kernel
theorem d_MD_run_27 : decode b_MD_run 27 = .ok (.getfield 13, 3) := by decide +kernel
theorem d_MD_run_30 : decode b_MD_run 30 = .ok (.iload_n 1, 1) := by decide +kernel
theorem d_MD_run_31 : decode b_MD_run 31 = .ok (.iaload, 1) := by decide +kernel
theorem d_MD_run_32 : decode b_MD_run 32 = .ok (.if_icmp .ge 77, 3) := by decide +kernel
theorem d_MD_run_35 : decode b_MD_run 35 = .ok (.aload_n 0, 1) := by decide +kernel
theorem d_MD_run_36 : decode b_MD_run 36 = .ok (.iload_n 2, 1) := by decide +kernel
theorem d_MD_run_37 : decode b_MD_run 37 = .ok (.iconst 1, 1) := by decide +kernel
theorem d_MD_run_38 : decode b_MD_run 38 = .ok (.iadd, 1) := by decide +kernel
theorem d_MD_run_39 : decode b_MD_run 39 = .ok (.putfield 96, 3) := by decide +kernel
theorem d_MD_run_42 : decode b_MD_run 42 = .ok (.aload_n 0, 1) := by decide +kernel
theorem d_MD_run_43 : decode b_MD_run 43 = .ok (.getfield 7, 3) := by decide +kernel
theorem d_MD_run_46 : decode b_MD_run 46 = .ok (.bipush 120, 2) := by decide +kernel
theorem d_MD_run_48 : decode b_MD_run 48 = .ok (.iload_n 1, 1) := by decide +kernel
theorem d_MD_run_49 : decode b_MD_run 49 = .ok (.imul, 1) := by decide +kernel
theorem d_MD_run_50 : decode b_MD_run 50 = .ok (.iload_n 2, 1) := by decide +kernel
theorem d_MD_run_51 : decode b_MD_run 51 = .ok (.iadd, 1) := by decide +kernel
theorem d_MD_run_52 : decode b_MD_run 52 = .ok (.iaload, 1) := by decide +kernel
theorem d_MD_run_53 : decode b_MD_run 53 = .ok (.bipush 96, 2) := by decide +kernel
theorem d_MD_run_55 : decode b_MD_run 55 = .ok (.if_icmp .gt 12, 3) := by decide +kernel
theorem d_MD_run_58 : decode b_MD_run 58 = .ok (.aload_n 0, 1) := by decide +kernel
theorem d_MD_run_59 : decode b_MD_run 59 = .ok (.iload_n 1, 1) := by decide +kernel
theorem d_MD_run_60 : decode b_MD_run 60 = .ok (.iload_n 2, 1) := by decide +kernel
theorem d_MD_run_61 : decode b_MD_run 61 = .ok (.invokevirtual 99, 3) := by decide +kernel
theorem d_MD_run_64 : decode b_MD_run 64 = .ok (.goto 19, 3) := by decide +kernel
theorem d_MD_run_67 : decode b_MD_run 67 = .ok (.aload_n 0, 1) := by decide +kernel
theorem d_MD_run_68 : decode b_MD_run 68 = .ok (.iload_n 1, 1) := by decide +kernel
theorem d_MD_run_69 : decode b_MD_run 69 = .ok (.aload_n 0, 1) := by decide +kernel
theorem d_MD_run_70 : decode b_MD_run 70 = .ok (.getfield 7, 3) := by decide +kernel
theorem d_MD_run_73 : decode b_MD_run 73 = .ok (.bipush 120, 2) := by decide +kernel
theorem d_MD_run_75 : decode b_MD_run 75 = .ok (.iload_n 1, 1) := by decide +kernel
theorem d_MD_run_76 : decode b_MD_run 76 = .ok (.imul, 1) := by decide +kernel
theorem d_MD_run_77 : decode b_MD_run 77 = .ok (.iload_n 2, 1) := by decide +kernel
theorem d_MD_run_78 : decode b_MD_run 78 = .ok (.iadd, 1) := by decide +kernel
theorem d_MD_run_79 : decode b_MD_run 79 = .ok (.iaload, 1) := by decide +kernel
theorem d_MD_run_80 : decode b_MD_run 80 = .ok (.invokevirtual 102, 3) := by decide +kernel
theorem d_MD_run_83 : decode b_MD_run 83 = .ok (.istore 4, 2) := by decide +kernel
theorem d_MD_run_85 : decode b_MD_run 85 = .ok (.iload 4, 2) := by decide +kernel
theorem d_MD_run_87 : decode b_MD_run 87 = .ok (.ifCond .le 11, 3) := by decide +kernel
theorem d_MD_run_90 : decode b_MD_run 90 = .ok (.aload_n 0, 1) := by decide +kernel
theorem d_MD_run_91 : decode b_MD_run 91 = .ok (.iload_n 2, 1) := by decide +kernel
theorem d_MD_run_92 : decode b_MD_run 92 = .ok (.putfield 46, 3) := by decide +kernel
theorem d_MD_run_95 : decode b_MD_run 95 = .ok (.iload 4, 2) := by decide +kernel
theorem d_MD_run_97 : decode b_MD_run 97 = .ok (.ireturn, 1) := by decide +kernel
theorem d_MD_run_98 : decode b_MD_run 98 = .ok (.aload_n 0, 1) := by decide +kernel
theorem d_MD_run_99 : decode b_MD_run 99 = .ok (.getfield 96, 3) := by decide +kernel
theorem d_MD_run_102 : decode b_MD_run 102 = .ok (.istore_n 2, 1) := by decide +kernel
theorem d_MD_run_103 : decode b_MD_run 103 = .ok (.iinc 3 1, 3) := by decide +kernel
theorem d_MD_run_106 : decode b_MD_run 106 = .ok (.goto (-87), 3) := by decide +kernel
theorem d_MD_run_109 : decode b_MD_run 109 = .ok (.aload_n 0, 1) := by decide +kernel
theorem d_MD_run_110 : decode b_MD_run 110 = .ok (.aload_n 0, 1) := by decide +kernel
theorem d_MD_run_111 : decode b_MD_run 111 = .ok (.getfield 13, 3) := by decide +kernel
theorem d_MD_run_114 : decode b_MD_run 114 = .ok (.iload_n 1, 1) := by decide +kernel
theorem d_MD_run_115 : decode b_MD_run 115 = .ok (.iaload, 1) := by decide +kernel
theorem d_MD_run_116 : decode b_MD_run 116 = .ok (.putfield 46, 3) := by decide +kernel
theorem d_MD_run_119 : decode b_MD_run 119 = .ok (.aload_n 0, 1) := by decide +kernel
theorem d_MD_run_120 : decode b_MD_run 120 = .ok (.getfield 90, 3) := by decide +kernel
theorem d_MD_run_123 : decode b_MD_run 123 = .ok (.ifCond .le 8, 3) := by decide +kernel
theorem d_MD_run_126 : decode b_MD_run 126 = .ok (.bipush 7, 2) := by decide +kernel
theorem d_MD_run_128 : decode b_MD_run 128 = .ok (.goto 4, 3) := by decide +kernel
theorem d_MD_run_131 : decode b_MD_run 131 = .ok (.iconst 0, 1) := by decide +kernel
theorem d_MD_run_132 : decode b_MD_run 132 = .ok (.ireturn, 1) := by decide +kernel
theorem wv_MD_102 : xh_V "SpendScriptModel" 102 7 y_MD_operate b_MD_operate 5 (some .int) 2 := ⟨(sp_tb (List.mem_of_getElem? (i := 647) (by decide +kernel))), (sp_tb (List.mem_of_getElem? (i := 8) (by decide +kernel))), (sp_tb (List.mem_of_getElem? (i := 644) (by decide +kernel))), ⟨by decide +kernel, by decide +kernel, by decide +kernel⟩, (sp_tb (List.mem_of_getElem? (i := 646) (by decide +kernel))), (sp_pv (q := (y_MD_operate, 19)) (List.mem_of_getElem? (i := 28) (by decide +kernel))), F_MD, 19, rfl⟩
theorem wv_MD_99 : xh_V "SpendScriptModel" 99 7 y_MD_push b_MD_push 6 (some .int) 2 := ⟨(sp_tb (List.mem_of_getElem? (i := 630) (by decide +kernel))), (sp_tb (List.mem_of_getElem? (i := 8) (by decide +kernel))), (sp_tb (List.mem_of_getElem? (i := 627) (by decide +kernel))), ⟨by decide +kernel, by decide +kernel, by decide +kernel⟩, (sp_tb (List.mem_of_getElem? (i := 629) (by decide +kernel))), (sp_pv (q := (y_MD_push, 19)) (List.mem_of_getElem? (i := 24) (by decide +kernel))), F_MD, 19, rfl⟩
theorem wp_MD_46 : xh_Fp "SpendScriptModel" 46 7 16 := ⟨R_MD, F_MD, 19, t_MD, rfl, by decide, iw_MD, (sp_tb (List.mem_of_getElem? (i := 553) (by decide +kernel))), tk_MD, nk_MD, rfl, rfl⟩
theorem wf_MD_96 : xh_F "SpendScriptModel" 96 7 10 := ⟨R_MD, F_MD, 19, rfl, by decide, iw_MD, (sp_tb (List.mem_of_getElem? (i := 547) (by decide +kernel)))⟩
abbrev rm_MD_run : Room := { frames := 7, cells := 0, slots := 0, locals := 165 }
def fx_MD_run_b109 (a1 : Int32) (X : xh_T) : Option (Int32 × xh_T) :=
  xh_o a1 3 (xh_n (xh_i X 206 16 (X.1 208 a1.toNatClampNeg)) (fun X7 : xh_T =>
  if X7.1 206 8 ≤ 0 then
  some (0, X7)
  else some (7, X7)))
set_option maxRecDepth 100000 in
set_option maxHeartbeats 4000000 in
theorem jb_MD_run_b109 {p : Program} {l : Launch} {e : Env} {s : State} {m : MethodId} {args : Array Value} {below : List Frame} {meth : Method} {c : Code} {D : va_G} {G : xh_G} (hz : xh_C p s m args c b_MD_run 5 "SpendScriptModel" D G (xh_A G s.heap.size)) (hr : meth.sig.returnType = (some .int)) (hlk : meth.locks = false) (a1 : Int32) (X : xh_T) : xh_J p l e rm_MD_run s m args below meth c 0 0 D G (xh_A G s.heap.size) 5 (fun r X' => MQ below (xh_Qi D G (xh_A G s.heap.size) r X') args s 0 0 (xh_A G s.heap.size)) 109 [(0, .ref (G.1 206)), (1, .int a1)] [] X (fx_MD_run_b109 a1 X) := by
  unfold fx_MD_run_b109
  refine jr_aload_n hz d_MD_run_109 rfl 0 rfl ?_
  refine jr_aload_n hz d_MD_run_110 rfl 0 rfl ?_
  refine jr_getr (j := 1) (t := 208) hz lq_206 ly_206 rfl wf_MD_13 d_MD_run_111 ?_
  refine jr_iload_n hz d_MD_run_114 rfl 1 rfl ?_
  refine jr_iald (n := 3) hz lq_208 ly_208 d_MD_run_115 ?_
  refine jr_puti hz lq_206 ly_206 rfl wp_MD_46 d_MD_run_116 (fun X7 => ?_)
  refine jr_aload_n hz d_MD_run_119 rfl 0 rfl ?_
  refine jr_geti (j := 8) hz lq_206 ly_206 rfl wf_MD_90 d_MD_run_120 ?_
  refine jr_if_le (tgt := 131) hz d_MD_run_123 (by decide) ?_ ?_
  · refine jr_iconst (v := 0) hz d_MD_run_131 (by decide) ?_
    exact jr_iret hz hr hlk d_MD_run_132
  · refine jr_bipush (v := 7) hz d_MD_run_126 (by decide) ?_
    refine jr_goto (tgt := 132) hz d_MD_run_128 (by decide) ?_
    exact jr_iret hz hr hlk d_MD_run_132
def fx_MD_run_b83 (lp19 : Int32 → Int32 → Int32 → xh_T → Option (Int32 × xh_T)) (a1 : Int32) (a2 : Int32) (a3 : Int32) (s0 : Int32) (X : xh_T) : Option (Int32 × xh_T) :=
  xh_n s0 (fun v11 : Int32 =>
  if v11 ≤ 0 then
  xh_n (X.1 206 10) (fun v12 : Int32 =>
  xh_n (a3 + 1) (fun v13 : Int32 =>
  lp19 a1 v12 v13 X))
  else xh_n (xh_i X 206 16 a2) (fun X8 : xh_T =>
  some (v11, X8)))
set_option maxRecDepth 100000 in
set_option maxHeartbeats 4000000 in
theorem jb_MD_run_b83 {p : Program} {l : Launch} {e : Env} {s : State} {m : MethodId} {args : Array Value} {below : List Frame} {meth : Method} {c : Code} {D : va_G} {G : xh_G} (hz : xh_C p s m args c b_MD_run 5 "SpendScriptModel" D G (xh_A G s.heap.size)) (hr : meth.sig.returnType = (some .int)) (hlk : meth.locks = false) (lp19 : Int32 → Int32 → Int32 → xh_T → Option (Int32 × xh_T)) (hlp19 : ∀ (a1 : Int32) (a2 : Int32) (a3 : Int32) (X : xh_T), xh_J p l e rm_MD_run s m args below meth c 0 0 D G (xh_A G s.heap.size) 5 (fun r X' => MQ below (xh_Qi D G (xh_A G s.heap.size) r X') args s 0 0 (xh_A G s.heap.size)) 19 [(0, .ref (G.1 206)), (1, .int a1), (2, .int a2), (3, .int a3)] [] X (lp19 a1 a2 a3 X)) (a1 : Int32) (a2 : Int32) (a3 : Int32) (s0 : Int32) (X : xh_T) : xh_J p l e rm_MD_run s m args below meth c 0 0 D G (xh_A G s.heap.size) 5 (fun r X' => MQ below (xh_Qi D G (xh_A G s.heap.size) r X') args s 0 0 (xh_A G s.heap.size)) 83 [(0, .ref (G.1 206)), (1, .int a1), (2, .int a2), (3, .int a3)] [.int s0] X (fx_MD_run_b83 lp19 a1 a2 a3 s0 X) := by
  unfold fx_MD_run_b83
  refine jr_istore (lf := [(0, .ref (G.1 206)), (1, .int a1), (2, .int a2), (3, .int a3)]) hz d_MD_run_83 (by decide) rfl (fun v11 => ?_)
  refine jr_iload hz d_MD_run_85 0 rfl ?_
  refine jr_if_le (tgt := 98) hz d_MD_run_87 (by decide) ?_ ?_
  · refine jr_aload_n hz d_MD_run_98 rfl 1 rfl ?_
    refine jr_geti (j := 10) hz lq_206 ly_206 rfl wf_MD_96 d_MD_run_99 ?_
    refine jr_istore_n (lf := [(4, .int v11), (0, .ref (G.1 206)), (1, .int a1), (3, .int a3)]) hz d_MD_run_102 rfl (by decide) rfl (fun v12 => ?_)
    refine jr_iinc (lf := [(2, .int v12), (4, .int v11), (0, .ref (G.1 206)), (1, .int a1)]) (w := 1) hz d_MD_run_103 4 rfl (by decide) (by decide) rfl (fun v13 => ?_)
    refine jr_goto (tgt := 19) hz d_MD_run_106 (by decide) ?_
    refine jr_sub (ls' := [(0, .ref (G.1 206)), (1, .int a1), (2, .int v12), (3, .int v13)]) [3, 4, 1, 0] rfl ?_
    exact hlp19 a1 v12 v13 X
  · refine jr_aload_n hz d_MD_run_90 rfl 1 rfl ?_
    refine jr_iload_n hz d_MD_run_91 rfl 3 rfl ?_
    refine jr_puti hz lq_206 ly_206 rfl wp_MD_46 d_MD_run_92 (fun X8 => ?_)
    refine jr_iload hz d_MD_run_95 0 rfl ?_
    exact jr_iret hz hr hlk d_MD_run_97
def fx_MD_run_b19 : Nat → Int32 → Int32 → Int32 → xh_T → Option (Int32 × xh_T)
  | 0, _, _, _, _ => none
  | n + 1, a1, a2, a3, X => if 120 ≤ a3 then
  fx_MD_run_b109 a1 X
  else xh_o a1 3 (if (X.1 208 a1.toNatClampNeg) ≤ a2 then
  fx_MD_run_b109 a1 X
  else xh_n (xh_i X 206 10 (a2 + 1)) (fun X4 : xh_T =>
  xh_o ((120 * a1) + a2) 360 (if 96 < (X4.1 207 (((120 * a1) + a2)).toNatClampNeg) then
  xh_o ((120 * a1) + a2) 360 (xh_b (fx_MD_operate a1 (X4.1 207 (((120 * a1) + a2)).toNatClampNeg) X4) (fun (r3 : Int32) (X5 : xh_T) =>
  fx_MD_run_b83 (fun z0 z1 z2 Z => fx_MD_run_b19 n z0 z1 z2 Z) a1 a2 a3 r3 X5))
  else xh_b (fx_MD_push a1 a2 X4) (fun (r7 : Int32) (X6 : xh_T) =>
  fx_MD_run_b83 (fun z0 z1 z2 Z => fx_MD_run_b19 n z0 z1 z2 Z) a1 a2 a3 r7 X6))))
set_option maxRecDepth 100000 in
set_option maxHeartbeats 4000000 in
theorem jb_MD_run_b19 {p : Program} {l : Launch} {e : Env} {s : State} {m : MethodId} {args : Array Value} {below : List Frame} {meth : Method} {c : Code} {D : va_G} {G : xh_G} (hz : xh_C p s m args c b_MD_run 5 "SpendScriptModel" D G (xh_A G s.heap.size)) (hr : meth.sig.returnType = (some .int)) (hlk : meth.locks = false) : ∀ (n : Nat) (a1 : Int32) (a2 : Int32) (a3 : Int32) (X : xh_T), xh_J p l e rm_MD_run s m args below meth c 0 0 D G (xh_A G s.heap.size) 5 (fun r X' => MQ below (xh_Qi D G (xh_A G s.heap.size) r X') args s 0 0 (xh_A G s.heap.size)) 19 [(0, .ref (G.1 206)), (1, .int a1), (2, .int a2), (3, .int a3)] [] X (fx_MD_run_b19 n a1 a2 a3 X) := by
  intro n
  induction n with
  | zero => intro a1 a2 a3 X; exact jr_none
  | succ n ih =>
    intro a1 a2 a3 X
    rw [fx_MD_run_b19]
    refine jr_iload_n hz d_MD_run_19 rfl 3 rfl ?_
    refine jr_bipush (v := 120) hz d_MD_run_20 (by decide) ?_
    refine jr_icmp_ge (tgt := 109) hz d_MD_run_22 (by decide) ?_ ?_
    · refine jr_sub (ls' := [(0, .ref (G.1 206)), (1, .int a1)]) [0, 1] rfl ?_
      exact jb_MD_run_b109 hz hr hlk a1 X
    · refine jr_iload_n hz d_MD_run_25 rfl 2 rfl ?_
      refine jr_aload_n hz d_MD_run_26 rfl 0 rfl ?_
      refine jr_getr (j := 1) (t := 208) hz lq_206 ly_206 rfl wf_MD_13 d_MD_run_27 ?_
      refine jr_iload_n hz d_MD_run_30 rfl 1 rfl ?_
      refine jr_iald (n := 3) hz lq_208 ly_208 d_MD_run_31 ?_
      refine jr_icmp_ge (tgt := 109) hz d_MD_run_32 (by decide) ?_ ?_
      · refine jr_sub (ls' := [(0, .ref (G.1 206)), (1, .int a1)]) [0, 1] rfl ?_
        exact jb_MD_run_b109 hz hr hlk a1 X
      · refine jr_aload_n hz d_MD_run_35 rfl 0 rfl ?_
        refine jr_iload_n hz d_MD_run_36 rfl 2 rfl ?_
        refine jr_iconst (v := 1) hz d_MD_run_37 (by decide) ?_
        refine jr_iadd hz d_MD_run_38 ?_
        refine jr_puti hz lq_206 ly_206 rfl wp_MD_96 d_MD_run_39 (fun X4 => ?_)
        refine jr_aload_n hz d_MD_run_42 rfl 0 rfl ?_
        refine jr_getr (j := 0) (t := 207) hz lq_206 ly_206 rfl wf_MD_7 d_MD_run_43 ?_
        refine jr_bipush (v := 120) hz d_MD_run_46 (by decide) ?_
        refine jr_iload_n hz d_MD_run_48 rfl 1 rfl ?_
        refine jr_imul hz d_MD_run_49 ?_
        refine jr_iload_n hz d_MD_run_50 rfl 2 rfl ?_
        refine jr_iadd hz d_MD_run_51 ?_
        refine jr_iald (n := 360) hz lq_207 ly_207 d_MD_run_52 ?_
        refine jr_bipush (v := 96) hz d_MD_run_53 (by decide) ?_
        refine jr_icmp_gt (tgt := 67) hz d_MD_run_55 (by decide) ?_ ?_
        · refine jr_aload_n hz d_MD_run_67 rfl 0 rfl ?_
          refine jr_iload_n hz d_MD_run_68 rfl 1 rfl ?_
          refine jr_aload_n hz d_MD_run_69 rfl 0 rfl ?_
          refine jr_getr (j := 0) (t := 207) hz lq_206 ly_206 rfl wf_MD_7 d_MD_run_70 ?_
          refine jr_bipush (v := 120) hz d_MD_run_73 (by decide) ?_
          refine jr_iload_n hz d_MD_run_75 rfl 1 rfl ?_
          refine jr_imul hz d_MD_run_76 ?_
          refine jr_iload_n hz d_MD_run_77 rfl 2 rfl ?_
          refine jr_iadd hz d_MD_run_78 ?_
          refine jr_iald (n := 360) hz lq_207 ly_207 d_MD_run_79 ?_
          refine jr_callVi (As := [.int a1, .int (X4.1 207 (((120 * a1) + a2)).toNatClampNeg)]) (a := 206) (ci := 7) (st := []) hz (cx_MD_operate l D G hz.2.2.2.2.2.2.1 a1 (X4.1 207 (((120 * a1) + a2)).toNatClampNeg) X4) (fun _ _ => ⟨lq_206, _, ly_206⟩) wv_MD_102 ⟨rfl, rfl, Nat.le_of_ble_eq_true rfl, Nat.le_of_ble_eq_true rfl⟩ ⟨Nat.zero_le _, Nat.zero_le _⟩ rfl rfl (Nat.le_of_ble_eq_true rfl) d_MD_run_80 (fun r3 X5 => ?_)
          refine jr_sub (ls' := [(0, .ref (G.1 206)), (1, .int a1), (2, .int a2), (3, .int a3)]) [0, 1, 2, 3] rfl ?_
          exact jb_MD_run_b83 hz hr hlk (fun z0 z1 z2 Z => fx_MD_run_b19 n z0 z1 z2 Z) (fun z0 z1 z2 Z => ih z0 z1 z2 Z) a1 a2 a3 r3 X5
        · refine jr_aload_n hz d_MD_run_58 rfl 0 rfl ?_
          refine jr_iload_n hz d_MD_run_59 rfl 1 rfl ?_
          refine jr_iload_n hz d_MD_run_60 rfl 2 rfl ?_
          refine jr_callVi (As := [.int a1, .int a2]) (a := 206) (ci := 7) (st := []) hz (cx_MD_push l D G hz.2.2.2.2.2.2.1 a1 a2 X4) (fun _ _ => ⟨lq_206, _, ly_206⟩) wv_MD_99 ⟨rfl, rfl, Nat.le_of_ble_eq_true rfl, Nat.le_of_ble_eq_true rfl⟩ ⟨Nat.zero_le _, Nat.zero_le _⟩ rfl rfl (Nat.le_of_ble_eq_true rfl) d_MD_run_61 (fun r7 X6 => ?_)
          refine jr_goto (tgt := 83) hz d_MD_run_64 (by decide) ?_
          refine jr_sub (ls' := [(0, .ref (G.1 206)), (1, .int a1), (2, .int a2), (3, .int a3)]) [0, 1, 2, 3] rfl ?_
          exact jb_MD_run_b83 hz hr hlk (fun z0 z1 z2 Z => fx_MD_run_b19 n z0 z1 z2 Z) (fun z0 z1 z2 Z => ih z0 z1 z2 Z) a1 a2 a3 r7 X6
def fx_MD_run (p1 : Int32) (X : xh_T) : Option (Int32 × xh_T) :=
  xh_n (xh_i X 206 6 0) (fun X1 : xh_T =>
  xh_n (xh_i X1 206 8 0) (fun X2 : xh_T =>
  xh_n (xh_i X2 206 9 0) (fun X3 : xh_T =>
  xh_n 0 (fun v1 : Int32 =>
  xh_n 0 (fun v2 : Int32 =>
  fx_MD_run_b19 sp_fuel p1 v1 v2 X3)))))
set_option maxRecDepth 100000 in
set_option maxHeartbeats 4000000 in
theorem cx_MD_run (l : Launch) (D : va_G) (G : xh_G) (hD : xh_D G) (p1 : Int32) (X : xh_T) : xh_M xh_Qi l D G y_MD_run b_MD_run 5 (some .int) rm_MD_run [.ref (G.1 206), .int p1] X (fx_MD_run p1 X) := by
  refine xh_enter (ls := [(0, .ref (G.1 206)), (1, .int p1)]) hD (by decide +kernel) (Nat.le_of_ble_eq_true rfl) rfl ?_
  intro p e s m args below meth c hz hr hlk
  unfold fx_MD_run
  refine jr_aload_n hz d_MD_run_0 rfl 0 rfl ?_
  refine jr_iconst (v := 0) hz d_MD_run_1 (by decide) ?_
  refine jr_puti hz lq_206 ly_206 rfl wp_MD_76 d_MD_run_2 (fun X1 => ?_)
  refine jr_aload_n hz d_MD_run_5 rfl 0 rfl ?_
  refine jr_iconst (v := 0) hz d_MD_run_6 (by decide) ?_
  refine jr_puti hz lq_206 ly_206 rfl wp_MD_90 d_MD_run_7 (fun X2 => ?_)
  refine jr_aload_n hz d_MD_run_10 rfl 0 rfl ?_
  refine jr_iconst (v := 0) hz d_MD_run_11 (by decide) ?_
  refine jr_puti hz lq_206 ly_206 rfl wp_MD_93 d_MD_run_12 (fun X3 => ?_)
  refine jr_iconst (v := 0) hz d_MD_run_15 (by decide) ?_
  refine jr_istore_n (lf := [(0, .ref (G.1 206)), (1, .int p1)]) hz d_MD_run_16 rfl (by decide) rfl (fun v1 => ?_)
  refine jr_iconst (v := 0) hz d_MD_run_17 (by decide) ?_
  refine jr_istore_n (lf := [(2, .int v1), (0, .ref (G.1 206)), (1, .int p1)]) hz d_MD_run_18 rfl (by decide) rfl (fun v2 => ?_)
  refine jr_sub (ls' := [(0, .ref (G.1 206)), (1, .int p1), (2, .int v1), (3, .int v2)]) [2, 3, 1, 0] rfl ?_
  exact jb_MD_run_b19 hz hr hlk sp_fuel p1 v1 v2 X3
theorem d_MD_isForm_0 : decode b_MD_isForm 0 = .ok (.aload_n 0, 1) := by decide +kernel
theorem d_MD_isForm_1 : decode b_MD_isForm 1 = .ok (.getfield 13, 3) := by decide +kernel
theorem d_MD_isForm_4 : decode b_MD_isForm 4 = .ok (.iconst 1, 1) := by decide +kernel
theorem d_MD_isForm_5 : decode b_MD_isForm 5 = .ok (.iaload, 1) := by decide +kernel
theorem d_MD_isForm_6 : decode b_MD_isForm 6 = .ok (.bipush 7, 2) := by decide +kernel
theorem d_MD_isForm_8 : decode b_MD_isForm 8 = .ok (.if_icmp .ne 44, 3) := by decide +kernel
theorem d_MD_isForm_11 : decode b_MD_isForm 11 = .ok (.aload_n 0, 1) := by decide +kernel
theorem d_MD_isForm_12 : decode b_MD_isForm 12 = .ok (.getfield 7, 3) := by decide +kernel
theorem d_MD_isForm_15 : decode b_MD_isForm 15 = .ok (.bipush 120, 2) := by decide +kernel
theorem d_MD_isForm_17 : decode b_MD_isForm 17 = .ok (.iaload, 1) := by decide +kernel
theorem d_MD_isForm_18 : decode b_MD_isForm 18 = .ok (.sipush 169, 3) := by decide +kernel
theorem d_MD_isForm_21 : decode b_MD_isForm 21 = .ok (.if_icmp .ne 31, 3) := by decide +kernel
theorem d_MD_isForm_24 : decode b_MD_isForm 24 = .ok (.aload_n 0, 1) := by decide +kernel
theorem d_MD_isForm_25 : decode b_MD_isForm 25 = .ok (.getfield 7, 3) := by decide +kernel
theorem d_MD_isForm_28 : decode b_MD_isForm 28 = .ok (.bipush 121, 2) := by decide +kernel
theorem d_MD_isForm_30 : decode b_MD_isForm 30 = .ok (.iaload, 1) := by decide +kernel
theorem d_MD_isForm_31 : decode b_MD_isForm 31 = .ok (.iconst 4, 1) := by decide +kernel
theorem d_MD_isForm_32 : decode b_MD_isForm 32 = .ok (.if_icmp .ne 20, 3) := by decide +kernel
theorem d_MD_isForm_35 : decode b_MD_isForm 35 = .ok (.aload_n 0, 1) := by decide +kernel
theorem d_MD_isForm_36 : decode b_MD_isForm 36 = .ok (.getfield 7, 3) := by decide +kernel
theorem d_MD_isForm_39 : decode b_MD_isForm 39 = .ok (.bipush 126, 2) := by decide +kernel
theorem d_MD_isForm_41 : decode b_MD_isForm 41 = .ok (.iaload, 1) := by decide +kernel
theorem d_MD_isForm_42 : decode b_MD_isForm 42 = .ok (.sipush 135, 3) := by decide +kernel
theorem d_MD_isForm_45 : decode b_MD_isForm 45 = .ok (.if_icmp .ne 7, 3) := by decide +kernel
theorem d_MD_isForm_48 : decode b_MD_isForm 48 = .ok (.iconst 1, 1) := by decide +kernel
theorem d_MD_isForm_49 : decode b_MD_isForm 49 = .ok (.goto 4, 3) := by decide +kernel
theorem d_MD_isForm_52 : decode b_MD_isForm 52 = .ok (.iconst 0, 1) := by decide +kernel
theorem d_MD_isForm_53 : decode b_MD_isForm 53 = .ok (.ireturn, 1) := by decide +kernel
abbrev rm_MD_isForm : Room := { frames := 0, cells := 0, slots := 0, locals := 0 }
def fx_MD_isForm (X : xh_T) : Option (Int32 × xh_T) :=
  xh_o 1 3 (if (X.1 208 (1 : Int32).toNatClampNeg) = 7 then
  xh_o 120 360 (if (X.1 207 (120 : Int32).toNatClampNeg) = 169 then
  xh_o 121 360 (if (X.1 207 (121 : Int32).toNatClampNeg) = 4 then
  xh_o 126 360 (if (X.1 207 (126 : Int32).toNatClampNeg) = 135 then
  some (1, X)
  else some (0, X))
  else some (0, X))
  else some (0, X))
  else some (0, X))
set_option maxRecDepth 100000 in
set_option maxHeartbeats 4000000 in
theorem cx_MD_isForm (l : Launch) (D : va_G) (G : xh_G) (hD : xh_D G) (X : xh_T) : xh_M xh_Qi l D G y_MD_isForm b_MD_isForm 1 (some .boolean) rm_MD_isForm [.ref (G.1 206)] X (fx_MD_isForm X) := by
  refine xh_enter (ls := [(0, .ref (G.1 206))]) hD (by decide +kernel) (Nat.le_of_ble_eq_true rfl) rfl ?_
  intro p e s m args below meth c hz hr hlk
  unfold fx_MD_isForm
  refine jr_aload_n hz d_MD_isForm_0 rfl 0 rfl ?_
  refine jr_getr (j := 1) (t := 208) hz lq_206 ly_206 rfl wf_MD_13 d_MD_isForm_1 ?_
  refine jr_iconst (v := 1) hz d_MD_isForm_4 (by decide) ?_
  refine jr_iald (n := 3) hz lq_208 ly_208 d_MD_isForm_5 ?_
  refine jr_bipush (v := 7) hz d_MD_isForm_6 (by decide) ?_
  refine jr_icmp_ne (tgt := 52) hz d_MD_isForm_8 (by decide) ?_ ?_
  · refine jr_iconst (v := 0) hz d_MD_isForm_52 (by decide) ?_
    exact jr_zret hz hr hlk (by decide) d_MD_isForm_53
  · refine jr_aload_n hz d_MD_isForm_11 rfl 0 rfl ?_
    refine jr_getr (j := 0) (t := 207) hz lq_206 ly_206 rfl wf_MD_7 d_MD_isForm_12 ?_
    refine jr_bipush (v := 120) hz d_MD_isForm_15 (by decide) ?_
    refine jr_iald (n := 360) hz lq_207 ly_207 d_MD_isForm_17 ?_
    refine jr_sipush (v := 169) hz d_MD_isForm_18 (by decide) ?_
    refine jr_icmp_ne (tgt := 52) hz d_MD_isForm_21 (by decide) ?_ ?_
    · refine jr_iconst (v := 0) hz d_MD_isForm_52 (by decide) ?_
      exact jr_zret hz hr hlk (by decide) d_MD_isForm_53
    · refine jr_aload_n hz d_MD_isForm_24 rfl 0 rfl ?_
      refine jr_getr (j := 0) (t := 207) hz lq_206 ly_206 rfl wf_MD_7 d_MD_isForm_25 ?_
      refine jr_bipush (v := 121) hz d_MD_isForm_28 (by decide) ?_
      refine jr_iald (n := 360) hz lq_207 ly_207 d_MD_isForm_30 ?_
      refine jr_iconst (v := 4) hz d_MD_isForm_31 (by decide) ?_
      refine jr_icmp_ne (tgt := 52) hz d_MD_isForm_32 (by decide) ?_ ?_
      · refine jr_iconst (v := 0) hz d_MD_isForm_52 (by decide) ?_
        exact jr_zret hz hr hlk (by decide) d_MD_isForm_53
      · refine jr_aload_n hz d_MD_isForm_35 rfl 0 rfl ?_
        refine jr_getr (j := 0) (t := 207) hz lq_206 ly_206 rfl wf_MD_7 d_MD_isForm_36 ?_
        refine jr_bipush (v := 126) hz d_MD_isForm_39 (by decide) ?_
        refine jr_iald (n := 360) hz lq_207 ly_207 d_MD_isForm_41 ?_
        refine jr_sipush (v := 135) hz d_MD_isForm_42 (by decide) ?_
        refine jr_icmp_ne (tgt := 52) hz d_MD_isForm_45 (by decide) ?_ ?_
        · refine jr_iconst (v := 0) hz d_MD_isForm_52 (by decide) ?_
          exact jr_zret hz hr hlk (by decide) d_MD_isForm_53
        · refine jr_iconst (v := 1) hz d_MD_isForm_48 (by decide) ?_
          refine jr_goto (tgt := 53) hz d_MD_isForm_49 (by decide) ?_
          exact jr_zret hz hr hlk (by decide) d_MD_isForm_53

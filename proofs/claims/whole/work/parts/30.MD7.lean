/-! printed by wip/whole/gen_walks.py -/
theorem d_MD_spend_0 : decode b_MD_spend 0 = .ok (.aload_n 0, 1) := by decide +kernel
theorem d_MD_spend_1 : decode b_MD_spend 1 = .ok (.iconst 0, 1) := by decide +kernel
theorem d_MD_spend_2 : decode b_MD_spend 2 = .ok (.putfield 56, 3) := by decide +kernel
theorem d_MD_spend_5 : decode b_MD_spend 5 = .ok (.aload_n 0, 1) := by decide +kernel
theorem d_MD_spend_6 : decode b_MD_spend 6 = .ok (.iconst 0, 1) := by decide +kernel
theorem d_MD_spend_7 : decode b_MD_spend 7 = .ok (.putfield 116, 3) := by decide +kernel
theorem d_MD_spend_10 : decode b_MD_spend 10 = .ok (.aload_n 0, 1) := by decide +kernel
theorem d_MD_spend_11 : decode b_MD_spend 11 = .ok (.iconst 0, 1) := by decide +kernel
theorem d_MD_spend_12 : decode b_MD_spend 12 = .ok (.putfield 43, 3) := by decide +kernel
theorem d_MD_spend_15 : decode b_MD_spend 15 = .ok (.aload_n 0, 1) := by decide +kernel
theorem d_MD_spend_16 : decode b_MD_spend 16 = .ok (.aload_n 0, 1) := by decide +kernel
theorem d_MD_spend_17 : decode b_MD_spend 17 = .ok (.iconst 0, 1) := by decide +kernel
theorem d_MD_spend_18 : decode b_MD_spend 18 = .ok (.invokevirtual 177, 3) := by decide +kernel
theorem d_MD_spend_21 : decode b_MD_spend 21 = .ok (.putfield 39, 3) := by decide +kernel
theorem d_MD_spend_24 : decode b_MD_spend 24 = .ok (.aload_n 0, 1) := by decide +kernel
theorem d_MD_spend_25 : decode b_MD_spend 25 = .ok (.getfield 39, 3) := by decide +kernel
theorem d_MD_spend_28 : decode b_MD_spend 28 = .ok (.ifCond .ne 222, 3) := by decide +kernel
theorem d_MD_spend_31 : decode b_MD_spend 31 = .ok (.aload_n 0, 1) := by decide +kernel
theorem d_MD_spend_32 : decode b_MD_spend 32 = .ok (.getfield 56, 3) := by decide +kernel
theorem d_MD_spend_35 : decode b_MD_spend 35 = .ok (.istore_n 1, 1) := by decide +kernel
theorem d_MD_spend_36 : decode b_MD_spend 36 = .ok (.iconst 0, 1) := by decide +kernel
theorem d_MD_spend_37 : decode b_MD_spend 37 = .ok (.istore_n 2, 1) := by decide +kernel
theorem d_MD_spend_38 : decode b_MD_spend 38 = .ok (.iload_n 2, 1) := by decide +kernel
theorem d_MD_spend_39 : decode b_MD_spend 39 = .ok (.bipush 33, 2) := by decide +kernel
theorem d_MD_spend_41 : decode b_MD_spend 41 = .ok (.aload_n 0, 1) := by decide +kernel
theorem d_MD_spend_42 : decode b_MD_spend 42 = .ok (.getfield 56, 3) := by decide +kernel
theorem d_MD_spend_45 : decode b_MD_spend 45 = .ok (.imul, 1) := by decide +kernel
theorem d_MD_spend_46 : decode b_MD_spend 46 = .ok (.if_icmp .ge 21, 3) := by decide +kernel
theorem d_MD_spend_49 : decode b_MD_spend 49 = .ok (.aload_n 0, 1) := by decide +kernel
theorem d_MD_spend_50 : decode b_MD_spend 50 = .ok (.getfield 22, 3) := by decide +kernel
theorem d_MD_spend_53 : decode b_MD_spend 53 = .ok (.iload_n 2, 1) := by decide +kernel
theorem d_MD_spend_54 : decode b_MD_spend 54 = .ok (.aload_n 0, 1) := by decide +kernel
theorem d_MD_spend_55 : decode b_MD_spend 55 = .ok (.getfield 16, 3) := by decide +kernel
theorem d_MD_spend_58 : decode b_MD_spend 58 = .ok (.iload_n 2, 1) := by decide +kernel
theorem d_MD_spend_59 : decode b_MD_spend 59 = .ok (.iaload, 1) := by decide +kernel
theorem d_MD_spend_60 : decode b_MD_spend 60 = .ok (.iastore, 1) := by decide +kernel
theorem d_MD_spend_61 : decode b_MD_spend 61 = .ok (.iinc 2 1, 3) := by decide +kernel
theorem d_MD_spend_64 : decode b_MD_spend 64 = .ok (.goto (-26), 3) := by decide +kernel
theorem d_MD_spend_67 : decode b_MD_spend 67 = .ok (.aload_n 0, 1) := by decide +kernel
theorem d_MD_spend_68 : decode b_MD_spend 68 = .ok (.iconst 1, 1) := by decide +kernel
theorem d_MD_spend_69 : decode b_MD_spend 69 = .ok (.putfield 43, 3) := by decide +kernel
theorem d_MD_spend_72 : decode b_MD_spend 72 = .ok (.aload_n 0, 1) := by decide +kernel
theorem d_MD_spend_73 : decode b_MD_spend 73 = .ok (.aload_n 0, 1) := by decide +kernel
theorem d_MD_spend_74 : decode b_MD_spend 74 = .ok (.iconst 1, 1) := by decide +kernel
theorem d_MD_spend_75 : decode b_MD_spend 75 = .ok (.invokevirtual 177, 3) := by decide +kernel
theorem d_MD_spend_78 : decode b_MD_spend 78 = .ok (.putfield 39, 3) := by decide +kernel
theorem d_MD_spend_81 : decode b_MD_spend 81 = .ok (.aload_n 0, 1) := by decide +kernel
theorem d_MD_spend_82 : decode b_MD_spend 82 = .ok (.getfield 39, 3) := by decide +kernel
theorem d_MD_spend_85 : decode b_MD_spend 85 = .ok (.ifCond .ne 24, 3) := by decide +kernel
theorem d_MD_spend_88 : decode b_MD_spend 88 = .ok (.aload_n 0, 1) := by decide +kernel
theorem d_MD_spend_89 : decode b_MD_spend 89 = .ok (.getfield 56, 3) := by decide +kernel
theorem d_MD_spend_92 : decode b_MD_spend 92 = .ok (.ifCond .eq 11, 3) := by decide +kernel
theorem d_MD_spend_95 : decode b_MD_spend 95 = .ok (.aload_n 0, 1) := by decide +kernel
theorem d_MD_spend_96 : decode b_MD_spend 96 = .ok (.iconst 0, 1) := by decide +kernel
theorem d_MD_spend_97 : decode b_MD_spend 97 = .ok (.invokevirtual 135, 3) := by decide +kernel
theorem d_MD_spend_100 : decode b_MD_spend 100 = .ok (.ifCond .ne 9, 3) := by decide +kernel
theorem d_MD_spend_103 : decode b_MD_spend 103 = .ok (.aload_n 0, 1) := by decide +kernel
theorem d_MD_spend_104 : decode b_MD_spend 104 = .ok (.bipush 16, 2) := by decide +kernel
theorem d_MD_spend_106 : decode b_MD_spend 106 = .ok (.putfield 39, 3) := by decide +kernel
theorem d_MD_spend_109 : decode b_MD_spend 109 = .ok (.aload_n 0, 1) := by decide +kernel
theorem d_MD_spend_110 : decode b_MD_spend 110 = .ok (.getfield 39, 3) := by decide +kernel
theorem d_MD_spend_113 : decode b_MD_spend 113 = .ok (.ifCond .ne 137, 3) := by decide +kernel
theorem d_MD_spend_116 : decode b_MD_spend 116 = .ok (.aload_n 0, 1) := by decide +kernel
theorem d_MD_spend_117 : decode b_MD_spend 117 = .ok (.invokevirtual 180, 3) := by decide +kernel
theorem d_MD_spend_120 : decode b_MD_spend 120 = .ok (.ifCond .eq 130, 3) := by decide +kernel
theorem d_MD_spend_123 : decode b_MD_spend 123 = .ok (.aload_n 0, 1) := by decide +kernel
theorem d_MD_spend_124 : decode b_MD_spend 124 = .ok (.iload_n 1, 1) := by decide +kernel
theorem d_MD_spend_125 : decode b_MD_spend 125 = .ok (.putfield 56, 3) := by decide +kernel
theorem d_MD_spend_128 : decode b_MD_spend 128 = .ok (.iconst 0, 1) := by decide +kernel
theorem d_MD_spend_129 : decode b_MD_spend 129 = .ok (.istore_n 2, 1) := by decide +kernel
theorem d_MD_spend_130 : decode b_MD_spend 130 = .ok (.iload_n 2, 1) := by decide +kernel
theorem d_MD_spend_131 : decode b_MD_spend 131 = .ok (.bipush 33, 2) := by decide +kernel
theorem d_MD_spend_133 : decode b_MD_spend 133 = .ok (.aload_n 0, 1) := by decide +kernel
theorem d_MD_spend_134 : decode b_MD_spend 134 = .ok (.getfield 56, 3) := by decide +kernel
theorem d_MD_spend_137 : decode b_MD_spend 137 = .ok (.imul, 1) := by decide +kernel
theorem d_MD_spend_138 : decode b_MD_spend 138 = .ok (.if_icmp .ge 21, 3) := by decide +kernel
theorem d_MD_spend_141 : decode b_MD_spend 141 = .ok (.aload_n 0, 1) := by decide +kernel
theorem d_MD_spend_142 : decode b_MD_spend 142 = .ok (.getfield 16, 3) := by decide +kernel
theorem d_MD_spend_145 : decode b_MD_spend 145 = .ok (.iload_n 2, 1) := by decide +kernel
theorem d_MD_spend_146 : decode b_MD_spend 146 = .ok (.aload_n 0, 1) := by decide +kernel
theorem d_MD_spend_147 : decode b_MD_spend 147 = .ok (.getfield 22, 3) := by decide +kernel
theorem d_MD_spend_150 : decode b_MD_spend 150 = .ok (.iload_n 2, 1) := by decide +kernel
theorem d_MD_spend_151 : decode b_MD_spend 151 = .ok (.iaload, 1) := by decide +kernel
theorem d_MD_spend_152 : decode b_MD_spend 152 = .ok (.iastore, 1) := by decide +kernel
theorem d_MD_spend_153 : decode b_MD_spend 153 = .ok (.iinc 2 1, 3) := by decide +kernel
theorem d_MD_spend_156 : decode b_MD_spend 156 = .ok (.goto (-26), 3) := by decide +kernel
theorem d_MD_spend_159 : decode b_MD_spend 159 = .ok (.aload_n 0, 1) := by decide +kernel
theorem d_MD_spend_160 : decode b_MD_spend 160 = .ok (.getfield 13, 3) := by decide +kernel
theorem d_MD_spend_163 : decode b_MD_spend 163 = .ok (.iconst 2, 1) := by decide +kernel
theorem d_MD_spend_164 : decode b_MD_spend 164 = .ok (.aload_n 0, 1) := by decide +kernel
theorem d_MD_spend_165 : decode b_MD_spend 165 = .ok (.iconst 0, 1) := by decide +kernel
theorem d_MD_spend_166 : decode b_MD_spend 166 = .ok (.invokevirtual 63, 3) := by decide +kernel
theorem d_MD_spend_169 : decode b_MD_spend 169 = .ok (.iastore, 1) := by decide +kernel
theorem d_MD_spend_170 : decode b_MD_spend 170 = .ok (.iconst 0, 1) := by decide +kernel
theorem d_MD_spend_171 : decode b_MD_spend 171 = .ok (.istore_n 2, 1) := by decide +kernel
theorem d_MD_spend_172 : decode b_MD_spend 172 = .ok (.iload_n 2, 1) := by decide +kernel
theorem d_MD_spend_173 : decode b_MD_spend 173 = .ok (.aload_n 0, 1) := by decide +kernel
theorem d_MD_spend_174 : decode b_MD_spend 174 = .ok (.iconst 0, 1) := by decide +kernel
theorem d_MD_spend_175 : decode b_MD_spend 175 = .ok (.invokevirtual 63, 3) := by decide +kernel
theorem d_MD_spend_178 : decode b_MD_spend 178 = .ok (.if_icmp .ge 25, 3) := by decide +kernel
theorem d_MD_spend_181 : decode b_MD_spend 181 = .ok (.aload_n 0, 1) := by decide +kernel
theorem d_MD_spend_182 : decode b_MD_spend 182 = .ok (.getfield 7, 3) := by decide +kernel
theorem d_MD_spend_185 : decode b_MD_spend 185 = .ok (.sipush 240, 3) := by decide +kernel
theorem d_MD_spend_188 : decode b_MD_spend 188 = .ok (.iload_n 2, 1) := by decide +kernel
theorem d_MD_spend_189 : decode b_MD_spend 189 = .ok (.iadd, 1) := by decide +kernel
theorem d_MD_spend_190 : decode b_MD_spend 190 = .ok (.aload_n 0, 1) := by decide +kernel
theorem d_MD_spend_191 : decode b_MD_spend 191 = .ok (.iconst 0, 1) := by decide +kernel
theorem d_MD_spend_192 : decode b_MD_spend 192 = .ok (.iload_n 2, 1) := by decide +kernel
theorem d_MD_spend_193 : decode b_MD_spend 193 = .ok (.invokevirtual 66, 3) := by decide +kernel
theorem d_MD_spend_196 : decode b_MD_spend 196 = .ok (.iastore, 1) := by decide +kernel
theorem d_MD_spend_197 : decode b_MD_spend 197 = .ok (.iinc 2 1, 3) := by decide +kernel
theorem d_MD_spend_200 : decode b_MD_spend 200 = .ok (.goto (-28), 3) := by decide +kernel
theorem d_MD_spend_203 : decode b_MD_spend 203 = .ok (.aload_n 0, 1) := by decide +kernel
theorem d_MD_spend_204 : decode b_MD_spend 204 = .ok (.iconst 1, 1) := by decide +kernel
theorem d_MD_spend_205 : decode b_MD_spend 205 = .ok (.invokevirtual 138, 3) := by decide +kernel
theorem d_MD_spend_208 : decode b_MD_spend 208 = .ok (.aload_n 0, 1) := by decide +kernel
theorem d_MD_spend_209 : decode b_MD_spend 209 = .ok (.iconst 2, 1) := by decide +kernel
theorem d_MD_spend_210 : decode b_MD_spend 210 = .ok (.putfield 43, 3) := by decide +kernel
theorem d_MD_spend_213 : decode b_MD_spend 213 = .ok (.aload_n 0, 1) := by decide +kernel
theorem d_MD_spend_214 : decode b_MD_spend 214 = .ok (.aload_n 0, 1) := by decide +kernel
theorem d_MD_spend_215 : decode b_MD_spend 215 = .ok (.iconst 2, 1) := by decide +kernel
theorem d_MD_spend_216 : decode b_MD_spend 216 = .ok (.invokevirtual 177, 3) := by decide +kernel
theorem d_MD_spend_219 : decode b_MD_spend 219 = .ok (.putfield 39, 3) := by decide +kernel
theorem d_MD_spend_222 : decode b_MD_spend 222 = .ok (.aload_n 0, 1) := by decide +kernel
theorem d_MD_spend_223 : decode b_MD_spend 223 = .ok (.getfield 39, 3) := by decide +kernel
theorem d_MD_spend_226 : decode b_MD_spend 226 = .ok (.ifCond .ne 24, 3) := by decide +kernel
theorem d_MD_spend_229 : decode b_MD_spend 229 = .ok (.aload_n 0, 1) := by decide +kernel
theorem d_MD_spend_230 : decode b_MD_spend 230 = .ok (.getfield 56, 3) := by decide +kernel
theorem d_MD_spend_233 : decode b_MD_spend 233 = .ok (.ifCond .eq 11, 3) := by decide +kernel
theorem d_MD_spend_236 : decode b_MD_spend 236 = .ok (.aload_n 0, 1) := by decide +kernel
theorem d_MD_spend_237 : decode b_MD_spend 237 = .ok (.iconst 0, 1) := by decide +kernel
theorem d_MD_spend_238 : decode b_MD_spend 238 = .ok (.invokevirtual 135, 3) := by decide +kernel
theorem d_MD_spend_241 : decode b_MD_spend 241 = .ok (.ifCond .ne 9, 3) := by decide +kernel
theorem d_MD_spend_244 : decode b_MD_spend 244 = .ok (.aload_n 0, 1) := by decide +kernel
theorem d_MD_spend_245 : decode b_MD_spend 245 = .ok (.bipush 16, 2) := by decide +kernel
theorem d_MD_spend_247 : decode b_MD_spend 247 = .ok (.putfield 39, 3) := by decide +kernel
theorem d_MD_spend_250 : decode b_MD_spend 250 = .ok (.aload_n 0, 1) := by decide +kernel
theorem d_MD_spend_251 : decode b_MD_spend 251 = .ok (.getfield 39, 3) := by decide +kernel
theorem d_MD_spend_254 : decode b_MD_spend 254 = .ok (.ifCond .ne 8, 3) := by decide +kernel
theorem d_MD_spend_257 : decode b_MD_spend 257 = .ok (.aload_n 0, 1) := by decide +kernel
theorem d_MD_spend_258 : decode b_MD_spend 258 = .ok (.iconst (-1), 1) := by decide +kernel
theorem d_MD_spend_259 : decode b_MD_spend 259 = .ok (.putfield 46, 3) := by decide +kernel
theorem d_MD_spend_262 : decode b_MD_spend 262 = .ok (.aload_n 0, 1) := by decide +kernel
theorem d_MD_spend_263 : decode b_MD_spend 263 = .ok (.getfield 39, 3) := by decide +kernel
theorem d_MD_spend_266 : decode b_MD_spend 266 = .ok (.ireturn, 1) := by decide +kernel
theorem wp_MD_43 : xh_Fp "SpendScriptModel" 43 7 15 := ⟨R_MD, F_MD, 19, t_MD, rfl, by decide, iw_MD, (sp_tb (List.mem_of_getElem? (i := 552) (by decide +kernel))), tk_MD, nk_MD, rfl, rfl⟩
theorem wv_MD_177 : xh_V "SpendScriptModel" 177 7 y_MD_run b_MD_run 5 (some .int) 1 := ⟨(sp_tb (List.mem_of_getElem? (i := 626) (by decide +kernel))), (sp_tb (List.mem_of_getElem? (i := 8) (by decide +kernel))), (sp_tb (List.mem_of_getElem? (i := 623) (by decide +kernel))), ⟨by decide +kernel, by decide +kernel, by decide +kernel⟩, (sp_tb (List.mem_of_getElem? (i := 625) (by decide +kernel))), (sp_pv (q := (y_MD_run, 19)) (List.mem_of_getElem? (i := 23) (by decide +kernel))), F_MD, 19, rfl⟩
theorem wp_MD_39 : xh_Fp "SpendScriptModel" 39 7 14 := ⟨R_MD, F_MD, 19, t_MD, rfl, by decide, iw_MD, (sp_tb (List.mem_of_getElem? (i := 551) (by decide +kernel))), tk_MD, nk_MD, rfl, rfl⟩
theorem wf_MD_39 : xh_F "SpendScriptModel" 39 7 14 := ⟨R_MD, F_MD, 19, rfl, by decide, iw_MD, (sp_tb (List.mem_of_getElem? (i := 551) (by decide +kernel)))⟩
theorem wf_MD_22 : xh_F "SpendScriptModel" 22 7 4 := ⟨R_MD, F_MD, 19, rfl, by decide, iw_MD, (sp_tb (List.mem_of_getElem? (i := 541) (by decide +kernel)))⟩
theorem wv_MD_180 : xh_V "SpendScriptModel" 180 7 y_MD_isForm b_MD_isForm 1 (some .boolean) 0 := ⟨(sp_tb (List.mem_of_getElem? (i := 744) (by decide +kernel))), (sp_tb (List.mem_of_getElem? (i := 8) (by decide +kernel))), (sp_tb (List.mem_of_getElem? (i := 741) (by decide +kernel))), ⟨by decide +kernel, by decide +kernel, by decide +kernel⟩, (sp_tb (List.mem_of_getElem? (i := 743) (by decide +kernel))), (sp_pv (q := (y_MD_isForm, 19)) (List.mem_of_getElem? (i := 48) (by decide +kernel))), F_MD, 19, rfl⟩
abbrev rm_MD_spend : Room := { frames := 8, cells := 0, slots := 0, locals := 189 }
def fx_MD_spend_b250 (X : xh_T) : Option (Int32 × xh_T) :=
  if X.1 206 14 = 0 then
  xh_n (xh_i X 206 16 (-1)) (fun X6 : xh_T =>
  some (X6.1 206 14, X6))
  else some (X.1 206 14, X)
set_option maxRecDepth 100000 in
set_option maxHeartbeats 4000000 in
theorem jb_MD_spend_b250 {p : Program} {l : Launch} {e : Env} {s : State} {m : MethodId} {args : Array Value} {below : List Frame} {meth : Method} {c : Code} {D : va_G} {G : xh_G} (hz : xh_C p s m args c b_MD_spend 3 "SpendScriptModel" D G (xh_A G s.heap.size)) (hr : meth.sig.returnType = (some .int)) (hlk : meth.locks = false) (X : xh_T) : xh_J p l e rm_MD_spend s m args below meth c 0 0 D G (xh_A G s.heap.size) 3 (fun r X' => MQ below (xh_Qi D G (xh_A G s.heap.size) r X') args s 0 0 (xh_A G s.heap.size)) 250 [(0, .ref (G.1 206))] [] X (fx_MD_spend_b250 X) := by
  unfold fx_MD_spend_b250
  refine jr_aload_n hz d_MD_spend_250 rfl 0 rfl ?_
  refine jr_geti (j := 14) hz lq_206 ly_206 rfl wf_MD_39 d_MD_spend_251 ?_
  refine jr_if_ne (tgt := 262) hz d_MD_spend_254 (by decide) ?_ ?_
  · refine jr_aload_n hz d_MD_spend_262 rfl 0 rfl ?_
    refine jr_geti (j := 14) hz lq_206 ly_206 rfl wf_MD_39 d_MD_spend_263 ?_
    exact jr_iret hz hr hlk d_MD_spend_266
  · refine jr_aload_n hz d_MD_spend_257 rfl 0 rfl ?_
    refine jr_iconst (v := (-1)) hz d_MD_spend_258 (by decide) ?_
    refine jr_puti hz lq_206 ly_206 rfl wp_MD_46 d_MD_spend_259 (fun X6 => ?_)
    refine jr_aload_n hz d_MD_spend_262 rfl 0 rfl ?_
    refine jr_geti (j := 14) hz lq_206 ly_206 rfl wf_MD_39 d_MD_spend_263 ?_
    exact jr_iret hz hr hlk d_MD_spend_266
def fx_MD_spend_b244 (X : xh_T) : Option (Int32 × xh_T) :=
  xh_n (xh_i X 206 14 16) (fun X26 : xh_T =>
  fx_MD_spend_b250 X26)
set_option maxRecDepth 100000 in
set_option maxHeartbeats 4000000 in
theorem jb_MD_spend_b244 {p : Program} {l : Launch} {e : Env} {s : State} {m : MethodId} {args : Array Value} {below : List Frame} {meth : Method} {c : Code} {D : va_G} {G : xh_G} (hz : xh_C p s m args c b_MD_spend 3 "SpendScriptModel" D G (xh_A G s.heap.size)) (hr : meth.sig.returnType = (some .int)) (hlk : meth.locks = false) (X : xh_T) : xh_J p l e rm_MD_spend s m args below meth c 0 0 D G (xh_A G s.heap.size) 3 (fun r X' => MQ below (xh_Qi D G (xh_A G s.heap.size) r X') args s 0 0 (xh_A G s.heap.size)) 244 [(0, .ref (G.1 206))] [] X (fx_MD_spend_b244 X) := by
  unfold fx_MD_spend_b244
  refine jr_aload_n hz d_MD_spend_244 rfl 0 rfl ?_
  refine jr_bipush (v := 16) hz d_MD_spend_245 (by decide) ?_
  refine jr_puti hz lq_206 ly_206 rfl wp_MD_39 d_MD_spend_247 (fun X26 => ?_)
  refine jr_sub (ls' := [(0, .ref (G.1 206))]) [0] rfl ?_
  exact jb_MD_spend_b250 hz hr hlk X26
def fx_MD_spend_b172 : Nat → Int32 → xh_T → Option (Int32 × xh_T)
  | 0, _, _ => none
  | n + 1, a2, X => xh_b (fx_MD_size 0 X) (fun (r27 : Int32) (X18 : xh_T) =>
  if r27 ≤ a2 then
  xh_b (fx_MD_pop 1 X18) (fun (_ : Unit) (X19 : xh_T) =>
  xh_n (xh_i X19 206 15 2) (fun X20 : xh_T =>
  xh_b (fx_MD_run 2 X20) (fun (r35 : Int32) (X21 : xh_T) =>
  xh_n (xh_i X21 206 14 r35) (fun X22 : xh_T =>
  if X22.1 206 14 = 0 then
  if X22.1 206 5 = 0 then
  fx_MD_spend_b244 X22
  else xh_b (fx_MD_isTrue 0 X22) (fun (r40 : Int32) (X23 : xh_T) =>
  if r40 = 0 then
  fx_MD_spend_b244 X23
  else fx_MD_spend_b250 X23)
  else fx_MD_spend_b250 X22))))
  else xh_b (fx_MD_at 0 a2 X18) (fun (r43 : Int32) (X24 : xh_T) =>
  xh_o (240 + a2) 360 (xh_n (xh_i X24 207 ((240 + a2) : Int32).toNatClampNeg r43) (fun X25 : xh_T =>
  xh_n (a2 + 1) (fun v47 : Int32 =>
  fx_MD_spend_b172 n v47 X25)))))
set_option maxRecDepth 100000 in
set_option maxHeartbeats 4000000 in
theorem jb_MD_spend_b172 {p : Program} {l : Launch} {e : Env} {s : State} {m : MethodId} {args : Array Value} {below : List Frame} {meth : Method} {c : Code} {D : va_G} {G : xh_G} (hz : xh_C p s m args c b_MD_spend 3 "SpendScriptModel" D G (xh_A G s.heap.size)) (hr : meth.sig.returnType = (some .int)) (hlk : meth.locks = false) : ∀ (n : Nat) (a2 : Int32) (X : xh_T), xh_J p l e rm_MD_spend s m args below meth c 0 0 D G (xh_A G s.heap.size) 3 (fun r X' => MQ below (xh_Qi D G (xh_A G s.heap.size) r X') args s 0 0 (xh_A G s.heap.size)) 172 [(0, .ref (G.1 206)), (2, .int a2)] [] X (fx_MD_spend_b172 n a2 X) := by
  intro n
  induction n with
  | zero => intro a2 X; exact jr_none
  | succ n ih =>
    intro a2 X
    rw [fx_MD_spend_b172]
    refine jr_iload_n hz d_MD_spend_172 rfl 1 rfl ?_
    refine jr_aload_n hz d_MD_spend_173 rfl 0 rfl ?_
    refine jr_iconst (v := 0) hz d_MD_spend_174 (by decide) ?_
    refine jr_callVi (As := [.int 0]) (a := 206) (ci := 7) (st := [.int a2]) hz (cx_MD_size l D G hz.2.2.2.2.2.2.1 0 X) (fun _ _ => ⟨lq_206, _, ly_206⟩) wv_MD_63 ⟨rfl, rfl, Nat.le_of_ble_eq_true rfl, Nat.le_of_ble_eq_true rfl⟩ ⟨Nat.zero_le _, Nat.zero_le _⟩ rfl rfl (Nat.le_of_ble_eq_true rfl) d_MD_spend_175 (fun r27 X18 => ?_)
    refine jr_icmp_ge (tgt := 203) hz d_MD_spend_178 (by decide) ?_ ?_
    · refine jr_aload_n hz d_MD_spend_203 rfl 0 rfl ?_
      refine jr_iconst (v := 1) hz d_MD_spend_204 (by decide) ?_
      refine jr_callVv (As := [.int 1]) (a := 206) (ci := 7) (st := []) hz (cx_MD_pop l D G hz.2.2.2.2.2.2.1 1 X18) (fun _ _ => ⟨lq_206, _, ly_206⟩) wv_MD_138 ⟨rfl, rfl, Nat.le_of_ble_eq_true rfl, Nat.le_of_ble_eq_true rfl⟩ ⟨Nat.zero_le _, Nat.zero_le _⟩ rfl rfl (Nat.le_of_ble_eq_true rfl) d_MD_spend_205 (fun _ X19 => ?_)
      refine jr_aload_n hz d_MD_spend_208 rfl 0 rfl ?_
      refine jr_iconst (v := 2) hz d_MD_spend_209 (by decide) ?_
      refine jr_puti hz lq_206 ly_206 rfl wp_MD_43 d_MD_spend_210 (fun X20 => ?_)
      refine jr_aload_n hz d_MD_spend_213 rfl 0 rfl ?_
      refine jr_aload_n hz d_MD_spend_214 rfl 0 rfl ?_
      refine jr_iconst (v := 2) hz d_MD_spend_215 (by decide) ?_
      refine jr_callVi (As := [.int 2]) (a := 206) (ci := 7) (st := [.ref (G.1 206)]) hz (cx_MD_run l D G hz.2.2.2.2.2.2.1 2 X20) (fun _ _ => ⟨lq_206, _, ly_206⟩) wv_MD_177 ⟨rfl, rfl, Nat.le_of_ble_eq_true rfl, Nat.le_of_ble_eq_true rfl⟩ ⟨Nat.zero_le _, Nat.zero_le _⟩ rfl rfl (Nat.le_of_ble_eq_true rfl) d_MD_spend_216 (fun r35 X21 => ?_)
      refine jr_puti hz lq_206 ly_206 rfl wp_MD_39 d_MD_spend_219 (fun X22 => ?_)
      refine jr_aload_n hz d_MD_spend_222 rfl 0 rfl ?_
      refine jr_geti (j := 14) hz lq_206 ly_206 rfl wf_MD_39 d_MD_spend_223 ?_
      refine jr_if_ne (tgt := 250) hz d_MD_spend_226 (by decide) ?_ ?_
      · refine jr_sub (ls' := [(0, .ref (G.1 206))]) [0] rfl ?_
        exact jb_MD_spend_b250 hz hr hlk X22
      · refine jr_aload_n hz d_MD_spend_229 rfl 0 rfl ?_
        refine jr_geti (j := 5) hz lq_206 ly_206 rfl wf_MD_56 d_MD_spend_230 ?_
        refine jr_if_eq (tgt := 244) hz d_MD_spend_233 (by decide) ?_ ?_
        · refine jr_sub (ls' := [(0, .ref (G.1 206))]) [0] rfl ?_
          exact jb_MD_spend_b244 hz hr hlk X22
        · refine jr_aload_n hz d_MD_spend_236 rfl 0 rfl ?_
          refine jr_iconst (v := 0) hz d_MD_spend_237 (by decide) ?_
          refine jr_callVi (As := [.int 0]) (a := 206) (ci := 7) (st := []) hz (cx_MD_isTrue l D G hz.2.2.2.2.2.2.1 0 X22) (fun _ _ => ⟨lq_206, _, ly_206⟩) wv_MD_135 ⟨rfl, rfl, Nat.le_of_ble_eq_true rfl, Nat.le_of_ble_eq_true rfl⟩ ⟨Nat.zero_le _, Nat.zero_le _⟩ rfl rfl (Nat.le_of_ble_eq_true rfl) d_MD_spend_238 (fun r40 X23 => ?_)
          refine jr_if_ne (tgt := 250) hz d_MD_spend_241 (by decide) ?_ ?_
          · refine jr_sub (ls' := [(0, .ref (G.1 206))]) [0] rfl ?_
            exact jb_MD_spend_b250 hz hr hlk X23
          · refine jr_sub (ls' := [(0, .ref (G.1 206))]) [0] rfl ?_
            exact jb_MD_spend_b244 hz hr hlk X23
    · refine jr_aload_n hz d_MD_spend_181 rfl 0 rfl ?_
      refine jr_getr (j := 0) (t := 207) hz lq_206 ly_206 rfl wf_MD_7 d_MD_spend_182 ?_
      refine jr_sipush (v := 240) hz d_MD_spend_185 (by decide) ?_
      refine jr_iload_n hz d_MD_spend_188 rfl 1 rfl ?_
      refine jr_iadd hz d_MD_spend_189 ?_
      refine jr_aload_n hz d_MD_spend_190 rfl 0 rfl ?_
      refine jr_iconst (v := 0) hz d_MD_spend_191 (by decide) ?_
      refine jr_iload_n hz d_MD_spend_192 rfl 1 rfl ?_
      refine jr_callVi (As := [.int 0, .int a2]) (a := 206) (ci := 7) (st := [.int (240 + a2), .ref (G.1 207)]) hz (cx_MD_at l D G hz.2.2.2.2.2.2.1 0 a2 X18) (fun _ _ => ⟨lq_206, _, ly_206⟩) wv_MD_66 ⟨rfl, rfl, Nat.le_of_ble_eq_true rfl, Nat.le_of_ble_eq_true rfl⟩ ⟨Nat.zero_le _, Nat.zero_le _⟩ rfl rfl (Nat.le_of_ble_eq_true rfl) d_MD_spend_193 (fun r43 X24 => ?_)
      refine jr_iast (n := 360) hz lq_207 ly_207 d_MD_spend_196 (fun X25 => ?_)
      refine jr_iinc (lf := [(0, .ref (G.1 206))]) (w := 1) hz d_MD_spend_197 1 rfl (by decide) (by decide) rfl (fun v47 => ?_)
      refine jr_goto (tgt := 172) hz d_MD_spend_200 (by decide) ?_
      refine jr_sub (ls' := [(0, .ref (G.1 206)), (2, .int v47)]) [1, 0] rfl ?_
      exact ih v47 X25
def fx_MD_spend_b130 : Nat → Int32 → xh_T → Option (Int32 × xh_T)
  | 0, _, _ => none
  | n + 1, a2, X => if (33 * X.1 206 5) ≤ a2 then
  xh_b (fx_MD_size 0 X) (fun (r21 : Int32) (X15 : xh_T) =>
  xh_o 2 3 (xh_n (xh_i X15 208 (2 : Int32).toNatClampNeg r21) (fun X16 : xh_T =>
  xh_n 0 (fun v25 : Int32 =>
  fx_MD_spend_b172 sp_fuel v25 X16))))
  else xh_o a2 1089 (xh_o a2 1089 (xh_n (xh_i X 209 (a2 : Int32).toNatClampNeg (X.1 211 a2.toNatClampNeg)) (fun X17 : xh_T =>
  xh_n (a2 + 1) (fun v26 : Int32 =>
  fx_MD_spend_b130 n v26 X17))))
set_option maxRecDepth 100000 in
set_option maxHeartbeats 4000000 in
theorem jb_MD_spend_b130 {p : Program} {l : Launch} {e : Env} {s : State} {m : MethodId} {args : Array Value} {below : List Frame} {meth : Method} {c : Code} {D : va_G} {G : xh_G} (hz : xh_C p s m args c b_MD_spend 3 "SpendScriptModel" D G (xh_A G s.heap.size)) (hr : meth.sig.returnType = (some .int)) (hlk : meth.locks = false) : ∀ (n : Nat) (a2 : Int32) (X : xh_T), xh_J p l e rm_MD_spend s m args below meth c 0 0 D G (xh_A G s.heap.size) 3 (fun r X' => MQ below (xh_Qi D G (xh_A G s.heap.size) r X') args s 0 0 (xh_A G s.heap.size)) 130 [(0, .ref (G.1 206)), (2, .int a2)] [] X (fx_MD_spend_b130 n a2 X) := by
  intro n
  induction n with
  | zero => intro a2 X; exact jr_none
  | succ n ih =>
    intro a2 X
    rw [fx_MD_spend_b130]
    refine jr_iload_n hz d_MD_spend_130 rfl 1 rfl ?_
    refine jr_bipush (v := 33) hz d_MD_spend_131 (by decide) ?_
    refine jr_aload_n hz d_MD_spend_133 rfl 0 rfl ?_
    refine jr_geti (j := 5) hz lq_206 ly_206 rfl wf_MD_56 d_MD_spend_134 ?_
    refine jr_imul hz d_MD_spend_137 ?_
    refine jr_icmp_ge (tgt := 159) hz d_MD_spend_138 (by decide) ?_ ?_
    · refine jr_aload_n hz d_MD_spend_159 rfl 0 rfl ?_
      refine jr_getr (j := 1) (t := 208) hz lq_206 ly_206 rfl wf_MD_13 d_MD_spend_160 ?_
      refine jr_iconst (v := 2) hz d_MD_spend_163 (by decide) ?_
      refine jr_aload_n hz d_MD_spend_164 rfl 0 rfl ?_
      refine jr_iconst (v := 0) hz d_MD_spend_165 (by decide) ?_
      refine jr_callVi (As := [.int 0]) (a := 206) (ci := 7) (st := [.int 2, .ref (G.1 208)]) hz (cx_MD_size l D G hz.2.2.2.2.2.2.1 0 X) (fun _ _ => ⟨lq_206, _, ly_206⟩) wv_MD_63 ⟨rfl, rfl, Nat.le_of_ble_eq_true rfl, Nat.le_of_ble_eq_true rfl⟩ ⟨Nat.zero_le _, Nat.zero_le _⟩ rfl rfl (Nat.le_of_ble_eq_true rfl) d_MD_spend_166 (fun r21 X15 => ?_)
      refine jr_iast (n := 3) hz lq_208 ly_208 d_MD_spend_169 (fun X16 => ?_)
      refine jr_iconst (v := 0) hz d_MD_spend_170 (by decide) ?_
      refine jr_istore_n (lf := [(0, .ref (G.1 206))]) hz d_MD_spend_171 rfl (by decide) rfl (fun v25 => ?_)
      refine jr_sub (ls' := [(0, .ref (G.1 206)), (2, .int v25)]) [1, 0] rfl ?_
      exact jb_MD_spend_b172 hz hr hlk sp_fuel v25 X16
    · refine jr_aload_n hz d_MD_spend_141 rfl 0 rfl ?_
      refine jr_getr (j := 2) (t := 209) hz lq_206 ly_206 rfl wf_MD_16 d_MD_spend_142 ?_
      refine jr_iload_n hz d_MD_spend_145 rfl 1 rfl ?_
      refine jr_aload_n hz d_MD_spend_146 rfl 0 rfl ?_
      refine jr_getr (j := 4) (t := 211) hz lq_206 ly_206 rfl wf_MD_22 d_MD_spend_147 ?_
      refine jr_iload_n hz d_MD_spend_150 rfl 1 rfl ?_
      refine jr_iald (n := 1089) hz lq_211 ly_211 d_MD_spend_151 ?_
      refine jr_iast (n := 1089) hz lq_209 ly_209 d_MD_spend_152 (fun X17 => ?_)
      refine jr_iinc (lf := [(0, .ref (G.1 206))]) (w := 1) hz d_MD_spend_153 1 rfl (by decide) (by decide) rfl (fun v26 => ?_)
      refine jr_goto (tgt := 130) hz d_MD_spend_156 (by decide) ?_
      refine jr_sub (ls' := [(0, .ref (G.1 206)), (2, .int v26)]) [1, 0] rfl ?_
      exact ih v26 X17
def fx_MD_spend_b109 (a1 : Int32) (X : xh_T) : Option (Int32 × xh_T) :=
  if X.1 206 14 = 0 then
  xh_b (fx_MD_isForm X) (fun (r17 : Int32) (X12 : xh_T) =>
  if r17 = 0 then
  fx_MD_spend_b250 X12
  else xh_n (xh_i X12 206 5 a1) (fun X13 : xh_T =>
  xh_n 0 (fun v20 : Int32 =>
  fx_MD_spend_b130 sp_fuel v20 X13)))
  else fx_MD_spend_b250 X
set_option maxRecDepth 100000 in
set_option maxHeartbeats 4000000 in
theorem jb_MD_spend_b109 {p : Program} {l : Launch} {e : Env} {s : State} {m : MethodId} {args : Array Value} {below : List Frame} {meth : Method} {c : Code} {D : va_G} {G : xh_G} (hz : xh_C p s m args c b_MD_spend 3 "SpendScriptModel" D G (xh_A G s.heap.size)) (hr : meth.sig.returnType = (some .int)) (hlk : meth.locks = false) (a1 : Int32) (X : xh_T) : xh_J p l e rm_MD_spend s m args below meth c 0 0 D G (xh_A G s.heap.size) 3 (fun r X' => MQ below (xh_Qi D G (xh_A G s.heap.size) r X') args s 0 0 (xh_A G s.heap.size)) 109 [(0, .ref (G.1 206)), (1, .int a1)] [] X (fx_MD_spend_b109 a1 X) := by
  unfold fx_MD_spend_b109
  refine jr_aload_n hz d_MD_spend_109 rfl 0 rfl ?_
  refine jr_geti (j := 14) hz lq_206 ly_206 rfl wf_MD_39 d_MD_spend_110 ?_
  refine jr_if_ne (tgt := 250) hz d_MD_spend_113 (by decide) ?_ ?_
  · refine jr_sub (ls' := [(0, .ref (G.1 206))]) [0] rfl ?_
    exact jb_MD_spend_b250 hz hr hlk X
  · refine jr_aload_n hz d_MD_spend_116 rfl 0 rfl ?_
    refine jr_callVi (As := []) (a := 206) (ci := 7) (st := []) hz (cx_MD_isForm l D G hz.2.2.2.2.2.2.1 X) (fun _ _ => ⟨lq_206, _, ly_206⟩) wv_MD_180 ⟨rfl, rfl, Nat.le_of_ble_eq_true rfl, Nat.le_of_ble_eq_true rfl⟩ ⟨Nat.zero_le _, Nat.zero_le _⟩ rfl rfl (Nat.le_of_ble_eq_true rfl) d_MD_spend_117 (fun r17 X12 => ?_)
    refine jr_if_eq (tgt := 250) hz d_MD_spend_120 (by decide) ?_ ?_
    · refine jr_sub (ls' := [(0, .ref (G.1 206))]) [0] rfl ?_
      exact jb_MD_spend_b250 hz hr hlk X12
    · refine jr_aload_n hz d_MD_spend_123 rfl 0 rfl ?_
      refine jr_iload_n hz d_MD_spend_124 rfl 1 rfl ?_
      refine jr_puti hz lq_206 ly_206 rfl wp_MD_56 d_MD_spend_125 (fun X13 => ?_)
      refine jr_iconst (v := 0) hz d_MD_spend_128 (by decide) ?_
      refine jr_istore_n (lf := [(0, .ref (G.1 206)), (1, .int a1)]) hz d_MD_spend_129 rfl (by decide) rfl (fun v20 => ?_)
      refine jr_sub (ls' := [(0, .ref (G.1 206)), (2, .int v20)]) [1, 0] rfl ?_
      exact jb_MD_spend_b130 hz hr hlk sp_fuel v20 X13
def fx_MD_spend_b103 (a1 : Int32) (X : xh_T) : Option (Int32 × xh_T) :=
  xh_n (xh_i X 206 14 16) (fun X14 : xh_T =>
  fx_MD_spend_b109 a1 X14)
set_option maxRecDepth 100000 in
set_option maxHeartbeats 4000000 in
theorem jb_MD_spend_b103 {p : Program} {l : Launch} {e : Env} {s : State} {m : MethodId} {args : Array Value} {below : List Frame} {meth : Method} {c : Code} {D : va_G} {G : xh_G} (hz : xh_C p s m args c b_MD_spend 3 "SpendScriptModel" D G (xh_A G s.heap.size)) (hr : meth.sig.returnType = (some .int)) (hlk : meth.locks = false) (a1 : Int32) (X : xh_T) : xh_J p l e rm_MD_spend s m args below meth c 0 0 D G (xh_A G s.heap.size) 3 (fun r X' => MQ below (xh_Qi D G (xh_A G s.heap.size) r X') args s 0 0 (xh_A G s.heap.size)) 103 [(0, .ref (G.1 206)), (1, .int a1)] [] X (fx_MD_spend_b103 a1 X) := by
  unfold fx_MD_spend_b103
  refine jr_aload_n hz d_MD_spend_103 rfl 0 rfl ?_
  refine jr_bipush (v := 16) hz d_MD_spend_104 (by decide) ?_
  refine jr_puti hz lq_206 ly_206 rfl wp_MD_39 d_MD_spend_106 (fun X14 => ?_)
  refine jr_sub (ls' := [(0, .ref (G.1 206)), (1, .int a1)]) [0, 1] rfl ?_
  exact jb_MD_spend_b109 hz hr hlk a1 X14
def fx_MD_spend_b38 : Nat → Int32 → Int32 → xh_T → Option (Int32 × xh_T)
  | 0, _, _, _ => none
  | n + 1, a1, a2, X => if (33 * X.1 206 5) ≤ a2 then
  xh_n (xh_i X 206 15 1) (fun X7 : xh_T =>
  xh_b (fx_MD_run 1 X7) (fun (r7 : Int32) (X8 : xh_T) =>
  xh_n (xh_i X8 206 14 r7) (fun X9 : xh_T =>
  if X9.1 206 14 = 0 then
  if X9.1 206 5 = 0 then
  fx_MD_spend_b103 a1 X9
  else xh_b (fx_MD_isTrue 0 X9) (fun (r12 : Int32) (X10 : xh_T) =>
  if r12 = 0 then
  fx_MD_spend_b103 a1 X10
  else fx_MD_spend_b109 a1 X10)
  else fx_MD_spend_b109 a1 X9)))
  else xh_o a2 1089 (xh_o a2 1089 (xh_n (xh_i X 211 (a2 : Int32).toNatClampNeg (X.1 209 a2.toNatClampNeg)) (fun X11 : xh_T =>
  xh_n (a2 + 1) (fun v15 : Int32 =>
  fx_MD_spend_b38 n a1 v15 X11))))
set_option maxRecDepth 100000 in
set_option maxHeartbeats 4000000 in
theorem jb_MD_spend_b38 {p : Program} {l : Launch} {e : Env} {s : State} {m : MethodId} {args : Array Value} {below : List Frame} {meth : Method} {c : Code} {D : va_G} {G : xh_G} (hz : xh_C p s m args c b_MD_spend 3 "SpendScriptModel" D G (xh_A G s.heap.size)) (hr : meth.sig.returnType = (some .int)) (hlk : meth.locks = false) : ∀ (n : Nat) (a1 : Int32) (a2 : Int32) (X : xh_T), xh_J p l e rm_MD_spend s m args below meth c 0 0 D G (xh_A G s.heap.size) 3 (fun r X' => MQ below (xh_Qi D G (xh_A G s.heap.size) r X') args s 0 0 (xh_A G s.heap.size)) 38 [(0, .ref (G.1 206)), (1, .int a1), (2, .int a2)] [] X (fx_MD_spend_b38 n a1 a2 X) := by
  intro n
  induction n with
  | zero => intro a1 a2 X; exact jr_none
  | succ n ih =>
    intro a1 a2 X
    rw [fx_MD_spend_b38]
    refine jr_iload_n hz d_MD_spend_38 rfl 2 rfl ?_
    refine jr_bipush (v := 33) hz d_MD_spend_39 (by decide) ?_
    refine jr_aload_n hz d_MD_spend_41 rfl 0 rfl ?_
    refine jr_geti (j := 5) hz lq_206 ly_206 rfl wf_MD_56 d_MD_spend_42 ?_
    refine jr_imul hz d_MD_spend_45 ?_
    refine jr_icmp_ge (tgt := 67) hz d_MD_spend_46 (by decide) ?_ ?_
    · refine jr_aload_n hz d_MD_spend_67 rfl 0 rfl ?_
      refine jr_iconst (v := 1) hz d_MD_spend_68 (by decide) ?_
      refine jr_puti hz lq_206 ly_206 rfl wp_MD_43 d_MD_spend_69 (fun X7 => ?_)
      refine jr_aload_n hz d_MD_spend_72 rfl 0 rfl ?_
      refine jr_aload_n hz d_MD_spend_73 rfl 0 rfl ?_
      refine jr_iconst (v := 1) hz d_MD_spend_74 (by decide) ?_
      refine jr_callVi (As := [.int 1]) (a := 206) (ci := 7) (st := [.ref (G.1 206)]) hz (cx_MD_run l D G hz.2.2.2.2.2.2.1 1 X7) (fun _ _ => ⟨lq_206, _, ly_206⟩) wv_MD_177 ⟨rfl, rfl, Nat.le_of_ble_eq_true rfl, Nat.le_of_ble_eq_true rfl⟩ ⟨Nat.zero_le _, Nat.zero_le _⟩ rfl rfl (Nat.le_of_ble_eq_true rfl) d_MD_spend_75 (fun r7 X8 => ?_)
      refine jr_puti hz lq_206 ly_206 rfl wp_MD_39 d_MD_spend_78 (fun X9 => ?_)
      refine jr_aload_n hz d_MD_spend_81 rfl 0 rfl ?_
      refine jr_geti (j := 14) hz lq_206 ly_206 rfl wf_MD_39 d_MD_spend_82 ?_
      refine jr_if_ne (tgt := 109) hz d_MD_spend_85 (by decide) ?_ ?_
      · refine jr_sub (ls' := [(0, .ref (G.1 206)), (1, .int a1)]) [0, 1] rfl ?_
        exact jb_MD_spend_b109 hz hr hlk a1 X9
      · refine jr_aload_n hz d_MD_spend_88 rfl 0 rfl ?_
        refine jr_geti (j := 5) hz lq_206 ly_206 rfl wf_MD_56 d_MD_spend_89 ?_
        refine jr_if_eq (tgt := 103) hz d_MD_spend_92 (by decide) ?_ ?_
        · refine jr_sub (ls' := [(0, .ref (G.1 206)), (1, .int a1)]) [0, 1] rfl ?_
          exact jb_MD_spend_b103 hz hr hlk a1 X9
        · refine jr_aload_n hz d_MD_spend_95 rfl 0 rfl ?_
          refine jr_iconst (v := 0) hz d_MD_spend_96 (by decide) ?_
          refine jr_callVi (As := [.int 0]) (a := 206) (ci := 7) (st := []) hz (cx_MD_isTrue l D G hz.2.2.2.2.2.2.1 0 X9) (fun _ _ => ⟨lq_206, _, ly_206⟩) wv_MD_135 ⟨rfl, rfl, Nat.le_of_ble_eq_true rfl, Nat.le_of_ble_eq_true rfl⟩ ⟨Nat.zero_le _, Nat.zero_le _⟩ rfl rfl (Nat.le_of_ble_eq_true rfl) d_MD_spend_97 (fun r12 X10 => ?_)
          refine jr_if_ne (tgt := 109) hz d_MD_spend_100 (by decide) ?_ ?_
          · refine jr_sub (ls' := [(0, .ref (G.1 206)), (1, .int a1)]) [0, 1] rfl ?_
            exact jb_MD_spend_b109 hz hr hlk a1 X10
          · refine jr_sub (ls' := [(0, .ref (G.1 206)), (1, .int a1)]) [0, 1] rfl ?_
            exact jb_MD_spend_b103 hz hr hlk a1 X10
    · refine jr_aload_n hz d_MD_spend_49 rfl 0 rfl ?_
      refine jr_getr (j := 4) (t := 211) hz lq_206 ly_206 rfl wf_MD_22 d_MD_spend_50 ?_
      refine jr_iload_n hz d_MD_spend_53 rfl 2 rfl ?_
      refine jr_aload_n hz d_MD_spend_54 rfl 0 rfl ?_
      refine jr_getr (j := 2) (t := 209) hz lq_206 ly_206 rfl wf_MD_16 d_MD_spend_55 ?_
      refine jr_iload_n hz d_MD_spend_58 rfl 2 rfl ?_
      refine jr_iald (n := 1089) hz lq_209 ly_209 d_MD_spend_59 ?_
      refine jr_iast (n := 1089) hz lq_211 ly_211 d_MD_spend_60 (fun X11 => ?_)
      refine jr_iinc (lf := [(0, .ref (G.1 206)), (1, .int a1)]) (w := 1) hz d_MD_spend_61 2 rfl (by decide) (by decide) rfl (fun v15 => ?_)
      refine jr_goto (tgt := 38) hz d_MD_spend_64 (by decide) ?_
      refine jr_sub (ls' := [(0, .ref (G.1 206)), (1, .int a1), (2, .int v15)]) [1, 2, 0] rfl ?_
      exact ih a1 v15 X11
def fx_MD_spend (X : xh_T) : Option (Int32 × xh_T) :=
  xh_n (xh_i X 206 5 0) (fun X1 : xh_T =>
  xh_n (xh_i X1 206 17 0) (fun X2 : xh_T =>
  xh_n (xh_i X2 206 15 0) (fun X3 : xh_T =>
  xh_b (fx_MD_run 0 X3) (fun (r1 : Int32) (X4 : xh_T) =>
  xh_n (xh_i X4 206 14 r1) (fun X5 : xh_T =>
  if X5.1 206 14 = 0 then
  xh_n (X5.1 206 5) (fun v5 : Int32 =>
  xh_n 0 (fun v6 : Int32 =>
  fx_MD_spend_b38 sp_fuel v5 v6 X5))
  else fx_MD_spend_b250 X5)))))
set_option maxRecDepth 100000 in
set_option maxHeartbeats 4000000 in
theorem cx_MD_spend (l : Launch) (D : va_G) (G : xh_G) (hD : xh_D G) (X : xh_T) : xh_M xh_Qi l D G y_MD_spend b_MD_spend 3 (some .int) rm_MD_spend [.ref (G.1 206)] X (fx_MD_spend X) := by
  refine xh_enter (ls := [(0, .ref (G.1 206))]) hD (by decide +kernel) (Nat.le_of_ble_eq_true rfl) rfl ?_
  intro p e s m args below meth c hz hr hlk
  unfold fx_MD_spend
  refine jr_aload_n hz d_MD_spend_0 rfl 0 rfl ?_
  refine jr_iconst (v := 0) hz d_MD_spend_1 (by decide) ?_
  refine jr_puti hz lq_206 ly_206 rfl wp_MD_56 d_MD_spend_2 (fun X1 => ?_)
  refine jr_aload_n hz d_MD_spend_5 rfl 0 rfl ?_
  refine jr_iconst (v := 0) hz d_MD_spend_6 (by decide) ?_
  refine jr_puti hz lq_206 ly_206 rfl wp_MD_116 d_MD_spend_7 (fun X2 => ?_)
  refine jr_aload_n hz d_MD_spend_10 rfl 0 rfl ?_
  refine jr_iconst (v := 0) hz d_MD_spend_11 (by decide) ?_
  refine jr_puti hz lq_206 ly_206 rfl wp_MD_43 d_MD_spend_12 (fun X3 => ?_)
  refine jr_aload_n hz d_MD_spend_15 rfl 0 rfl ?_
  refine jr_aload_n hz d_MD_spend_16 rfl 0 rfl ?_
  refine jr_iconst (v := 0) hz d_MD_spend_17 (by decide) ?_
  refine jr_callVi (As := [.int 0]) (a := 206) (ci := 7) (st := [.ref (G.1 206)]) hz (cx_MD_run l D G hz.2.2.2.2.2.2.1 0 X3) (fun _ _ => ⟨lq_206, _, ly_206⟩) wv_MD_177 ⟨rfl, rfl, Nat.le_of_ble_eq_true rfl, Nat.le_of_ble_eq_true rfl⟩ ⟨Nat.zero_le _, Nat.zero_le _⟩ rfl rfl (Nat.le_of_ble_eq_true rfl) d_MD_spend_18 (fun r1 X4 => ?_)
  refine jr_puti hz lq_206 ly_206 rfl wp_MD_39 d_MD_spend_21 (fun X5 => ?_)
  refine jr_aload_n hz d_MD_spend_24 rfl 0 rfl ?_
  refine jr_geti (j := 14) hz lq_206 ly_206 rfl wf_MD_39 d_MD_spend_25 ?_
  refine jr_if_ne (tgt := 250) hz d_MD_spend_28 (by decide) ?_ ?_
  · refine jr_sub (ls' := [(0, .ref (G.1 206))]) [0] rfl ?_
    exact jb_MD_spend_b250 hz hr hlk X5
  · refine jr_aload_n hz d_MD_spend_31 rfl 0 rfl ?_
    refine jr_geti (j := 5) hz lq_206 ly_206 rfl wf_MD_56 d_MD_spend_32 ?_
    refine jr_istore_n (lf := [(0, .ref (G.1 206))]) hz d_MD_spend_35 rfl (by decide) rfl (fun v5 => ?_)
    refine jr_iconst (v := 0) hz d_MD_spend_36 (by decide) ?_
    refine jr_istore_n (lf := [(1, .int v5), (0, .ref (G.1 206))]) hz d_MD_spend_37 rfl (by decide) rfl (fun v6 => ?_)
    refine jr_sub (ls' := [(0, .ref (G.1 206)), (1, .int v5), (2, .int v6)]) [2, 1, 0] rfl ?_
    exact jb_MD_spend_b38 hz hr hlk sp_fuel v5 v6 X5
theorem d_MD_result_0 : decode b_MD_result 0 = .ok (.aload_n 0, 1) := by decide +kernel
theorem d_MD_result_1 : decode b_MD_result 1 = .ok (.getfield 39, 3) := by decide +kernel
theorem d_MD_result_4 : decode b_MD_result 4 = .ok (.ireturn, 1) := by decide +kernel
abbrev rm_MD_result : Room := { frames := 0, cells := 0, slots := 0, locals := 0 }
def fx_MD_result (X : xh_T) : Option (Int32 × xh_T) :=
  some (X.1 206 14, X)
set_option maxRecDepth 100000 in
set_option maxHeartbeats 4000000 in
theorem cx_MD_result (l : Launch) (D : va_G) (G : xh_G) (hD : xh_D G) (X : xh_T) : xh_M xh_Qi l D G y_MD_result b_MD_result 1 (some .int) rm_MD_result [.ref (G.1 206)] X (fx_MD_result X) := by
  refine xh_enter (ls := [(0, .ref (G.1 206))]) hD (by decide +kernel) (Nat.le_of_ble_eq_true rfl) rfl ?_
  intro p e s m args below meth c hz hr hlk
  unfold fx_MD_result
  refine jr_aload_n hz d_MD_result_0 rfl 0 rfl ?_
  refine jr_geti (j := 14) hz lq_206 ly_206 rfl wf_MD_39 d_MD_result_1 ?_
  exact jr_iret hz hr hlk d_MD_result_4
theorem d_MD_ended_0 : decode b_MD_ended 0 = .ok (.aload_n 0, 1) := by decide +kernel
theorem d_MD_ended_1 : decode b_MD_ended 1 = .ok (.getfield 43, 3) := by decide +kernel
theorem d_MD_ended_4 : decode b_MD_ended 4 = .ok (.ireturn, 1) := by decide +kernel
theorem wf_MD_43 : xh_F "SpendScriptModel" 43 7 15 := ⟨R_MD, F_MD, 19, rfl, by decide, iw_MD, (sp_tb (List.mem_of_getElem? (i := 552) (by decide +kernel)))⟩
abbrev rm_MD_ended : Room := { frames := 0, cells := 0, slots := 0, locals := 0 }
def fx_MD_ended (X : xh_T) : Option (Int32 × xh_T) :=
  some (X.1 206 15, X)
set_option maxRecDepth 100000 in
set_option maxHeartbeats 4000000 in
theorem cx_MD_ended (l : Launch) (D : va_G) (G : xh_G) (hD : xh_D G) (X : xh_T) : xh_M xh_Qi l D G y_MD_ended b_MD_ended 1 (some .int) rm_MD_ended [.ref (G.1 206)] X (fx_MD_ended X) := by
  refine xh_enter (ls := [(0, .ref (G.1 206))]) hD (by decide +kernel) (Nat.le_of_ble_eq_true rfl) rfl ?_
  intro p e s m args below meth c hz hr hlk
  unfold fx_MD_ended
  refine jr_aload_n hz d_MD_ended_0 rfl 0 rfl ?_
  refine jr_geti (j := 15) hz lq_206 ly_206 rfl wf_MD_43 d_MD_ended_1 ?_
  exact jr_iret hz hr hlk d_MD_ended_4
theorem d_MD_faultAt_0 : decode b_MD_faultAt 0 = .ok (.aload_n 0, 1) := by decide +kernel
theorem d_MD_faultAt_1 : decode b_MD_faultAt 1 = .ok (.getfield 46, 3) := by decide +kernel
theorem d_MD_faultAt_4 : decode b_MD_faultAt 4 = .ok (.ireturn, 1) := by decide +kernel
theorem wf_MD_46 : xh_F "SpendScriptModel" 46 7 16 := ⟨R_MD, F_MD, 19, rfl, by decide, iw_MD, (sp_tb (List.mem_of_getElem? (i := 553) (by decide +kernel)))⟩
abbrev rm_MD_faultAt : Room := { frames := 0, cells := 0, slots := 0, locals := 0 }
def fx_MD_faultAt (X : xh_T) : Option (Int32 × xh_T) :=
  some (X.1 206 16, X)
set_option maxRecDepth 100000 in
set_option maxHeartbeats 4000000 in
theorem cx_MD_faultAt (l : Launch) (D : va_G) (G : xh_G) (hD : xh_D G) (X : xh_T) : xh_M xh_Qi l D G y_MD_faultAt b_MD_faultAt 1 (some .int) rm_MD_faultAt [.ref (G.1 206)] X (fx_MD_faultAt X) := by
  refine xh_enter (ls := [(0, .ref (G.1 206))]) hD (by decide +kernel) (Nat.le_of_ble_eq_true rfl) rfl ?_
  intro p e s m args below meth c hz hr hlk
  unfold fx_MD_faultAt
  refine jr_aload_n hz d_MD_faultAt_0 rfl 0 rfl ?_
  refine jr_geti (j := 16) hz lq_206 ly_206 rfl wf_MD_46 d_MD_faultAt_1 ?_
  exact jr_iret hz hr hlk d_MD_faultAt_4
theorem d_MD_done_0 : decode b_MD_done 0 = .ok (.aload_n 0, 1) := by decide +kernel
theorem d_MD_done_1 : decode b_MD_done 1 = .ok (.getfield 116, 3) := by decide +kernel
theorem d_MD_done_4 : decode b_MD_done 4 = .ok (.ireturn, 1) := by decide +kernel
abbrev rm_MD_done : Room := { frames := 0, cells := 0, slots := 0, locals := 0 }
def fx_MD_done (X : xh_T) : Option (Int32 × xh_T) :=
  some (X.1 206 17, X)
set_option maxRecDepth 100000 in
set_option maxHeartbeats 4000000 in
theorem cx_MD_done (l : Launch) (D : va_G) (G : xh_G) (hD : xh_D G) (X : xh_T) : xh_M xh_Qi l D G y_MD_done b_MD_done 1 (some .int) rm_MD_done [.ref (G.1 206)] X (fx_MD_done X) := by
  refine xh_enter (ls := [(0, .ref (G.1 206))]) hD (by decide +kernel) (Nat.le_of_ble_eq_true rfl) rfl ?_
  intro p e s m args below meth c hz hr hlk
  unfold fx_MD_done
  refine jr_aload_n hz d_MD_done_0 rfl 0 rfl ?_
  refine jr_geti (j := 17) hz lq_206 ly_206 rfl wf_MD_116 d_MD_done_1 ?_
  exact jr_iret hz hr hlk d_MD_done_4
theorem d_MD_items_0 : decode b_MD_items 0 = .ok (.aload_n 0, 1) := by decide +kernel
theorem d_MD_items_1 : decode b_MD_items 1 = .ok (.getfield 56, 3) := by decide +kernel
theorem d_MD_items_4 : decode b_MD_items 4 = .ok (.ireturn, 1) := by decide +kernel
abbrev rm_MD_items : Room := { frames := 0, cells := 0, slots := 0, locals := 0 }
def fx_MD_items (X : xh_T) : Option (Int32 × xh_T) :=
  some (X.1 206 5, X)
set_option maxRecDepth 100000 in
set_option maxHeartbeats 4000000 in
theorem cx_MD_items (l : Launch) (D : va_G) (G : xh_G) (hD : xh_D G) (X : xh_T) : xh_M xh_Qi l D G y_MD_items b_MD_items 1 (some .int) rm_MD_items [.ref (G.1 206)] X (fx_MD_items X) := by
  refine xh_enter (ls := [(0, .ref (G.1 206))]) hD (by decide +kernel) (Nat.le_of_ble_eq_true rfl) rfl ?_
  intro p e s m args below meth c hz hr hlk
  unfold fx_MD_items
  refine jr_aload_n hz d_MD_items_0 rfl 0 rfl ?_
  refine jr_geti (j := 5) hz lq_206 ly_206 rfl wf_MD_56 d_MD_items_1 ?_
  exact jr_iret hz hr hlk d_MD_items_4
theorem d_MD_itemLength_0 : decode b_MD_itemLength 0 = .ok (.iload_n 1, 1) := by decide +kernel
theorem d_MD_itemLength_1 : decode b_MD_itemLength 1 = .ok (.ifCond .lt 11, 3) := by decide +kernel
theorem d_MD_itemLength_4 : decode b_MD_itemLength 4 = .ok (.iload_n 1, 1) := by decide +kernel
theorem d_MD_itemLength_5 : decode b_MD_itemLength 5 = .ok (.aload_n 0, 1) := by decide +kernel
theorem d_MD_itemLength_6 : decode b_MD_itemLength 6 = .ok (.getfield 56, 3) := by decide +kernel
theorem d_MD_itemLength_9 : decode b_MD_itemLength 9 = .ok (.if_icmp .lt 7, 3) := by decide +kernel
theorem d_MD_itemLength_12 : decode b_MD_itemLength 12 = .ok (.iconst (-1), 1) := by decide +kernel
theorem d_MD_itemLength_13 : decode b_MD_itemLength 13 = .ok (.goto 8, 3) := by decide +kernel
theorem d_MD_itemLength_16 : decode b_MD_itemLength 16 = .ok (.aload_n 0, 1) := by decide +kernel
theorem d_MD_itemLength_17 : decode b_MD_itemLength 17 = .ok (.iload_n 1, 1) := by decide +kernel
theorem d_MD_itemLength_18 : decode b_MD_itemLength 18 = .ok (.invokevirtual 63, 3) := by decide +kernel
theorem d_MD_itemLength_21 : decode b_MD_itemLength 21 = .ok (.ireturn, 1) := by decide +kernel
abbrev rm_MD_itemLength : Room := { frames := 2, cells := 0, slots := 0, locals := 42 }
def fx_MD_itemLength_b12 (X : xh_T) : Option (Int32 × xh_T) :=
  some ((-1), X)
set_option maxRecDepth 100000 in
set_option maxHeartbeats 4000000 in
theorem jb_MD_itemLength_b12 {p : Program} {l : Launch} {e : Env} {s : State} {m : MethodId} {args : Array Value} {below : List Frame} {meth : Method} {c : Code} {D : va_G} {G : xh_G} (hz : xh_C p s m args c b_MD_itemLength 2 "SpendScriptModel" D G (xh_A G s.heap.size)) (hr : meth.sig.returnType = (some .int)) (hlk : meth.locks = false) (X : xh_T) : xh_J p l e rm_MD_itemLength s m args below meth c 0 0 D G (xh_A G s.heap.size) 2 (fun r X' => MQ below (xh_Qi D G (xh_A G s.heap.size) r X') args s 0 0 (xh_A G s.heap.size)) 12 [] [] X (fx_MD_itemLength_b12 X) := by
  unfold fx_MD_itemLength_b12
  refine jr_iconst (v := (-1)) hz d_MD_itemLength_12 (by decide) ?_
  refine jr_goto (tgt := 21) hz d_MD_itemLength_13 (by decide) ?_
  exact jr_iret hz hr hlk d_MD_itemLength_21
def fx_MD_itemLength (p1 : Int32) (X : xh_T) : Option (Int32 × xh_T) :=
  if p1 < 0 then
  fx_MD_itemLength_b12 X
  else if p1 < X.1 206 5 then
  xh_b (fx_MD_size p1 X) (fun (r1 : Int32) (X1 : xh_T) =>
  some (r1, X1))
  else fx_MD_itemLength_b12 X
set_option maxRecDepth 100000 in
set_option maxHeartbeats 4000000 in
theorem cx_MD_itemLength (l : Launch) (D : va_G) (G : xh_G) (hD : xh_D G) (p1 : Int32) (X : xh_T) : xh_M xh_Qi l D G y_MD_itemLength b_MD_itemLength 2 (some .int) rm_MD_itemLength [.ref (G.1 206), .int p1] X (fx_MD_itemLength p1 X) := by
  refine xh_enter (ls := [(0, .ref (G.1 206)), (1, .int p1)]) hD (by decide +kernel) (Nat.le_of_ble_eq_true rfl) rfl ?_
  intro p e s m args below meth c hz hr hlk
  unfold fx_MD_itemLength
  refine jr_iload_n hz d_MD_itemLength_0 rfl 1 rfl ?_
  refine jr_if_lt (tgt := 12) hz d_MD_itemLength_1 (by decide) ?_ ?_
  · refine jr_sub (ls' := []) [] rfl ?_
    exact jb_MD_itemLength_b12 hz hr hlk X
  · refine jr_iload_n hz d_MD_itemLength_4 rfl 1 rfl ?_
    refine jr_aload_n hz d_MD_itemLength_5 rfl 0 rfl ?_
    refine jr_geti (j := 5) hz lq_206 ly_206 rfl wf_MD_56 d_MD_itemLength_6 ?_
    refine jr_icmp_lt (tgt := 16) hz d_MD_itemLength_9 (by decide) ?_ ?_
    · refine jr_aload_n hz d_MD_itemLength_16 rfl 0 rfl ?_
      refine jr_iload_n hz d_MD_itemLength_17 rfl 1 rfl ?_
      refine jr_callVi (As := [.int p1]) (a := 206) (ci := 7) (st := []) hz (cx_MD_size l D G hz.2.2.2.2.2.2.1 p1 X) (fun _ _ => ⟨lq_206, _, ly_206⟩) wv_MD_63 ⟨rfl, rfl, Nat.le_of_ble_eq_true rfl, Nat.le_of_ble_eq_true rfl⟩ ⟨Nat.zero_le _, Nat.zero_le _⟩ rfl rfl (Nat.le_of_ble_eq_true rfl) d_MD_itemLength_18 (fun r1 X1 => ?_)
      exact jr_iret hz hr hlk d_MD_itemLength_21
    · refine jr_sub (ls' := []) [] rfl ?_
      exact jb_MD_itemLength_b12 hz hr hlk X
theorem d_MD_itemByte_0 : decode b_MD_itemByte 0 = .ok (.iload_n 1, 1) := by decide +kernel
theorem d_MD_itemByte_1 : decode b_MD_itemByte 1 = .ok (.ifCond .lt 24, 3) := by decide +kernel
theorem d_MD_itemByte_4 : decode b_MD_itemByte 4 = .ok (.iload_n 1, 1) := by decide +kernel
theorem d_MD_itemByte_5 : decode b_MD_itemByte 5 = .ok (.aload_n 0, 1) := by decide +kernel
theorem d_MD_itemByte_6 : decode b_MD_itemByte 6 = .ok (.getfield 56, 3) := by decide +kernel
theorem d_MD_itemByte_9 : decode b_MD_itemByte 9 = .ok (.if_icmp .ge 16, 3) := by decide +kernel
theorem d_MD_itemByte_12 : decode b_MD_itemByte 12 = .ok (.iload_n 2, 1) := by decide +kernel
theorem d_MD_itemByte_13 : decode b_MD_itemByte 13 = .ok (.ifCond .lt 12, 3) := by decide +kernel
theorem d_MD_itemByte_16 : decode b_MD_itemByte 16 = .ok (.iload_n 2, 1) := by decide +kernel
theorem d_MD_itemByte_17 : decode b_MD_itemByte 17 = .ok (.aload_n 0, 1) := by decide +kernel
theorem d_MD_itemByte_18 : decode b_MD_itemByte 18 = .ok (.iload_n 1, 1) := by decide +kernel
theorem d_MD_itemByte_19 : decode b_MD_itemByte 19 = .ok (.invokevirtual 63, 3) := by decide +kernel
theorem d_MD_itemByte_22 : decode b_MD_itemByte 22 = .ok (.if_icmp .lt 7, 3) := by decide +kernel
theorem d_MD_itemByte_25 : decode b_MD_itemByte 25 = .ok (.iconst (-1), 1) := by decide +kernel
theorem d_MD_itemByte_26 : decode b_MD_itemByte 26 = .ok (.goto 9, 3) := by decide +kernel
theorem d_MD_itemByte_29 : decode b_MD_itemByte 29 = .ok (.aload_n 0, 1) := by decide +kernel
theorem d_MD_itemByte_30 : decode b_MD_itemByte 30 = .ok (.iload_n 1, 1) := by decide +kernel
theorem d_MD_itemByte_31 : decode b_MD_itemByte 31 = .ok (.iload_n 2, 1) := by decide +kernel
theorem d_MD_itemByte_32 : decode b_MD_itemByte 32 = .ok (.invokevirtual 66, 3) := by decide +kernel
theorem d_MD_itemByte_35 : decode b_MD_itemByte 35 = .ok (.ireturn, 1) := by decide +kernel
abbrev rm_MD_itemByte : Room := { frames := 2, cells := 0, slots := 0, locals := 43 }
def fx_MD_itemByte_b25 (X : xh_T) : Option (Int32 × xh_T) :=
  some ((-1), X)
set_option maxRecDepth 100000 in
set_option maxHeartbeats 4000000 in
theorem jb_MD_itemByte_b25 {p : Program} {l : Launch} {e : Env} {s : State} {m : MethodId} {args : Array Value} {below : List Frame} {meth : Method} {c : Code} {D : va_G} {G : xh_G} (hz : xh_C p s m args c b_MD_itemByte 3 "SpendScriptModel" D G (xh_A G s.heap.size)) (hr : meth.sig.returnType = (some .int)) (hlk : meth.locks = false) (X : xh_T) : xh_J p l e rm_MD_itemByte s m args below meth c 0 0 D G (xh_A G s.heap.size) 3 (fun r X' => MQ below (xh_Qi D G (xh_A G s.heap.size) r X') args s 0 0 (xh_A G s.heap.size)) 25 [] [] X (fx_MD_itemByte_b25 X) := by
  unfold fx_MD_itemByte_b25
  refine jr_iconst (v := (-1)) hz d_MD_itemByte_25 (by decide) ?_
  refine jr_goto (tgt := 35) hz d_MD_itemByte_26 (by decide) ?_
  exact jr_iret hz hr hlk d_MD_itemByte_35
def fx_MD_itemByte (p1 : Int32) (p2 : Int32) (X : xh_T) : Option (Int32 × xh_T) :=
  if p1 < 0 then
  fx_MD_itemByte_b25 X
  else if X.1 206 5 ≤ p1 then
  fx_MD_itemByte_b25 X
  else if p2 < 0 then
  fx_MD_itemByte_b25 X
  else xh_b (fx_MD_size p1 X) (fun (r1 : Int32) (X1 : xh_T) =>
  if p2 < r1 then
  xh_b (fx_MD_at p1 p2 X1) (fun (r5 : Int32) (X2 : xh_T) =>
  some (r5, X2))
  else fx_MD_itemByte_b25 X1)
set_option maxRecDepth 100000 in
set_option maxHeartbeats 4000000 in
theorem cx_MD_itemByte (l : Launch) (D : va_G) (G : xh_G) (hD : xh_D G) (p1 : Int32) (p2 : Int32) (X : xh_T) : xh_M xh_Qi l D G y_MD_itemByte b_MD_itemByte 3 (some .int) rm_MD_itemByte [.ref (G.1 206), .int p1, .int p2] X (fx_MD_itemByte p1 p2 X) := by
  refine xh_enter (ls := [(0, .ref (G.1 206)), (1, .int p1), (2, .int p2)]) hD (by decide +kernel) (Nat.le_of_ble_eq_true rfl) rfl ?_
  intro p e s m args below meth c hz hr hlk
  unfold fx_MD_itemByte
  refine jr_iload_n hz d_MD_itemByte_0 rfl 1 rfl ?_
  refine jr_if_lt (tgt := 25) hz d_MD_itemByte_1 (by decide) ?_ ?_
  · refine jr_sub (ls' := []) [] rfl ?_
    exact jb_MD_itemByte_b25 hz hr hlk X
  · refine jr_iload_n hz d_MD_itemByte_4 rfl 1 rfl ?_
    refine jr_aload_n hz d_MD_itemByte_5 rfl 0 rfl ?_
    refine jr_geti (j := 5) hz lq_206 ly_206 rfl wf_MD_56 d_MD_itemByte_6 ?_
    refine jr_icmp_ge (tgt := 25) hz d_MD_itemByte_9 (by decide) ?_ ?_
    · refine jr_sub (ls' := []) [] rfl ?_
      exact jb_MD_itemByte_b25 hz hr hlk X
    · refine jr_iload_n hz d_MD_itemByte_12 rfl 2 rfl ?_
      refine jr_if_lt (tgt := 25) hz d_MD_itemByte_13 (by decide) ?_ ?_
      · refine jr_sub (ls' := []) [] rfl ?_
        exact jb_MD_itemByte_b25 hz hr hlk X
      · refine jr_iload_n hz d_MD_itemByte_16 rfl 2 rfl ?_
        refine jr_aload_n hz d_MD_itemByte_17 rfl 0 rfl ?_
        refine jr_iload_n hz d_MD_itemByte_18 rfl 1 rfl ?_
        refine jr_callVi (As := [.int p1]) (a := 206) (ci := 7) (st := [.int p2]) hz (cx_MD_size l D G hz.2.2.2.2.2.2.1 p1 X) (fun _ _ => ⟨lq_206, _, ly_206⟩) wv_MD_63 ⟨rfl, rfl, Nat.le_of_ble_eq_true rfl, Nat.le_of_ble_eq_true rfl⟩ ⟨Nat.zero_le _, Nat.zero_le _⟩ rfl rfl (Nat.le_of_ble_eq_true rfl) d_MD_itemByte_19 (fun r1 X1 => ?_)
        refine jr_icmp_lt (tgt := 29) hz d_MD_itemByte_22 (by decide) ?_ ?_
        · refine jr_aload_n hz d_MD_itemByte_29 rfl 0 rfl ?_
          refine jr_iload_n hz d_MD_itemByte_30 rfl 1 rfl ?_
          refine jr_iload_n hz d_MD_itemByte_31 rfl 2 rfl ?_
          refine jr_callVi (As := [.int p1, .int p2]) (a := 206) (ci := 7) (st := []) hz (cx_MD_at l D G hz.2.2.2.2.2.2.1 p1 p2 X1) (fun _ _ => ⟨lq_206, _, ly_206⟩) wv_MD_66 ⟨rfl, rfl, Nat.le_of_ble_eq_true rfl, Nat.le_of_ble_eq_true rfl⟩ ⟨Nat.zero_le _, Nat.zero_le _⟩ rfl rfl (Nat.le_of_ble_eq_true rfl) d_MD_itemByte_32 (fun r5 X2 => ?_)
          exact jr_iret hz hr hlk d_MD_itemByte_35
        · refine jr_sub (ls' := []) [] rfl ?_
          exact jb_MD_itemByte_b25 hz hr hlk X1

/-! THE CLAIM OUT OF ONE WALK OF THE LAW'S BODY. Your part is whole_start (and what it stands on); all else here is the same for every law, but numbers. -/
def R_law : String := "SpendScriptLaw"
def lw_P (b : Addr) (xs : List Int32) (args : Array Value) (s : State) : Prop := args = #[.ref b] ∧ s.IntsAt b xs ∧ xs.length ≤ 2048 ∧ (Jvm.Cond.and given_1 narrow_1).before args s = true
def lw_Q (_ : Array Value) (s : State) (o : Outcome) (t : State) : Prop := o = .returned (some (.int 1)) ∧ Framed s o t [] 600000 7302250
def lw_Z (below : List Frame) (a : Array Value) (s : State) : State → Prop := fun t => ∃ o, t.status = .running ∧ Ended t below o ∧ lw_Q a s o t
/-- the law's own end, with 1 on the stack, nothing written that was there before, its room as the claim has it -/
theorem lw_ret {p : Program} {l : Launch} {e : Env} {s : State} {m : MethodId} {below : List Frame} {meth : Method} {c : Code} {b : Nat} (hx : p.tables.exec = Jvm.exec) (hb : c.code = code) (hr : meth.sig.returnType = ret) (hlocks : meth.locks = false) {pc : Nat} {H : Heap} {ls : Array Slot} (hdg : decode code pc = .ok (.ireturn, 1)) : W p l e room_1 s m #[Value.ref b] below meth c H [] 600000 7302250 (lw_Z below #[Value.ref b] s) (F0 m pc ls [.int 1]) := by
  intro T hT X
  obtain ⟨fs, hret, hrun, hended, hW, hframe⟩ := X.leave (v := some (.int 1)) (hlocks := hlocks) (fun h => by rw [hr] at h; cases h)
  have hmeth' : T.vm.method? m = some meth := X.method'
  refine ⟨T.setFrames fs, ?_, .returned (some (.int 1)), hrun, hended, rfl, ⟨_, rfl⟩, hW, hframe⟩
  jvm_step X.here [X.here.top, hx, hb, hdg, hmeth', hr, ret, narrow_b1]
  (try refine ⟨rfl, ?_⟩); (try refine ⟨rfl, ?_⟩)
  first | (intro acts; rw [hret _ acts rfl rfl rfl]) | rw [hret _ _ rfl rfl rfl]
  exact Steps.refl _
/-- what holds at the law's entry: the machine, the code, the tables' words (any of lw_tbl by 'hts w (by decide +kernel)'), the script of L ints xs at the cell b, what the Statement gives of the start (any of its parts by flat_of_before) -/
def lw_At (p : Program) (s : State) (m : MethodId) (meth : Method) (c : Code) (b L : Nat) (xs : Nat → Int32) : Prop :=
  p.tables.exec = Jvm.exec ∧ c.code = code ∧ meth.sig.returnType = ret ∧ c.maxLocals = 4 ∧ s.vm.findClass R_law = some m.cls ∧ (∀ w ∈ lw_tbl, w.before #[Value.ref b] s = true) ∧ va_X b L xs s s.heap ∧ b < s.heap.size ∧ meth.locks = false ∧ (Jvm.Cond.and given_1 narrow_1).before #[Value.ref b] s = true
section LWR
variable {p : Program} {l : Launch} {e : Env} {R : Room} {s : State} {m : MethodId} {args : Array Value} {below : List Frame} {meth : Method} {c : Code} {cells slots : Nat} {cc : ByteArray} {nL : Nat} {own : String} {D : va_G} {G : xh_G} {A : Nat → Prop} {ρ : Type} {QQ : ρ → xh_T → State → Prop} {pc : Nat} {ls : List (Nat × Value)} {st : List Value} {X : xh_T} {k : Option (ρ × xh_T)}
theorem jr_sld {b L : Nat} {xs : Nat → Int32} {i : Int32} {K : Option (ρ × xh_T)} (hz : xh_C p s m args c cc nL own D G A) (hX : va_X b L xs s s.heap) (hbl : b < s.heap.size) (hbA : ¬ A b) (d : decode cc pc = .ok (.iaload, 1)) (kk : xh_J p l e R s m args below meth c cells slots D G A nL QQ (pc + 1) ls (.int (xs i.toNatClampNeg) :: st) X K) : xh_J p l e R s m args below meth c cells slots D G A nL QQ pc ls (.int i :: .ref b :: st) X (xh_o i L K) := fun r X' hk H locs la hP hS hL => va_sld hz.1 hz.2.1 hX hbl hbA hS (xh_o_in hk).1 d (kk r X' (xh_o_in hk).2 H locs la hP hS hL)
theorem jr_slen {b L : Nat} {xs : Nat → Int32} (hz : xh_C p s m args c cc nL own D G A) (hX : va_X b L xs s s.heap) (hbl : b < s.heap.size) (hbA : ¬ A b) (d : decode cc pc = .ok (.arraylength, 1)) (kk : xh_J p l e R s m args below meth c cells slots D G A nL QQ (pc + 1) ls (.int (nI L) :: st) X k) : xh_J p l e R s m args below meth c cells slots D G A nL QQ pc ls (.ref b :: st) X k := fun r X' hk H locs la hP hS hL => va_slen hz.1 hz.2.1 hX hbl hbA hS d (kk r X' hk H locs la hP hS hL)
theorem jr_lwret {b : Nat} {v : Int32} (hz : xh_C p s m #[Value.ref b] c code nL own D G (fun q => s.heap.size ≤ q)) (hbz : c.code = code) (hlr : meth.sig.returnType = ret) (hlk : meth.locks = false) (hcs : cells ≤ 600000 ∧ slots ≤ 7302250) (d : decode code pc = .ok (.ireturn, 1)) : xh_J p l e room_1 s m #[Value.ref b] below meth c cells slots D G (fun q => s.heap.size ≤ q) nL (fun (r : Int32) (_ : xh_T) t => r = 1 → lw_Z below #[Value.ref b] s t) pc ls [.int v] X (some (v, X)) := fun r X' hk H locs la hP hS hL => by
  obtain ⟨rfl, rfl⟩ := Prod.mk.inj (Option.some.inj hk)
  by_cases hv : v = 1
  · subst hv
    have h1 := lw_ret (p := p) (l := l) (e := e) (s := s) (m := m) (below := below) (meth := meth) (c := c) (b := b) hz.1 hbz hlr hlk (pc := pc) (H := H) (ls := la) d
    have h2 := va_forget (locs := locs) hS.2.2 (W.widen hcs.1 hcs.2 h1)
    intro T hT Y
    obtain ⟨t, a1, b1⟩ := h2 T hT Y
    exact ⟨t, a1, fun _ => b1⟩
  · intro T hT Y
    exact ⟨_, Steps.refl _, fun h => absurd h hv⟩
end LWR
theorem d_LW_law_0 : decode code 0 = .ok (.new 7, 3) := by decide +kernel
theorem d_LW_law_3 : decode code 3 = .ok (.dup, 1) := by decide +kernel
theorem d_LW_law_4 : decode code 4 = .ok (.invokespecial 9, 3) := by decide +kernel
theorem d_LW_law_7 : decode code 7 = .ok (.astore_n 1, 1) := by decide +kernel
theorem d_LW_law_8 : decode code 8 = .ok (.new 10, 3) := by decide +kernel
theorem d_LW_law_11 : decode code 11 = .ok (.dup, 1) := by decide +kernel
theorem d_LW_law_12 : decode code 12 = .ok (.invokespecial 12, 3) := by decide +kernel
theorem d_LW_law_15 : decode code 15 = .ok (.astore_n 2, 1) := by decide +kernel
theorem d_LW_law_16 : decode code 16 = .ok (.iconst 0, 1) := by decide +kernel
theorem d_LW_law_17 : decode code 17 = .ok (.istore_n 3, 1) := by decide +kernel
theorem d_LW_law_18 : decode code 18 = .ok (.iload_n 3, 1) := by decide +kernel
theorem d_LW_law_19 : decode code 19 = .ok (.aload_n 0, 1) := by decide +kernel
theorem d_LW_law_20 : decode code 20 = .ok (.arraylength, 1) := by decide +kernel
theorem d_LW_law_21 : decode code 21 = .ok (.iconst 4, 1) := by decide +kernel
theorem d_LW_law_22 : decode code 22 = .ok (.isub, 1) := by decide +kernel
theorem d_LW_law_23 : decode code 23 = .ok (.if_icmp .gt 372, 3) := by decide +kernel
theorem d_LW_law_26 : decode code 26 = .ok (.aload_n 0, 1) := by decide +kernel
theorem d_LW_law_27 : decode code 27 = .ok (.iload_n 3, 1) := by decide +kernel
theorem d_LW_law_28 : decode code 28 = .ok (.iaload, 1) := by decide +kernel
theorem d_LW_law_29 : decode code 29 = .ok (.bipush 15, 2) := by decide +kernel
theorem d_LW_law_31 : decode code 31 = .ok (.iand, 1) := by decide +kernel
theorem d_LW_law_32 : decode code 32 = .ok (.tableswitch 357 0 12 #[68, 101, 124, 147, 180, 223, 236, 249, 262, 275, 288, 301, 324], 68) := by decide +kernel
theorem d_LW_law_100 : decode code 100 = .ok (.aload_n 1, 1) := by decide +kernel
theorem d_LW_law_101 : decode code 101 = .ok (.aload_n 0, 1) := by decide +kernel
theorem d_LW_law_102 : decode code 102 = .ok (.iload_n 3, 1) := by decide +kernel
theorem d_LW_law_103 : decode code 103 = .ok (.iconst 1, 1) := by decide +kernel
theorem d_LW_law_104 : decode code 104 = .ok (.iadd, 1) := by decide +kernel
theorem d_LW_law_105 : decode code 105 = .ok (.iaload, 1) := by decide +kernel
theorem d_LW_law_106 : decode code 106 = .ok (.aload_n 0, 1) := by decide +kernel
theorem d_LW_law_107 : decode code 107 = .ok (.iload_n 3, 1) := by decide +kernel
theorem d_LW_law_108 : decode code 108 = .ok (.iconst 2, 1) := by decide +kernel
theorem d_LW_law_109 : decode code 109 = .ok (.iadd, 1) := by decide +kernel
theorem d_LW_law_110 : decode code 110 = .ok (.iaload, 1) := by decide +kernel
theorem d_LW_law_111 : decode code 111 = .ok (.invokevirtual 13, 3) := by decide +kernel
theorem d_LW_law_114 : decode code 114 = .ok (.aload_n 2, 1) := by decide +kernel
theorem d_LW_law_115 : decode code 115 = .ok (.aload_n 0, 1) := by decide +kernel
theorem d_LW_law_116 : decode code 116 = .ok (.iload_n 3, 1) := by decide +kernel
theorem d_LW_law_117 : decode code 117 = .ok (.iconst 1, 1) := by decide +kernel
theorem d_LW_law_118 : decode code 118 = .ok (.iadd, 1) := by decide +kernel
theorem d_LW_law_119 : decode code 119 = .ok (.iaload, 1) := by decide +kernel
theorem d_LW_law_120 : decode code 120 = .ok (.aload_n 0, 1) := by decide +kernel
theorem d_LW_law_121 : decode code 121 = .ok (.iload_n 3, 1) := by decide +kernel
theorem d_LW_law_122 : decode code 122 = .ok (.iconst 2, 1) := by decide +kernel
theorem d_LW_law_123 : decode code 123 = .ok (.iadd, 1) := by decide +kernel
theorem d_LW_law_124 : decode code 124 = .ok (.iaload, 1) := by decide +kernel
theorem d_LW_law_125 : decode code 125 = .ok (.invokevirtual 17, 3) := by decide +kernel
theorem d_LW_law_128 : decode code 128 = .ok (.if_icmp .eq 261, 3) := by decide +kernel
theorem d_LW_law_131 : decode code 131 = .ok (.iconst 0, 1) := by decide +kernel
theorem d_LW_law_132 : decode code 132 = .ok (.ireturn, 1) := by decide +kernel
theorem d_LW_law_133 : decode code 133 = .ok (.aload_n 1, 1) := by decide +kernel
theorem d_LW_law_134 : decode code 134 = .ok (.aload_n 0, 1) := by decide +kernel
theorem d_LW_law_135 : decode code 135 = .ok (.iload_n 3, 1) := by decide +kernel
theorem d_LW_law_136 : decode code 136 = .ok (.iconst 1, 1) := by decide +kernel
theorem d_LW_law_137 : decode code 137 = .ok (.iadd, 1) := by decide +kernel
theorem d_LW_law_138 : decode code 138 = .ok (.iaload, 1) := by decide +kernel
theorem d_LW_law_139 : decode code 139 = .ok (.invokevirtual 18, 3) := by decide +kernel
theorem d_LW_law_142 : decode code 142 = .ok (.aload_n 2, 1) := by decide +kernel
theorem d_LW_law_143 : decode code 143 = .ok (.aload_n 0, 1) := by decide +kernel
theorem d_LW_law_144 : decode code 144 = .ok (.iload_n 3, 1) := by decide +kernel
theorem d_LW_law_145 : decode code 145 = .ok (.iconst 1, 1) := by decide +kernel
theorem d_LW_law_146 : decode code 146 = .ok (.iadd, 1) := by decide +kernel
theorem d_LW_law_147 : decode code 147 = .ok (.iaload, 1) := by decide +kernel
theorem d_LW_law_148 : decode code 148 = .ok (.invokevirtual 22, 3) := by decide +kernel
theorem d_LW_law_151 : decode code 151 = .ok (.if_icmp .eq 238, 3) := by decide +kernel
theorem d_LW_law_154 : decode code 154 = .ok (.iconst 0, 1) := by decide +kernel
theorem d_LW_law_155 : decode code 155 = .ok (.ireturn, 1) := by decide +kernel
theorem d_LW_law_156 : decode code 156 = .ok (.aload_n 1, 1) := by decide +kernel
theorem d_LW_law_157 : decode code 157 = .ok (.aload_n 0, 1) := by decide +kernel
theorem d_LW_law_158 : decode code 158 = .ok (.iload_n 3, 1) := by decide +kernel
theorem d_LW_law_159 : decode code 159 = .ok (.iconst 1, 1) := by decide +kernel
theorem d_LW_law_160 : decode code 160 = .ok (.iadd, 1) := by decide +kernel
theorem d_LW_law_161 : decode code 161 = .ok (.iaload, 1) := by decide +kernel
theorem d_LW_law_162 : decode code 162 = .ok (.invokevirtual 23, 3) := by decide +kernel
theorem d_LW_law_165 : decode code 165 = .ok (.aload_n 2, 1) := by decide +kernel
theorem d_LW_law_166 : decode code 166 = .ok (.aload_n 0, 1) := by decide +kernel
theorem d_LW_law_167 : decode code 167 = .ok (.iload_n 3, 1) := by decide +kernel
theorem d_LW_law_168 : decode code 168 = .ok (.iconst 1, 1) := by decide +kernel
theorem d_LW_law_169 : decode code 169 = .ok (.iadd, 1) := by decide +kernel
theorem d_LW_law_170 : decode code 170 = .ok (.iaload, 1) := by decide +kernel
theorem d_LW_law_171 : decode code 171 = .ok (.invokevirtual 27, 3) := by decide +kernel
theorem d_LW_law_174 : decode code 174 = .ok (.if_icmp .eq 215, 3) := by decide +kernel
theorem d_LW_law_177 : decode code 177 = .ok (.iconst 0, 1) := by decide +kernel
theorem d_LW_law_178 : decode code 178 = .ok (.ireturn, 1) := by decide +kernel
theorem d_LW_law_179 : decode code 179 = .ok (.aload_n 1, 1) := by decide +kernel
theorem d_LW_law_180 : decode code 180 = .ok (.aload_n 0, 1) := by decide +kernel
theorem d_LW_law_181 : decode code 181 = .ok (.iload_n 3, 1) := by decide +kernel
theorem d_LW_law_182 : decode code 182 = .ok (.iconst 1, 1) := by decide +kernel
theorem d_LW_law_183 : decode code 183 = .ok (.iadd, 1) := by decide +kernel
theorem d_LW_law_184 : decode code 184 = .ok (.iaload, 1) := by decide +kernel
theorem d_LW_law_185 : decode code 185 = .ok (.aload_n 0, 1) := by decide +kernel
theorem d_LW_law_186 : decode code 186 = .ok (.iload_n 3, 1) := by decide +kernel
theorem d_LW_law_187 : decode code 187 = .ok (.iconst 2, 1) := by decide +kernel
theorem d_LW_law_188 : decode code 188 = .ok (.iadd, 1) := by decide +kernel
theorem d_LW_law_189 : decode code 189 = .ok (.iaload, 1) := by decide +kernel
theorem d_LW_law_190 : decode code 190 = .ok (.invokevirtual 28, 3) := by decide +kernel
theorem d_LW_law_193 : decode code 193 = .ok (.aload_n 2, 1) := by decide +kernel
theorem d_LW_law_194 : decode code 194 = .ok (.aload_n 0, 1) := by decide +kernel
theorem d_LW_law_195 : decode code 195 = .ok (.iload_n 3, 1) := by decide +kernel
theorem d_LW_law_196 : decode code 196 = .ok (.iconst 1, 1) := by decide +kernel
theorem d_LW_law_197 : decode code 197 = .ok (.iadd, 1) := by decide +kernel
theorem d_LW_law_198 : decode code 198 = .ok (.iaload, 1) := by decide +kernel
theorem d_LW_law_199 : decode code 199 = .ok (.aload_n 0, 1) := by decide +kernel
theorem d_LW_law_200 : decode code 200 = .ok (.iload_n 3, 1) := by decide +kernel
theorem d_LW_law_201 : decode code 201 = .ok (.iconst 2, 1) := by decide +kernel
theorem d_LW_law_202 : decode code 202 = .ok (.iadd, 1) := by decide +kernel
theorem d_LW_law_203 : decode code 203 = .ok (.iaload, 1) := by decide +kernel
theorem d_LW_law_204 : decode code 204 = .ok (.invokevirtual 31, 3) := by decide +kernel
theorem d_LW_law_207 : decode code 207 = .ok (.if_icmp .eq 182, 3) := by decide +kernel
theorem d_LW_law_210 : decode code 210 = .ok (.iconst 0, 1) := by decide +kernel
theorem d_LW_law_211 : decode code 211 = .ok (.ireturn, 1) := by decide +kernel
theorem d_LW_law_212 : decode code 212 = .ok (.aload_n 1, 1) := by decide +kernel
theorem d_LW_law_213 : decode code 213 = .ok (.aload_n 0, 1) := by decide +kernel
theorem d_LW_law_214 : decode code 214 = .ok (.iload_n 3, 1) := by decide +kernel
theorem d_LW_law_215 : decode code 215 = .ok (.iconst 1, 1) := by decide +kernel
theorem d_LW_law_216 : decode code 216 = .ok (.iadd, 1) := by decide +kernel
theorem d_LW_law_217 : decode code 217 = .ok (.iaload, 1) := by decide +kernel
theorem d_LW_law_218 : decode code 218 = .ok (.aload_n 0, 1) := by decide +kernel
theorem d_LW_law_219 : decode code 219 = .ok (.iload_n 3, 1) := by decide +kernel
theorem d_LW_law_220 : decode code 220 = .ok (.iconst 2, 1) := by decide +kernel
theorem d_LW_law_221 : decode code 221 = .ok (.iadd, 1) := by decide +kernel
theorem d_LW_law_222 : decode code 222 = .ok (.iaload, 1) := by decide +kernel
theorem d_LW_law_223 : decode code 223 = .ok (.aload_n 0, 1) := by decide +kernel
theorem d_LW_law_224 : decode code 224 = .ok (.iload_n 3, 1) := by decide +kernel
theorem d_LW_law_225 : decode code 225 = .ok (.iconst 3, 1) := by decide +kernel
theorem d_LW_law_226 : decode code 226 = .ok (.iadd, 1) := by decide +kernel
theorem d_LW_law_227 : decode code 227 = .ok (.iaload, 1) := by decide +kernel
theorem d_LW_law_228 : decode code 228 = .ok (.invokevirtual 32, 3) := by decide +kernel
theorem d_LW_law_231 : decode code 231 = .ok (.aload_n 2, 1) := by decide +kernel
theorem d_LW_law_232 : decode code 232 = .ok (.aload_n 0, 1) := by decide +kernel
theorem d_LW_law_233 : decode code 233 = .ok (.iload_n 3, 1) := by decide +kernel
theorem d_LW_law_234 : decode code 234 = .ok (.iconst 1, 1) := by decide +kernel
theorem d_LW_law_235 : decode code 235 = .ok (.iadd, 1) := by decide +kernel
theorem d_LW_law_236 : decode code 236 = .ok (.iaload, 1) := by decide +kernel
theorem d_LW_law_237 : decode code 237 = .ok (.aload_n 0, 1) := by decide +kernel
theorem d_LW_law_238 : decode code 238 = .ok (.iload_n 3, 1) := by decide +kernel
theorem d_LW_law_239 : decode code 239 = .ok (.iconst 2, 1) := by decide +kernel
theorem d_LW_law_240 : decode code 240 = .ok (.iadd, 1) := by decide +kernel
theorem d_LW_law_241 : decode code 241 = .ok (.iaload, 1) := by decide +kernel
theorem d_LW_law_242 : decode code 242 = .ok (.aload_n 0, 1) := by decide +kernel
theorem d_LW_law_243 : decode code 243 = .ok (.iload_n 3, 1) := by decide +kernel
theorem d_LW_law_244 : decode code 244 = .ok (.iconst 3, 1) := by decide +kernel
theorem d_LW_law_245 : decode code 245 = .ok (.iadd, 1) := by decide +kernel
theorem d_LW_law_246 : decode code 246 = .ok (.iaload, 1) := by decide +kernel
theorem d_LW_law_247 : decode code 247 = .ok (.invokevirtual 36, 3) := by decide +kernel
theorem d_LW_law_250 : decode code 250 = .ok (.if_icmp .eq 139, 3) := by decide +kernel
theorem d_LW_law_253 : decode code 253 = .ok (.iconst 0, 1) := by decide +kernel
theorem d_LW_law_254 : decode code 254 = .ok (.ireturn, 1) := by decide +kernel
theorem d_LW_law_255 : decode code 255 = .ok (.aload_n 1, 1) := by decide +kernel
theorem d_LW_law_256 : decode code 256 = .ok (.invokevirtual 37, 3) := by decide +kernel
theorem d_LW_law_259 : decode code 259 = .ok (.aload_n 2, 1) := by decide +kernel
theorem d_LW_law_260 : decode code 260 = .ok (.invokevirtual 41, 3) := by decide +kernel
theorem d_LW_law_263 : decode code 263 = .ok (.if_icmp .eq 126, 3) := by decide +kernel
theorem d_LW_law_266 : decode code 266 = .ok (.iconst 0, 1) := by decide +kernel
theorem d_LW_law_267 : decode code 267 = .ok (.ireturn, 1) := by decide +kernel
theorem d_LW_law_268 : decode code 268 = .ok (.aload_n 1, 1) := by decide +kernel
theorem d_LW_law_269 : decode code 269 = .ok (.invokevirtual 42, 3) := by decide +kernel
theorem d_LW_law_272 : decode code 272 = .ok (.aload_n 2, 1) := by decide +kernel
theorem d_LW_law_273 : decode code 273 = .ok (.invokevirtual 45, 3) := by decide +kernel
theorem d_LW_law_276 : decode code 276 = .ok (.if_icmp .eq 113, 3) := by decide +kernel
theorem d_LW_law_279 : decode code 279 = .ok (.iconst 0, 1) := by decide +kernel
theorem d_LW_law_280 : decode code 280 = .ok (.ireturn, 1) := by decide +kernel
theorem d_LW_law_281 : decode code 281 = .ok (.aload_n 1, 1) := by decide +kernel
theorem d_LW_law_282 : decode code 282 = .ok (.invokevirtual 46, 3) := by decide +kernel
theorem d_LW_law_285 : decode code 285 = .ok (.aload_n 2, 1) := by decide +kernel
theorem d_LW_law_286 : decode code 286 = .ok (.invokevirtual 49, 3) := by decide +kernel
theorem d_LW_law_289 : decode code 289 = .ok (.if_icmp .eq 100, 3) := by decide +kernel
theorem d_LW_law_292 : decode code 292 = .ok (.iconst 0, 1) := by decide +kernel
theorem d_LW_law_293 : decode code 293 = .ok (.ireturn, 1) := by decide +kernel
theorem d_LW_law_294 : decode code 294 = .ok (.aload_n 1, 1) := by decide +kernel
theorem d_LW_law_295 : decode code 295 = .ok (.invokevirtual 50, 3) := by decide +kernel
theorem d_LW_law_298 : decode code 298 = .ok (.aload_n 2, 1) := by decide +kernel
theorem d_LW_law_299 : decode code 299 = .ok (.invokevirtual 53, 3) := by decide +kernel
theorem d_LW_law_302 : decode code 302 = .ok (.if_icmp .eq 87, 3) := by decide +kernel
theorem d_LW_law_305 : decode code 305 = .ok (.iconst 0, 1) := by decide +kernel
theorem d_LW_law_306 : decode code 306 = .ok (.ireturn, 1) := by decide +kernel
theorem d_LW_law_307 : decode code 307 = .ok (.aload_n 1, 1) := by decide +kernel
theorem d_LW_law_308 : decode code 308 = .ok (.invokevirtual 54, 3) := by decide +kernel
theorem d_LW_law_311 : decode code 311 = .ok (.aload_n 2, 1) := by decide +kernel
theorem d_LW_law_312 : decode code 312 = .ok (.invokevirtual 57, 3) := by decide +kernel
theorem d_LW_law_315 : decode code 315 = .ok (.if_icmp .eq 74, 3) := by decide +kernel
theorem d_LW_law_318 : decode code 318 = .ok (.iconst 0, 1) := by decide +kernel
theorem d_LW_law_319 : decode code 319 = .ok (.ireturn, 1) := by decide +kernel
theorem d_LW_law_320 : decode code 320 = .ok (.aload_n 1, 1) := by decide +kernel
theorem d_LW_law_321 : decode code 321 = .ok (.invokevirtual 58, 3) := by decide +kernel
theorem d_LW_law_324 : decode code 324 = .ok (.aload_n 2, 1) := by decide +kernel
theorem d_LW_law_325 : decode code 325 = .ok (.invokevirtual 61, 3) := by decide +kernel
theorem d_LW_law_328 : decode code 328 = .ok (.if_icmp .eq 61, 3) := by decide +kernel
theorem d_LW_law_331 : decode code 331 = .ok (.iconst 0, 1) := by decide +kernel
theorem d_LW_law_332 : decode code 332 = .ok (.ireturn, 1) := by decide +kernel
theorem d_LW_law_333 : decode code 333 = .ok (.aload_n 1, 1) := by decide +kernel
theorem d_LW_law_334 : decode code 334 = .ok (.aload_n 0, 1) := by decide +kernel
theorem d_LW_law_335 : decode code 335 = .ok (.iload_n 3, 1) := by decide +kernel
theorem d_LW_law_336 : decode code 336 = .ok (.iconst 1, 1) := by decide +kernel
theorem d_LW_law_337 : decode code 337 = .ok (.iadd, 1) := by decide +kernel
theorem d_LW_law_338 : decode code 338 = .ok (.iaload, 1) := by decide +kernel
theorem d_LW_law_339 : decode code 339 = .ok (.invokevirtual 62, 3) := by decide +kernel
theorem d_LW_law_342 : decode code 342 = .ok (.aload_n 2, 1) := by decide +kernel
theorem d_LW_law_343 : decode code 343 = .ok (.aload_n 0, 1) := by decide +kernel
theorem d_LW_law_344 : decode code 344 = .ok (.iload_n 3, 1) := by decide +kernel
theorem d_LW_law_345 : decode code 345 = .ok (.iconst 1, 1) := by decide +kernel
theorem d_LW_law_346 : decode code 346 = .ok (.iadd, 1) := by decide +kernel
theorem d_LW_law_347 : decode code 347 = .ok (.iaload, 1) := by decide +kernel
theorem d_LW_law_348 : decode code 348 = .ok (.invokevirtual 65, 3) := by decide +kernel
theorem d_LW_law_351 : decode code 351 = .ok (.if_icmp .eq 38, 3) := by decide +kernel
theorem d_LW_law_354 : decode code 354 = .ok (.iconst 0, 1) := by decide +kernel
theorem d_LW_law_355 : decode code 355 = .ok (.ireturn, 1) := by decide +kernel
theorem d_LW_law_356 : decode code 356 = .ok (.aload_n 1, 1) := by decide +kernel
theorem d_LW_law_357 : decode code 357 = .ok (.aload_n 0, 1) := by decide +kernel
theorem d_LW_law_358 : decode code 358 = .ok (.iload_n 3, 1) := by decide +kernel
theorem d_LW_law_359 : decode code 359 = .ok (.iconst 1, 1) := by decide +kernel
theorem d_LW_law_360 : decode code 360 = .ok (.iadd, 1) := by decide +kernel
theorem d_LW_law_361 : decode code 361 = .ok (.iaload, 1) := by decide +kernel
theorem d_LW_law_362 : decode code 362 = .ok (.aload_n 0, 1) := by decide +kernel
theorem d_LW_law_363 : decode code 363 = .ok (.iload_n 3, 1) := by decide +kernel
theorem d_LW_law_364 : decode code 364 = .ok (.iconst 2, 1) := by decide +kernel
theorem d_LW_law_365 : decode code 365 = .ok (.iadd, 1) := by decide +kernel
theorem d_LW_law_366 : decode code 366 = .ok (.iaload, 1) := by decide +kernel
theorem d_LW_law_367 : decode code 367 = .ok (.invokevirtual 66, 3) := by decide +kernel
theorem d_LW_law_370 : decode code 370 = .ok (.aload_n 2, 1) := by decide +kernel
theorem d_LW_law_371 : decode code 371 = .ok (.aload_n 0, 1) := by decide +kernel
theorem d_LW_law_372 : decode code 372 = .ok (.iload_n 3, 1) := by decide +kernel
theorem d_LW_law_373 : decode code 373 = .ok (.iconst 1, 1) := by decide +kernel
theorem d_LW_law_374 : decode code 374 = .ok (.iadd, 1) := by decide +kernel
theorem d_LW_law_375 : decode code 375 = .ok (.iaload, 1) := by decide +kernel
theorem d_LW_law_376 : decode code 376 = .ok (.aload_n 0, 1) := by decide +kernel
theorem d_LW_law_377 : decode code 377 = .ok (.iload_n 3, 1) := by decide +kernel
theorem d_LW_law_378 : decode code 378 = .ok (.iconst 2, 1) := by decide +kernel
theorem d_LW_law_379 : decode code 379 = .ok (.iadd, 1) := by decide +kernel
theorem d_LW_law_380 : decode code 380 = .ok (.iaload, 1) := by decide +kernel
theorem d_LW_law_381 : decode code 381 = .ok (.invokevirtual 70, 3) := by decide +kernel
theorem d_LW_law_384 : decode code 384 = .ok (.if_icmp .eq 5, 3) := by decide +kernel
theorem d_LW_law_387 : decode code 387 = .ok (.iconst 0, 1) := by decide +kernel
theorem d_LW_law_388 : decode code 388 = .ok (.ireturn, 1) := by decide +kernel
theorem d_LW_law_389 : decode code 389 = .ok (.iinc 3 4, 3) := by decide +kernel
theorem d_LW_law_392 : decode code 392 = .ok (.goto (-374), 3) := by decide +kernel
theorem d_LW_law_395 : decode code 395 = .ok (.iconst 1, 1) := by decide +kernel
theorem d_LW_law_396 : decode code 396 = .ok (.ireturn, 1) := by decide +kernel
theorem wv_LW_13 : xh_V "SpendScriptLaw" 13 6 y_SS_feed b_SS_feed 3 (some .boolean) 2 := ⟨(sp_tb (List.mem_of_getElem? (i := 162) (by decide +kernel))), (sp_tb (List.mem_of_getElem? (i := 1) (by decide +kernel))), (sp_tb (List.mem_of_getElem? (i := 159) (by decide +kernel))), ⟨by decide +kernel, by decide +kernel, by decide +kernel⟩, (sp_tb (List.mem_of_getElem? (i := 160) (by decide +kernel))), (sp_tb (List.mem_of_getElem? (i := 161) (by decide +kernel))), F_SS, 10, rfl⟩
theorem wv_LW_17 : xh_V "SpendScriptLaw" 17 7 y_MD_feed b_MD_feed 3 (some .boolean) 2 := ⟨(sp_tb (List.mem_of_getElem? (i := 599) (by decide +kernel))), (sp_tb (List.mem_of_getElem? (i := 8) (by decide +kernel))), (sp_tb (List.mem_of_getElem? (i := 596) (by decide +kernel))), ⟨by decide +kernel, by decide +kernel, by decide +kernel⟩, (sp_tb (List.mem_of_getElem? (i := 597) (by decide +kernel))), (sp_tb (List.mem_of_getElem? (i := 598) (by decide +kernel))), F_MD, 19, rfl⟩
theorem wv_LW_18 : xh_V "SpendScriptLaw" 18 6 y_SS_length b_SS_length 2 (some .int) 1 := ⟨(sp_tb (List.mem_of_getElem? (i := 177) (by decide +kernel))), (sp_tb (List.mem_of_getElem? (i := 1) (by decide +kernel))), (sp_tb (List.mem_of_getElem? (i := 174) (by decide +kernel))), ⟨by decide +kernel, by decide +kernel, by decide +kernel⟩, (sp_tb (List.mem_of_getElem? (i := 175) (by decide +kernel))), (sp_tb (List.mem_of_getElem? (i := 176) (by decide +kernel))), F_SS, 10, rfl⟩
theorem wv_LW_22 : xh_V "SpendScriptLaw" 22 7 y_MD_length b_MD_length 2 (some .int) 1 := ⟨(sp_tb (List.mem_of_getElem? (i := 606) (by decide +kernel))), (sp_tb (List.mem_of_getElem? (i := 8) (by decide +kernel))), (sp_tb (List.mem_of_getElem? (i := 603) (by decide +kernel))), ⟨by decide +kernel, by decide +kernel, by decide +kernel⟩, (sp_tb (List.mem_of_getElem? (i := 604) (by decide +kernel))), (sp_tb (List.mem_of_getElem? (i := 605) (by decide +kernel))), F_MD, 19, rfl⟩
theorem wv_LW_23 : xh_V "SpendScriptLaw" 23 6 y_SS_clear b_SS_clear 2 (some .boolean) 1 := ⟨(sp_tb (List.mem_of_getElem? (i := 185) (by decide +kernel))), (sp_tb (List.mem_of_getElem? (i := 1) (by decide +kernel))), (sp_tb (List.mem_of_getElem? (i := 182) (by decide +kernel))), ⟨by decide +kernel, by decide +kernel, by decide +kernel⟩, (sp_tb (List.mem_of_getElem? (i := 183) (by decide +kernel))), (sp_tb (List.mem_of_getElem? (i := 184) (by decide +kernel))), F_SS, 10, rfl⟩
theorem wv_LW_27 : xh_V "SpendScriptLaw" 27 7 y_MD_clear b_MD_clear 2 (some .boolean) 1 := ⟨(sp_tb (List.mem_of_getElem? (i := 610) (by decide +kernel))), (sp_tb (List.mem_of_getElem? (i := 8) (by decide +kernel))), (sp_tb (List.mem_of_getElem? (i := 607) (by decide +kernel))), ⟨by decide +kernel, by decide +kernel, by decide +kernel⟩, (sp_tb (List.mem_of_getElem? (i := 608) (by decide +kernel))), (sp_tb (List.mem_of_getElem? (i := 609) (by decide +kernel))), F_MD, 19, rfl⟩
theorem wv_LW_28 : xh_V "SpendScriptLaw" 28 6 y_SS_confirm b_SS_confirm 3 (some .boolean) 2 := ⟨(sp_tb (List.mem_of_getElem? (i := 193) (by decide +kernel))), (sp_tb (List.mem_of_getElem? (i := 1) (by decide +kernel))), (sp_tb (List.mem_of_getElem? (i := 190) (by decide +kernel))), ⟨by decide +kernel, by decide +kernel, by decide +kernel⟩, (sp_tb (List.mem_of_getElem? (i := 191) (by decide +kernel))), (sp_tb (List.mem_of_getElem? (i := 192) (by decide +kernel))), F_SS, 10, rfl⟩
theorem wv_LW_31 : xh_V "SpendScriptLaw" 31 7 y_MD_confirm b_MD_confirm 3 (some .boolean) 2 := ⟨(sp_tb (List.mem_of_getElem? (i := 614) (by decide +kernel))), (sp_tb (List.mem_of_getElem? (i := 8) (by decide +kernel))), (sp_tb (List.mem_of_getElem? (i := 611) (by decide +kernel))), ⟨by decide +kernel, by decide +kernel, by decide +kernel⟩, (sp_tb (List.mem_of_getElem? (i := 612) (by decide +kernel))), (sp_tb (List.mem_of_getElem? (i := 613) (by decide +kernel))), F_MD, 19, rfl⟩
theorem wv_LW_32 : xh_V "SpendScriptLaw" 32 6 y_SS_digest b_SS_digest 4 (some .int) 3 := ⟨(sp_tb (List.mem_of_getElem? (i := 201) (by decide +kernel))), (sp_tb (List.mem_of_getElem? (i := 1) (by decide +kernel))), (sp_tb (List.mem_of_getElem? (i := 198) (by decide +kernel))), ⟨by decide +kernel, by decide +kernel, by decide +kernel⟩, (sp_tb (List.mem_of_getElem? (i := 199) (by decide +kernel))), (sp_tb (List.mem_of_getElem? (i := 200) (by decide +kernel))), F_SS, 10, rfl⟩
theorem wv_LW_36 : xh_V "SpendScriptLaw" 36 7 y_MD_digest b_MD_digest 6 (some .int) 3 := ⟨(sp_tb (List.mem_of_getElem? (i := 618) (by decide +kernel))), (sp_tb (List.mem_of_getElem? (i := 8) (by decide +kernel))), (sp_tb (List.mem_of_getElem? (i := 615) (by decide +kernel))), ⟨by decide +kernel, by decide +kernel, by decide +kernel⟩, (sp_tb (List.mem_of_getElem? (i := 616) (by decide +kernel))), (sp_tb (List.mem_of_getElem? (i := 617) (by decide +kernel))), F_MD, 19, rfl⟩
theorem wv_LW_37 : xh_V "SpendScriptLaw" 37 6 y_SS_spend b_SS_spend 2 (some .int) 0 := ⟨(sp_tb (List.mem_of_getElem? (i := 213) (by decide +kernel))), (sp_tb (List.mem_of_getElem? (i := 1) (by decide +kernel))), (sp_tb (List.mem_of_getElem? (i := 210) (by decide +kernel))), ⟨by decide +kernel, by decide +kernel, by decide +kernel⟩, (sp_tb (List.mem_of_getElem? (i := 211) (by decide +kernel))), (sp_tb (List.mem_of_getElem? (i := 212) (by decide +kernel))), F_SS, 10, rfl⟩
theorem wv_LW_41 : xh_V "SpendScriptLaw" 41 7 y_MD_spend b_MD_spend 3 (some .int) 0 := ⟨(sp_tb (List.mem_of_getElem? (i := 622) (by decide +kernel))), (sp_tb (List.mem_of_getElem? (i := 8) (by decide +kernel))), (sp_tb (List.mem_of_getElem? (i := 619) (by decide +kernel))), ⟨by decide +kernel, by decide +kernel, by decide +kernel⟩, (sp_tb (List.mem_of_getElem? (i := 620) (by decide +kernel))), (sp_tb (List.mem_of_getElem? (i := 621) (by decide +kernel))), F_MD, 19, rfl⟩
theorem wv_LW_42 : xh_V "SpendScriptLaw" 42 6 y_SS_result b_SS_result 1 (some .int) 0 := ⟨(sp_tb (List.mem_of_getElem? (i := 500) (by decide +kernel))), (sp_tb (List.mem_of_getElem? (i := 1) (by decide +kernel))), (sp_tb (List.mem_of_getElem? (i := 497) (by decide +kernel))), ⟨by decide +kernel, by decide +kernel, by decide +kernel⟩, (sp_tb (List.mem_of_getElem? (i := 498) (by decide +kernel))), (sp_tb (List.mem_of_getElem? (i := 499) (by decide +kernel))), F_SS, 10, rfl⟩
theorem wv_LW_45 : xh_V "SpendScriptLaw" 45 7 y_MD_result b_MD_result 1 (some .int) 0 := ⟨(sp_tb (List.mem_of_getElem? (i := 748) (by decide +kernel))), (sp_tb (List.mem_of_getElem? (i := 8) (by decide +kernel))), (sp_tb (List.mem_of_getElem? (i := 745) (by decide +kernel))), ⟨by decide +kernel, by decide +kernel, by decide +kernel⟩, (sp_tb (List.mem_of_getElem? (i := 746) (by decide +kernel))), (sp_tb (List.mem_of_getElem? (i := 747) (by decide +kernel))), F_MD, 19, rfl⟩
theorem wv_LW_46 : xh_V "SpendScriptLaw" 46 6 y_SS_ended b_SS_ended 1 (some .int) 0 := ⟨(sp_tb (List.mem_of_getElem? (i := 504) (by decide +kernel))), (sp_tb (List.mem_of_getElem? (i := 1) (by decide +kernel))), (sp_tb (List.mem_of_getElem? (i := 501) (by decide +kernel))), ⟨by decide +kernel, by decide +kernel, by decide +kernel⟩, (sp_tb (List.mem_of_getElem? (i := 502) (by decide +kernel))), (sp_tb (List.mem_of_getElem? (i := 503) (by decide +kernel))), F_SS, 10, rfl⟩
theorem wv_LW_49 : xh_V "SpendScriptLaw" 49 7 y_MD_ended b_MD_ended 1 (some .int) 0 := ⟨(sp_tb (List.mem_of_getElem? (i := 752) (by decide +kernel))), (sp_tb (List.mem_of_getElem? (i := 8) (by decide +kernel))), (sp_tb (List.mem_of_getElem? (i := 749) (by decide +kernel))), ⟨by decide +kernel, by decide +kernel, by decide +kernel⟩, (sp_tb (List.mem_of_getElem? (i := 750) (by decide +kernel))), (sp_tb (List.mem_of_getElem? (i := 751) (by decide +kernel))), F_MD, 19, rfl⟩
theorem wv_LW_50 : xh_V "SpendScriptLaw" 50 6 y_SS_faultAt b_SS_faultAt 1 (some .int) 0 := ⟨(sp_tb (List.mem_of_getElem? (i := 508) (by decide +kernel))), (sp_tb (List.mem_of_getElem? (i := 1) (by decide +kernel))), (sp_tb (List.mem_of_getElem? (i := 505) (by decide +kernel))), ⟨by decide +kernel, by decide +kernel, by decide +kernel⟩, (sp_tb (List.mem_of_getElem? (i := 506) (by decide +kernel))), (sp_tb (List.mem_of_getElem? (i := 507) (by decide +kernel))), F_SS, 10, rfl⟩
theorem wv_LW_53 : xh_V "SpendScriptLaw" 53 7 y_MD_faultAt b_MD_faultAt 1 (some .int) 0 := ⟨(sp_tb (List.mem_of_getElem? (i := 756) (by decide +kernel))), (sp_tb (List.mem_of_getElem? (i := 8) (by decide +kernel))), (sp_tb (List.mem_of_getElem? (i := 753) (by decide +kernel))), ⟨by decide +kernel, by decide +kernel, by decide +kernel⟩, (sp_tb (List.mem_of_getElem? (i := 754) (by decide +kernel))), (sp_tb (List.mem_of_getElem? (i := 755) (by decide +kernel))), F_MD, 19, rfl⟩
theorem wv_LW_54 : xh_V "SpendScriptLaw" 54 6 y_SS_done b_SS_done 1 (some .int) 0 := ⟨(sp_tb (List.mem_of_getElem? (i := 512) (by decide +kernel))), (sp_tb (List.mem_of_getElem? (i := 1) (by decide +kernel))), (sp_tb (List.mem_of_getElem? (i := 509) (by decide +kernel))), ⟨by decide +kernel, by decide +kernel, by decide +kernel⟩, (sp_tb (List.mem_of_getElem? (i := 510) (by decide +kernel))), (sp_tb (List.mem_of_getElem? (i := 511) (by decide +kernel))), F_SS, 10, rfl⟩
theorem wv_LW_57 : xh_V "SpendScriptLaw" 57 7 y_MD_done b_MD_done 1 (some .int) 0 := ⟨(sp_tb (List.mem_of_getElem? (i := 760) (by decide +kernel))), (sp_tb (List.mem_of_getElem? (i := 8) (by decide +kernel))), (sp_tb (List.mem_of_getElem? (i := 757) (by decide +kernel))), ⟨by decide +kernel, by decide +kernel, by decide +kernel⟩, (sp_tb (List.mem_of_getElem? (i := 758) (by decide +kernel))), (sp_tb (List.mem_of_getElem? (i := 759) (by decide +kernel))), F_MD, 19, rfl⟩
theorem wv_LW_58 : xh_V "SpendScriptLaw" 58 6 y_SS_items b_SS_items 1 (some .int) 0 := ⟨(sp_tb (List.mem_of_getElem? (i := 520) (by decide +kernel))), (sp_tb (List.mem_of_getElem? (i := 1) (by decide +kernel))), (sp_tb (List.mem_of_getElem? (i := 517) (by decide +kernel))), ⟨by decide +kernel, by decide +kernel, by decide +kernel⟩, (sp_tb (List.mem_of_getElem? (i := 518) (by decide +kernel))), (sp_tb (List.mem_of_getElem? (i := 519) (by decide +kernel))), F_SS, 10, rfl⟩
theorem wv_LW_61 : xh_V "SpendScriptLaw" 61 7 y_MD_items b_MD_items 1 (some .int) 0 := ⟨(sp_tb (List.mem_of_getElem? (i := 764) (by decide +kernel))), (sp_tb (List.mem_of_getElem? (i := 8) (by decide +kernel))), (sp_tb (List.mem_of_getElem? (i := 761) (by decide +kernel))), ⟨by decide +kernel, by decide +kernel, by decide +kernel⟩, (sp_tb (List.mem_of_getElem? (i := 762) (by decide +kernel))), (sp_tb (List.mem_of_getElem? (i := 763) (by decide +kernel))), F_MD, 19, rfl⟩
theorem wv_LW_62 : xh_V "SpendScriptLaw" 62 6 y_SS_itemLength b_SS_itemLength 2 (some .int) 1 := ⟨(sp_tb (List.mem_of_getElem? (i := 525) (by decide +kernel))), (sp_tb (List.mem_of_getElem? (i := 1) (by decide +kernel))), (sp_tb (List.mem_of_getElem? (i := 522) (by decide +kernel))), ⟨by decide +kernel, by decide +kernel, by decide +kernel⟩, (sp_tb (List.mem_of_getElem? (i := 523) (by decide +kernel))), (sp_tb (List.mem_of_getElem? (i := 524) (by decide +kernel))), F_SS, 10, rfl⟩
theorem wv_LW_65 : xh_V "SpendScriptLaw" 65 7 y_MD_itemLength b_MD_itemLength 2 (some .int) 1 := ⟨(sp_tb (List.mem_of_getElem? (i := 768) (by decide +kernel))), (sp_tb (List.mem_of_getElem? (i := 8) (by decide +kernel))), (sp_tb (List.mem_of_getElem? (i := 765) (by decide +kernel))), ⟨by decide +kernel, by decide +kernel, by decide +kernel⟩, (sp_tb (List.mem_of_getElem? (i := 766) (by decide +kernel))), (sp_tb (List.mem_of_getElem? (i := 767) (by decide +kernel))), F_MD, 19, rfl⟩
theorem wv_LW_66 : xh_V "SpendScriptLaw" 66 6 y_SS_itemByte b_SS_itemByte 3 (some .int) 2 := ⟨(sp_tb (List.mem_of_getElem? (i := 530) (by decide +kernel))), (sp_tb (List.mem_of_getElem? (i := 1) (by decide +kernel))), (sp_tb (List.mem_of_getElem? (i := 527) (by decide +kernel))), ⟨by decide +kernel, by decide +kernel, by decide +kernel⟩, (sp_tb (List.mem_of_getElem? (i := 528) (by decide +kernel))), (sp_tb (List.mem_of_getElem? (i := 529) (by decide +kernel))), F_SS, 10, rfl⟩
theorem wv_LW_70 : xh_V "SpendScriptLaw" 70 7 y_MD_itemByte b_MD_itemByte 3 (some .int) 2 := ⟨(sp_tb (List.mem_of_getElem? (i := 772) (by decide +kernel))), (sp_tb (List.mem_of_getElem? (i := 8) (by decide +kernel))), (sp_tb (List.mem_of_getElem? (i := 769) (by decide +kernel))), ⟨by decide +kernel, by decide +kernel, by decide +kernel⟩, (sp_tb (List.mem_of_getElem? (i := 770) (by decide +kernel))), (sp_tb (List.mem_of_getElem? (i := 771) (by decide +kernel))), F_MD, 19, rfl⟩
def fx_LW_law_b18 (xs : Nat → Int32) (L : Nat) : Nat → Int32 → xh_T → Option (Int32 × xh_T)
  | 0, _, _ => none
  | n + 1, a3, X => if ((nI L) - 4) < a3 then
  some (1, X)
  else xh_o a3 L (if ((xs a3.toNatClampNeg) &&& 15) = 0 then
  xh_o (a3 + 1) L (xh_o (a3 + 2) L (xh_b (fx_SS_feed (xs ((a3 + 1) : Int32).toNatClampNeg) (xs ((a3 + 2) : Int32).toNatClampNeg) X) (fun (r3 : Int32) (X1 : xh_T) =>
  xh_o (a3 + 1) L (xh_o (a3 + 2) L (xh_b (fx_MD_feed (xs ((a3 + 1) : Int32).toNatClampNeg) (xs ((a3 + 2) : Int32).toNatClampNeg) X1) (fun (r7 : Int32) (X2 : xh_T) =>
  if r3 = r7 then
  xh_n (a3 + 4) (fun v10 : Int32 =>
  fx_LW_law_b18 xs L n v10 X2)
  else some (0, X2)))))))
  else if ((xs a3.toNatClampNeg) &&& 15) = 1 then
  xh_o (a3 + 1) L (xh_b (fx_SS_length (xs ((a3 + 1) : Int32).toNatClampNeg) X) (fun (r11 : Int32) (X3 : xh_T) =>
  xh_o (a3 + 1) L (xh_b (fx_MD_length (xs ((a3 + 1) : Int32).toNatClampNeg) X3) (fun (r15 : Int32) (X4 : xh_T) =>
  if r11 = r15 then
  xh_n (a3 + 4) (fun v19 : Int32 =>
  fx_LW_law_b18 xs L n v19 X4)
  else some (0, X4)))))
  else if ((xs a3.toNatClampNeg) &&& 15) = 2 then
  xh_o (a3 + 1) L (xh_b (fx_SS_clear (xs ((a3 + 1) : Int32).toNatClampNeg) X) (fun (r21 : Int32) (X5 : xh_T) =>
  xh_o (a3 + 1) L (xh_b (fx_MD_clear (xs ((a3 + 1) : Int32).toNatClampNeg) X5) (fun (r25 : Int32) (X6 : xh_T) =>
  if r21 = r25 then
  xh_n (a3 + 4) (fun v28 : Int32 =>
  fx_LW_law_b18 xs L n v28 X6)
  else some (0, X6)))))
  else if ((xs a3.toNatClampNeg) &&& 15) = 3 then
  xh_o (a3 + 1) L (xh_o (a3 + 2) L (xh_b (fx_SS_confirm (xs ((a3 + 1) : Int32).toNatClampNeg) (xs ((a3 + 2) : Int32).toNatClampNeg) X) (fun (r30 : Int32) (X7 : xh_T) =>
  xh_o (a3 + 1) L (xh_o (a3 + 2) L (xh_b (fx_MD_confirm (xs ((a3 + 1) : Int32).toNatClampNeg) (xs ((a3 + 2) : Int32).toNatClampNeg) X7) (fun (r34 : Int32) (X8 : xh_T) =>
  if r30 = r34 then
  xh_n (a3 + 4) (fun v37 : Int32 =>
  fx_LW_law_b18 xs L n v37 X8)
  else some (0, X8)))))))
  else if ((xs a3.toNatClampNeg) &&& 15) = 4 then
  xh_o (a3 + 1) L (xh_o (a3 + 2) L (xh_o (a3 + 3) L (xh_b (fx_SS_digest (xs ((a3 + 1) : Int32).toNatClampNeg) (xs ((a3 + 2) : Int32).toNatClampNeg) (xs ((a3 + 3) : Int32).toNatClampNeg) X) (fun (r38 : Int32) (X9 : xh_T) =>
  xh_o (a3 + 1) L (xh_o (a3 + 2) L (xh_o (a3 + 3) L (xh_b (fx_MD_digest (xs ((a3 + 1) : Int32).toNatClampNeg) (xs ((a3 + 2) : Int32).toNatClampNeg) (xs ((a3 + 3) : Int32).toNatClampNeg) X9) (fun (r42 : Int32) (X10 : xh_T) =>
  if r38 = r42 then
  xh_n (a3 + 4) (fun v46 : Int32 =>
  fx_LW_law_b18 xs L n v46 X10)
  else some (0, X10)))))))))
  else if ((xs a3.toNatClampNeg) &&& 15) = 5 then
  xh_b (fx_SS_spend X) (fun (r47 : Int32) (X11 : xh_T) =>
  xh_b (fx_MD_spend X11) (fun (r51 : Int32) (X12 : xh_T) =>
  if r47 = r51 then
  xh_n (a3 + 4) (fun v55 : Int32 =>
  fx_LW_law_b18 xs L n v55 X12)
  else some (0, X12)))
  else if ((xs a3.toNatClampNeg) &&& 15) = 6 then
  xh_b (fx_SS_result X) (fun (r56 : Int32) (X13 : xh_T) =>
  xh_b (fx_MD_result X13) (fun (r60 : Int32) (X14 : xh_T) =>
  if r56 = r60 then
  xh_n (a3 + 4) (fun v64 : Int32 =>
  fx_LW_law_b18 xs L n v64 X14)
  else some (0, X14)))
  else if ((xs a3.toNatClampNeg) &&& 15) = 7 then
  xh_b (fx_SS_ended X) (fun (r65 : Int32) (X15 : xh_T) =>
  xh_b (fx_MD_ended X15) (fun (r69 : Int32) (X16 : xh_T) =>
  if r65 = r69 then
  xh_n (a3 + 4) (fun v73 : Int32 =>
  fx_LW_law_b18 xs L n v73 X16)
  else some (0, X16)))
  else if ((xs a3.toNatClampNeg) &&& 15) = 8 then
  xh_b (fx_SS_faultAt X) (fun (r74 : Int32) (X17 : xh_T) =>
  xh_b (fx_MD_faultAt X17) (fun (r78 : Int32) (X18 : xh_T) =>
  if r74 = r78 then
  xh_n (a3 + 4) (fun v82 : Int32 =>
  fx_LW_law_b18 xs L n v82 X18)
  else some (0, X18)))
  else if ((xs a3.toNatClampNeg) &&& 15) = 9 then
  xh_b (fx_SS_done X) (fun (r83 : Int32) (X19 : xh_T) =>
  xh_b (fx_MD_done X19) (fun (r87 : Int32) (X20 : xh_T) =>
  if r83 = r87 then
  xh_n (a3 + 4) (fun v91 : Int32 =>
  fx_LW_law_b18 xs L n v91 X20)
  else some (0, X20)))
  else if ((xs a3.toNatClampNeg) &&& 15) = 10 then
  xh_b (fx_SS_items X) (fun (r92 : Int32) (X21 : xh_T) =>
  xh_b (fx_MD_items X21) (fun (r96 : Int32) (X22 : xh_T) =>
  if r92 = r96 then
  xh_n (a3 + 4) (fun v100 : Int32 =>
  fx_LW_law_b18 xs L n v100 X22)
  else some (0, X22)))
  else if ((xs a3.toNatClampNeg) &&& 15) = 11 then
  xh_o (a3 + 1) L (xh_b (fx_SS_itemLength (xs ((a3 + 1) : Int32).toNatClampNeg) X) (fun (r101 : Int32) (X23 : xh_T) =>
  xh_o (a3 + 1) L (xh_b (fx_MD_itemLength (xs ((a3 + 1) : Int32).toNatClampNeg) X23) (fun (r105 : Int32) (X24 : xh_T) =>
  if r101 = r105 then
  xh_n (a3 + 4) (fun v109 : Int32 =>
  fx_LW_law_b18 xs L n v109 X24)
  else some (0, X24)))))
  else if ((xs a3.toNatClampNeg) &&& 15) = 12 then
  xh_o (a3 + 1) L (xh_o (a3 + 2) L (xh_b (fx_SS_itemByte (xs ((a3 + 1) : Int32).toNatClampNeg) (xs ((a3 + 2) : Int32).toNatClampNeg) X) (fun (r110 : Int32) (X25 : xh_T) =>
  xh_o (a3 + 1) L (xh_o (a3 + 2) L (xh_b (fx_MD_itemByte (xs ((a3 + 1) : Int32).toNatClampNeg) (xs ((a3 + 2) : Int32).toNatClampNeg) X25) (fun (r114 : Int32) (X26 : xh_T) =>
  if r110 = r114 then
  xh_n (a3 + 4) (fun v118 : Int32 =>
  fx_LW_law_b18 xs L n v118 X26)
  else some (0, X26)))))))
  else xh_n (a3 + 4) (fun v1 : Int32 =>
  fx_LW_law_b18 xs L n v1 X))
set_option maxRecDepth 100000 in
set_option maxHeartbeats 4000000 in
theorem jb_LW_law_b18 {p : Program} {l : Launch} {e : Env} {s : State} {m : MethodId} {below : List Frame} {meth : Method} {c : Code} {D : va_G} {G : xh_G} {cells slots : Nat} {b L : Nat} {xs : Nat → Int32} (hz : xh_C p s m #[Value.ref b] c code 4 "SpendScriptLaw" D G (fun q => s.heap.size ≤ q)) (hbz : c.code = code) (hlr : meth.sig.returnType = ret) (hlk : meth.locks = false) (hcs : cells ≤ 600000 ∧ slots ≤ 7302250) (hX : va_X b L xs s s.heap) (hbl : b < s.heap.size) (hbA : ¬ s.heap.size ≤ b) : ∀ (n : Nat) (a3 : Int32) (X : xh_T), xh_J p l e room_1 s m #[Value.ref b] below meth c cells slots D G (fun q => s.heap.size ≤ q) 4 (fun (r : Int32) (_ : xh_T) t => r = 1 → lw_Z below #[Value.ref b] s t) 18 [(0, .ref b), (1, .ref (G.1 0)), (2, .ref (G.1 206)), (3, .int a3)] [] X (fx_LW_law_b18 xs L n a3 X) := by
  intro n
  induction n with
  | zero => intro a3 X; exact jr_none
  | succ n ih =>
    intro a3 X
    rw [fx_LW_law_b18]
    refine jr_iload_n hz d_LW_law_18 rfl 3 rfl ?_
    refine jr_aload_n hz d_LW_law_19 rfl 0 rfl ?_
    refine jr_slen hz hX hbl hbA d_LW_law_20 ?_
    refine jr_iconst (v := 4) hz d_LW_law_21 (by decide) ?_
    refine jr_isub hz d_LW_law_22 ?_
    refine jr_icmp_gt (tgt := 395) hz d_LW_law_23 (by decide) ?_ ?_
    · refine jr_iconst (v := 1) hz d_LW_law_395 (by decide) ?_
      exact jr_lwret hz hbz hlr hlk hcs d_LW_law_396
    · refine jr_aload_n hz d_LW_law_26 rfl 0 rfl ?_
      refine jr_iload_n hz d_LW_law_27 rfl 3 rfl ?_
      refine jr_sld hz hX hbl hbA d_LW_law_28 ?_
      refine jr_bipush (v := 15) hz d_LW_law_29 (by decide) ?_
      refine jr_iand hz d_LW_law_31 ?_
      refine jr_ite (fun hs0 => ?_) (fun hs0 => ?_)
      · refine jr_tableIn (off := 68) (tgt := 100) hz d_LW_law_32 (by rw [hs0]; decide) (by rw [hs0]; decide) (by rw [hs0]; first | done | decide | rfl) (by decide) ?_
        refine jr_aload_n hz d_LW_law_100 rfl 1 rfl ?_
        refine jr_aload_n hz d_LW_law_101 rfl 0 rfl ?_
        refine jr_iload_n hz d_LW_law_102 rfl 3 rfl ?_
        refine jr_iconst (v := 1) hz d_LW_law_103 (by decide) ?_
        refine jr_iadd hz d_LW_law_104 ?_
        refine jr_sld hz hX hbl hbA d_LW_law_105 ?_
        refine jr_aload_n hz d_LW_law_106 rfl 0 rfl ?_
        refine jr_iload_n hz d_LW_law_107 rfl 3 rfl ?_
        refine jr_iconst (v := 2) hz d_LW_law_108 (by decide) ?_
        refine jr_iadd hz d_LW_law_109 ?_
        refine jr_sld hz hX hbl hbA d_LW_law_110 ?_
        refine jr_callVi (As := [.int (xs ((a3 + 1) : Int32).toNatClampNeg), .int (xs ((a3 + 2) : Int32).toNatClampNeg)]) (a := 0) (ci := 6) (st := []) hz (cx_SS_feed l D G hz.2.2.2.2.2.2.1 (xs ((a3 + 1) : Int32).toNatClampNeg) (xs ((a3 + 2) : Int32).toNatClampNeg) X) (fun _ _ => ⟨lq_0, _, ly_0⟩) wv_LW_13 ⟨rfl, rfl, Nat.le_of_ble_eq_true rfl, Nat.le_of_ble_eq_true rfl⟩ hcs rfl rfl (Nat.le_of_ble_eq_true rfl) d_LW_law_111 (fun r3 X1 => ?_)
        refine jr_aload_n hz d_LW_law_114 rfl 2 rfl ?_
        refine jr_aload_n hz d_LW_law_115 rfl 0 rfl ?_
        refine jr_iload_n hz d_LW_law_116 rfl 3 rfl ?_
        refine jr_iconst (v := 1) hz d_LW_law_117 (by decide) ?_
        refine jr_iadd hz d_LW_law_118 ?_
        refine jr_sld hz hX hbl hbA d_LW_law_119 ?_
        refine jr_aload_n hz d_LW_law_120 rfl 0 rfl ?_
        refine jr_iload_n hz d_LW_law_121 rfl 3 rfl ?_
        refine jr_iconst (v := 2) hz d_LW_law_122 (by decide) ?_
        refine jr_iadd hz d_LW_law_123 ?_
        refine jr_sld hz hX hbl hbA d_LW_law_124 ?_
        refine jr_callVi (As := [.int (xs ((a3 + 1) : Int32).toNatClampNeg), .int (xs ((a3 + 2) : Int32).toNatClampNeg)]) (a := 206) (ci := 7) (st := [.int r3]) hz (cx_MD_feed l D G hz.2.2.2.2.2.2.1 (xs ((a3 + 1) : Int32).toNatClampNeg) (xs ((a3 + 2) : Int32).toNatClampNeg) X1) (fun _ _ => ⟨lq_206, _, ly_206⟩) wv_LW_17 ⟨rfl, rfl, Nat.le_of_ble_eq_true rfl, Nat.le_of_ble_eq_true rfl⟩ hcs rfl rfl (Nat.le_of_ble_eq_true rfl) d_LW_law_125 (fun r7 X2 => ?_)
        refine jr_icmp_eq (tgt := 389) hz d_LW_law_128 (by decide) ?_ ?_
        · refine jr_iinc (lf := [(0, .ref b), (1, .ref (G.1 0)), (2, .ref (G.1 206))]) (w := 4) hz d_LW_law_389 3 rfl (by decide) (by decide) rfl (fun v10 => ?_)
          refine jr_goto (tgt := 18) hz d_LW_law_392 (by decide) ?_
          refine jr_sub (ls' := [(0, .ref b), (1, .ref (G.1 0)), (2, .ref (G.1 206)), (3, .int v10)]) [1, 2, 3, 0] rfl ?_
          exact ih v10 X2
        · refine jr_iconst (v := 0) hz d_LW_law_131 (by decide) ?_
          exact jr_lwret hz hbz hlr hlk hcs d_LW_law_132
      refine jr_ite (fun hs1 => ?_) (fun hs1 => ?_)
      · refine jr_tableIn (off := 101) (tgt := 133) hz d_LW_law_32 (by rw [hs1]; decide) (by rw [hs1]; decide) (by rw [hs1]; first | done | decide | rfl) (by decide) ?_
        refine jr_aload_n hz d_LW_law_133 rfl 1 rfl ?_
        refine jr_aload_n hz d_LW_law_134 rfl 0 rfl ?_
        refine jr_iload_n hz d_LW_law_135 rfl 3 rfl ?_
        refine jr_iconst (v := 1) hz d_LW_law_136 (by decide) ?_
        refine jr_iadd hz d_LW_law_137 ?_
        refine jr_sld hz hX hbl hbA d_LW_law_138 ?_
        refine jr_callVi (As := [.int (xs ((a3 + 1) : Int32).toNatClampNeg)]) (a := 0) (ci := 6) (st := []) hz (cx_SS_length l D G hz.2.2.2.2.2.2.1 (xs ((a3 + 1) : Int32).toNatClampNeg) X) (fun _ _ => ⟨lq_0, _, ly_0⟩) wv_LW_18 ⟨rfl, rfl, Nat.le_of_ble_eq_true rfl, Nat.le_of_ble_eq_true rfl⟩ hcs rfl rfl (Nat.le_of_ble_eq_true rfl) d_LW_law_139 (fun r11 X3 => ?_)
        refine jr_aload_n hz d_LW_law_142 rfl 2 rfl ?_
        refine jr_aload_n hz d_LW_law_143 rfl 0 rfl ?_
        refine jr_iload_n hz d_LW_law_144 rfl 3 rfl ?_
        refine jr_iconst (v := 1) hz d_LW_law_145 (by decide) ?_
        refine jr_iadd hz d_LW_law_146 ?_
        refine jr_sld hz hX hbl hbA d_LW_law_147 ?_
        refine jr_callVi (As := [.int (xs ((a3 + 1) : Int32).toNatClampNeg)]) (a := 206) (ci := 7) (st := [.int r11]) hz (cx_MD_length l D G hz.2.2.2.2.2.2.1 (xs ((a3 + 1) : Int32).toNatClampNeg) X3) (fun _ _ => ⟨lq_206, _, ly_206⟩) wv_LW_22 ⟨rfl, rfl, Nat.le_of_ble_eq_true rfl, Nat.le_of_ble_eq_true rfl⟩ hcs rfl rfl (Nat.le_of_ble_eq_true rfl) d_LW_law_148 (fun r15 X4 => ?_)
        refine jr_icmp_eq (tgt := 389) hz d_LW_law_151 (by decide) ?_ ?_
        · refine jr_iinc (lf := [(0, .ref b), (1, .ref (G.1 0)), (2, .ref (G.1 206))]) (w := 4) hz d_LW_law_389 3 rfl (by decide) (by decide) rfl (fun v19 => ?_)
          refine jr_goto (tgt := 18) hz d_LW_law_392 (by decide) ?_
          refine jr_sub (ls' := [(0, .ref b), (1, .ref (G.1 0)), (2, .ref (G.1 206)), (3, .int v19)]) [1, 2, 3, 0] rfl ?_
          exact ih v19 X4
        · refine jr_iconst (v := 0) hz d_LW_law_154 (by decide) ?_
          exact jr_lwret hz hbz hlr hlk hcs d_LW_law_155
      refine jr_ite (fun hs2 => ?_) (fun hs2 => ?_)
      · refine jr_tableIn (off := 124) (tgt := 156) hz d_LW_law_32 (by rw [hs2]; decide) (by rw [hs2]; decide) (by rw [hs2]; first | done | decide | rfl) (by decide) ?_
        refine jr_aload_n hz d_LW_law_156 rfl 1 rfl ?_
        refine jr_aload_n hz d_LW_law_157 rfl 0 rfl ?_
        refine jr_iload_n hz d_LW_law_158 rfl 3 rfl ?_
        refine jr_iconst (v := 1) hz d_LW_law_159 (by decide) ?_
        refine jr_iadd hz d_LW_law_160 ?_
        refine jr_sld hz hX hbl hbA d_LW_law_161 ?_
        refine jr_callVi (As := [.int (xs ((a3 + 1) : Int32).toNatClampNeg)]) (a := 0) (ci := 6) (st := []) hz (cx_SS_clear l D G hz.2.2.2.2.2.2.1 (xs ((a3 + 1) : Int32).toNatClampNeg) X) (fun _ _ => ⟨lq_0, _, ly_0⟩) wv_LW_23 ⟨rfl, rfl, Nat.le_of_ble_eq_true rfl, Nat.le_of_ble_eq_true rfl⟩ hcs rfl rfl (Nat.le_of_ble_eq_true rfl) d_LW_law_162 (fun r21 X5 => ?_)
        refine jr_aload_n hz d_LW_law_165 rfl 2 rfl ?_
        refine jr_aload_n hz d_LW_law_166 rfl 0 rfl ?_
        refine jr_iload_n hz d_LW_law_167 rfl 3 rfl ?_
        refine jr_iconst (v := 1) hz d_LW_law_168 (by decide) ?_
        refine jr_iadd hz d_LW_law_169 ?_
        refine jr_sld hz hX hbl hbA d_LW_law_170 ?_
        refine jr_callVi (As := [.int (xs ((a3 + 1) : Int32).toNatClampNeg)]) (a := 206) (ci := 7) (st := [.int r21]) hz (cx_MD_clear l D G hz.2.2.2.2.2.2.1 (xs ((a3 + 1) : Int32).toNatClampNeg) X5) (fun _ _ => ⟨lq_206, _, ly_206⟩) wv_LW_27 ⟨rfl, rfl, Nat.le_of_ble_eq_true rfl, Nat.le_of_ble_eq_true rfl⟩ hcs rfl rfl (Nat.le_of_ble_eq_true rfl) d_LW_law_171 (fun r25 X6 => ?_)
        refine jr_icmp_eq (tgt := 389) hz d_LW_law_174 (by decide) ?_ ?_
        · refine jr_iinc (lf := [(0, .ref b), (1, .ref (G.1 0)), (2, .ref (G.1 206))]) (w := 4) hz d_LW_law_389 3 rfl (by decide) (by decide) rfl (fun v28 => ?_)
          refine jr_goto (tgt := 18) hz d_LW_law_392 (by decide) ?_
          refine jr_sub (ls' := [(0, .ref b), (1, .ref (G.1 0)), (2, .ref (G.1 206)), (3, .int v28)]) [1, 2, 3, 0] rfl ?_
          exact ih v28 X6
        · refine jr_iconst (v := 0) hz d_LW_law_177 (by decide) ?_
          exact jr_lwret hz hbz hlr hlk hcs d_LW_law_178
      refine jr_ite (fun hs3 => ?_) (fun hs3 => ?_)
      · refine jr_tableIn (off := 147) (tgt := 179) hz d_LW_law_32 (by rw [hs3]; decide) (by rw [hs3]; decide) (by rw [hs3]; first | done | decide | rfl) (by decide) ?_
        refine jr_aload_n hz d_LW_law_179 rfl 1 rfl ?_
        refine jr_aload_n hz d_LW_law_180 rfl 0 rfl ?_
        refine jr_iload_n hz d_LW_law_181 rfl 3 rfl ?_
        refine jr_iconst (v := 1) hz d_LW_law_182 (by decide) ?_
        refine jr_iadd hz d_LW_law_183 ?_
        refine jr_sld hz hX hbl hbA d_LW_law_184 ?_
        refine jr_aload_n hz d_LW_law_185 rfl 0 rfl ?_
        refine jr_iload_n hz d_LW_law_186 rfl 3 rfl ?_
        refine jr_iconst (v := 2) hz d_LW_law_187 (by decide) ?_
        refine jr_iadd hz d_LW_law_188 ?_
        refine jr_sld hz hX hbl hbA d_LW_law_189 ?_
        refine jr_callVi (As := [.int (xs ((a3 + 1) : Int32).toNatClampNeg), .int (xs ((a3 + 2) : Int32).toNatClampNeg)]) (a := 0) (ci := 6) (st := []) hz (cx_SS_confirm l D G hz.2.2.2.2.2.2.1 (xs ((a3 + 1) : Int32).toNatClampNeg) (xs ((a3 + 2) : Int32).toNatClampNeg) X) (fun _ _ => ⟨lq_0, _, ly_0⟩) wv_LW_28 ⟨rfl, rfl, Nat.le_of_ble_eq_true rfl, Nat.le_of_ble_eq_true rfl⟩ hcs rfl rfl (Nat.le_of_ble_eq_true rfl) d_LW_law_190 (fun r30 X7 => ?_)
        refine jr_aload_n hz d_LW_law_193 rfl 2 rfl ?_
        refine jr_aload_n hz d_LW_law_194 rfl 0 rfl ?_
        refine jr_iload_n hz d_LW_law_195 rfl 3 rfl ?_
        refine jr_iconst (v := 1) hz d_LW_law_196 (by decide) ?_
        refine jr_iadd hz d_LW_law_197 ?_
        refine jr_sld hz hX hbl hbA d_LW_law_198 ?_
        refine jr_aload_n hz d_LW_law_199 rfl 0 rfl ?_
        refine jr_iload_n hz d_LW_law_200 rfl 3 rfl ?_
        refine jr_iconst (v := 2) hz d_LW_law_201 (by decide) ?_
        refine jr_iadd hz d_LW_law_202 ?_
        refine jr_sld hz hX hbl hbA d_LW_law_203 ?_
        refine jr_callVi (As := [.int (xs ((a3 + 1) : Int32).toNatClampNeg), .int (xs ((a3 + 2) : Int32).toNatClampNeg)]) (a := 206) (ci := 7) (st := [.int r30]) hz (cx_MD_confirm l D G hz.2.2.2.2.2.2.1 (xs ((a3 + 1) : Int32).toNatClampNeg) (xs ((a3 + 2) : Int32).toNatClampNeg) X7) (fun _ _ => ⟨lq_206, _, ly_206⟩) wv_LW_31 ⟨rfl, rfl, Nat.le_of_ble_eq_true rfl, Nat.le_of_ble_eq_true rfl⟩ hcs rfl rfl (Nat.le_of_ble_eq_true rfl) d_LW_law_204 (fun r34 X8 => ?_)
        refine jr_icmp_eq (tgt := 389) hz d_LW_law_207 (by decide) ?_ ?_
        · refine jr_iinc (lf := [(0, .ref b), (1, .ref (G.1 0)), (2, .ref (G.1 206))]) (w := 4) hz d_LW_law_389 3 rfl (by decide) (by decide) rfl (fun v37 => ?_)
          refine jr_goto (tgt := 18) hz d_LW_law_392 (by decide) ?_
          refine jr_sub (ls' := [(0, .ref b), (1, .ref (G.1 0)), (2, .ref (G.1 206)), (3, .int v37)]) [1, 2, 3, 0] rfl ?_
          exact ih v37 X8
        · refine jr_iconst (v := 0) hz d_LW_law_210 (by decide) ?_
          exact jr_lwret hz hbz hlr hlk hcs d_LW_law_211
      refine jr_ite (fun hs4 => ?_) (fun hs4 => ?_)
      · refine jr_tableIn (off := 180) (tgt := 212) hz d_LW_law_32 (by rw [hs4]; decide) (by rw [hs4]; decide) (by rw [hs4]; first | done | decide | rfl) (by decide) ?_
        refine jr_aload_n hz d_LW_law_212 rfl 1 rfl ?_
        refine jr_aload_n hz d_LW_law_213 rfl 0 rfl ?_
        refine jr_iload_n hz d_LW_law_214 rfl 3 rfl ?_
        refine jr_iconst (v := 1) hz d_LW_law_215 (by decide) ?_
        refine jr_iadd hz d_LW_law_216 ?_
        refine jr_sld hz hX hbl hbA d_LW_law_217 ?_
        refine jr_aload_n hz d_LW_law_218 rfl 0 rfl ?_
        refine jr_iload_n hz d_LW_law_219 rfl 3 rfl ?_
        refine jr_iconst (v := 2) hz d_LW_law_220 (by decide) ?_
        refine jr_iadd hz d_LW_law_221 ?_
        refine jr_sld hz hX hbl hbA d_LW_law_222 ?_
        refine jr_aload_n hz d_LW_law_223 rfl 0 rfl ?_
        refine jr_iload_n hz d_LW_law_224 rfl 3 rfl ?_
        refine jr_iconst (v := 3) hz d_LW_law_225 (by decide) ?_
        refine jr_iadd hz d_LW_law_226 ?_
        refine jr_sld hz hX hbl hbA d_LW_law_227 ?_
        refine jr_callVi (As := [.int (xs ((a3 + 1) : Int32).toNatClampNeg), .int (xs ((a3 + 2) : Int32).toNatClampNeg), .int (xs ((a3 + 3) : Int32).toNatClampNeg)]) (a := 0) (ci := 6) (st := []) hz (cx_SS_digest l D G hz.2.2.2.2.2.2.1 (xs ((a3 + 1) : Int32).toNatClampNeg) (xs ((a3 + 2) : Int32).toNatClampNeg) (xs ((a3 + 3) : Int32).toNatClampNeg) X) (fun _ _ => ⟨lq_0, _, ly_0⟩) wv_LW_32 ⟨rfl, rfl, Nat.le_of_ble_eq_true rfl, Nat.le_of_ble_eq_true rfl⟩ hcs rfl rfl (Nat.le_of_ble_eq_true rfl) d_LW_law_228 (fun r38 X9 => ?_)
        refine jr_aload_n hz d_LW_law_231 rfl 2 rfl ?_
        refine jr_aload_n hz d_LW_law_232 rfl 0 rfl ?_
        refine jr_iload_n hz d_LW_law_233 rfl 3 rfl ?_
        refine jr_iconst (v := 1) hz d_LW_law_234 (by decide) ?_
        refine jr_iadd hz d_LW_law_235 ?_
        refine jr_sld hz hX hbl hbA d_LW_law_236 ?_
        refine jr_aload_n hz d_LW_law_237 rfl 0 rfl ?_
        refine jr_iload_n hz d_LW_law_238 rfl 3 rfl ?_
        refine jr_iconst (v := 2) hz d_LW_law_239 (by decide) ?_
        refine jr_iadd hz d_LW_law_240 ?_
        refine jr_sld hz hX hbl hbA d_LW_law_241 ?_
        refine jr_aload_n hz d_LW_law_242 rfl 0 rfl ?_
        refine jr_iload_n hz d_LW_law_243 rfl 3 rfl ?_
        refine jr_iconst (v := 3) hz d_LW_law_244 (by decide) ?_
        refine jr_iadd hz d_LW_law_245 ?_
        refine jr_sld hz hX hbl hbA d_LW_law_246 ?_
        refine jr_callVi (As := [.int (xs ((a3 + 1) : Int32).toNatClampNeg), .int (xs ((a3 + 2) : Int32).toNatClampNeg), .int (xs ((a3 + 3) : Int32).toNatClampNeg)]) (a := 206) (ci := 7) (st := [.int r38]) hz (cx_MD_digest l D G hz.2.2.2.2.2.2.1 (xs ((a3 + 1) : Int32).toNatClampNeg) (xs ((a3 + 2) : Int32).toNatClampNeg) (xs ((a3 + 3) : Int32).toNatClampNeg) X9) (fun _ _ => ⟨lq_206, _, ly_206⟩) wv_LW_36 ⟨rfl, rfl, Nat.le_of_ble_eq_true rfl, Nat.le_of_ble_eq_true rfl⟩ hcs rfl rfl (Nat.le_of_ble_eq_true rfl) d_LW_law_247 (fun r42 X10 => ?_)
        refine jr_icmp_eq (tgt := 389) hz d_LW_law_250 (by decide) ?_ ?_
        · refine jr_iinc (lf := [(0, .ref b), (1, .ref (G.1 0)), (2, .ref (G.1 206))]) (w := 4) hz d_LW_law_389 3 rfl (by decide) (by decide) rfl (fun v46 => ?_)
          refine jr_goto (tgt := 18) hz d_LW_law_392 (by decide) ?_
          refine jr_sub (ls' := [(0, .ref b), (1, .ref (G.1 0)), (2, .ref (G.1 206)), (3, .int v46)]) [1, 2, 3, 0] rfl ?_
          exact ih v46 X10
        · refine jr_iconst (v := 0) hz d_LW_law_253 (by decide) ?_
          exact jr_lwret hz hbz hlr hlk hcs d_LW_law_254
      refine jr_ite (fun hs5 => ?_) (fun hs5 => ?_)
      · refine jr_tableIn (off := 223) (tgt := 255) hz d_LW_law_32 (by rw [hs5]; decide) (by rw [hs5]; decide) (by rw [hs5]; first | done | decide | rfl) (by decide) ?_
        refine jr_aload_n hz d_LW_law_255 rfl 1 rfl ?_
        refine jr_callVi (As := []) (a := 0) (ci := 6) (st := []) hz (cx_SS_spend l D G hz.2.2.2.2.2.2.1 X) (fun _ _ => ⟨lq_0, _, ly_0⟩) wv_LW_37 ⟨rfl, rfl, Nat.le_of_ble_eq_true rfl, Nat.le_of_ble_eq_true rfl⟩ hcs rfl rfl (Nat.le_of_ble_eq_true rfl) d_LW_law_256 (fun r47 X11 => ?_)
        refine jr_aload_n hz d_LW_law_259 rfl 2 rfl ?_
        refine jr_callVi (As := []) (a := 206) (ci := 7) (st := [.int r47]) hz (cx_MD_spend l D G hz.2.2.2.2.2.2.1 X11) (fun _ _ => ⟨lq_206, _, ly_206⟩) wv_LW_41 ⟨rfl, rfl, Nat.le_of_ble_eq_true rfl, Nat.le_of_ble_eq_true rfl⟩ hcs rfl rfl (Nat.le_of_ble_eq_true rfl) d_LW_law_260 (fun r51 X12 => ?_)
        refine jr_icmp_eq (tgt := 389) hz d_LW_law_263 (by decide) ?_ ?_
        · refine jr_iinc (lf := [(0, .ref b), (1, .ref (G.1 0)), (2, .ref (G.1 206))]) (w := 4) hz d_LW_law_389 3 rfl (by decide) (by decide) rfl (fun v55 => ?_)
          refine jr_goto (tgt := 18) hz d_LW_law_392 (by decide) ?_
          refine jr_sub (ls' := [(0, .ref b), (1, .ref (G.1 0)), (2, .ref (G.1 206)), (3, .int v55)]) [1, 2, 3, 0] rfl ?_
          exact ih v55 X12
        · refine jr_iconst (v := 0) hz d_LW_law_266 (by decide) ?_
          exact jr_lwret hz hbz hlr hlk hcs d_LW_law_267
      refine jr_ite (fun hs6 => ?_) (fun hs6 => ?_)
      · refine jr_tableIn (off := 236) (tgt := 268) hz d_LW_law_32 (by rw [hs6]; decide) (by rw [hs6]; decide) (by rw [hs6]; first | done | decide | rfl) (by decide) ?_
        refine jr_aload_n hz d_LW_law_268 rfl 1 rfl ?_
        refine jr_callVi (As := []) (a := 0) (ci := 6) (st := []) hz (cx_SS_result l D G hz.2.2.2.2.2.2.1 X) (fun _ _ => ⟨lq_0, _, ly_0⟩) wv_LW_42 ⟨rfl, rfl, Nat.le_of_ble_eq_true rfl, Nat.le_of_ble_eq_true rfl⟩ hcs rfl rfl (Nat.le_of_ble_eq_true rfl) d_LW_law_269 (fun r56 X13 => ?_)
        refine jr_aload_n hz d_LW_law_272 rfl 2 rfl ?_
        refine jr_callVi (As := []) (a := 206) (ci := 7) (st := [.int r56]) hz (cx_MD_result l D G hz.2.2.2.2.2.2.1 X13) (fun _ _ => ⟨lq_206, _, ly_206⟩) wv_LW_45 ⟨rfl, rfl, Nat.le_of_ble_eq_true rfl, Nat.le_of_ble_eq_true rfl⟩ hcs rfl rfl (Nat.le_of_ble_eq_true rfl) d_LW_law_273 (fun r60 X14 => ?_)
        refine jr_icmp_eq (tgt := 389) hz d_LW_law_276 (by decide) ?_ ?_
        · refine jr_iinc (lf := [(0, .ref b), (1, .ref (G.1 0)), (2, .ref (G.1 206))]) (w := 4) hz d_LW_law_389 3 rfl (by decide) (by decide) rfl (fun v64 => ?_)
          refine jr_goto (tgt := 18) hz d_LW_law_392 (by decide) ?_
          refine jr_sub (ls' := [(0, .ref b), (1, .ref (G.1 0)), (2, .ref (G.1 206)), (3, .int v64)]) [1, 2, 3, 0] rfl ?_
          exact ih v64 X14
        · refine jr_iconst (v := 0) hz d_LW_law_279 (by decide) ?_
          exact jr_lwret hz hbz hlr hlk hcs d_LW_law_280
      refine jr_ite (fun hs7 => ?_) (fun hs7 => ?_)
      · refine jr_tableIn (off := 249) (tgt := 281) hz d_LW_law_32 (by rw [hs7]; decide) (by rw [hs7]; decide) (by rw [hs7]; first | done | decide | rfl) (by decide) ?_
        refine jr_aload_n hz d_LW_law_281 rfl 1 rfl ?_
        refine jr_callVi (As := []) (a := 0) (ci := 6) (st := []) hz (cx_SS_ended l D G hz.2.2.2.2.2.2.1 X) (fun _ _ => ⟨lq_0, _, ly_0⟩) wv_LW_46 ⟨rfl, rfl, Nat.le_of_ble_eq_true rfl, Nat.le_of_ble_eq_true rfl⟩ hcs rfl rfl (Nat.le_of_ble_eq_true rfl) d_LW_law_282 (fun r65 X15 => ?_)
        refine jr_aload_n hz d_LW_law_285 rfl 2 rfl ?_
        refine jr_callVi (As := []) (a := 206) (ci := 7) (st := [.int r65]) hz (cx_MD_ended l D G hz.2.2.2.2.2.2.1 X15) (fun _ _ => ⟨lq_206, _, ly_206⟩) wv_LW_49 ⟨rfl, rfl, Nat.le_of_ble_eq_true rfl, Nat.le_of_ble_eq_true rfl⟩ hcs rfl rfl (Nat.le_of_ble_eq_true rfl) d_LW_law_286 (fun r69 X16 => ?_)
        refine jr_icmp_eq (tgt := 389) hz d_LW_law_289 (by decide) ?_ ?_
        · refine jr_iinc (lf := [(0, .ref b), (1, .ref (G.1 0)), (2, .ref (G.1 206))]) (w := 4) hz d_LW_law_389 3 rfl (by decide) (by decide) rfl (fun v73 => ?_)
          refine jr_goto (tgt := 18) hz d_LW_law_392 (by decide) ?_
          refine jr_sub (ls' := [(0, .ref b), (1, .ref (G.1 0)), (2, .ref (G.1 206)), (3, .int v73)]) [1, 2, 3, 0] rfl ?_
          exact ih v73 X16
        · refine jr_iconst (v := 0) hz d_LW_law_292 (by decide) ?_
          exact jr_lwret hz hbz hlr hlk hcs d_LW_law_293
      refine jr_ite (fun hs8 => ?_) (fun hs8 => ?_)
      · refine jr_tableIn (off := 262) (tgt := 294) hz d_LW_law_32 (by rw [hs8]; decide) (by rw [hs8]; decide) (by rw [hs8]; first | done | decide | rfl) (by decide) ?_
        refine jr_aload_n hz d_LW_law_294 rfl 1 rfl ?_
        refine jr_callVi (As := []) (a := 0) (ci := 6) (st := []) hz (cx_SS_faultAt l D G hz.2.2.2.2.2.2.1 X) (fun _ _ => ⟨lq_0, _, ly_0⟩) wv_LW_50 ⟨rfl, rfl, Nat.le_of_ble_eq_true rfl, Nat.le_of_ble_eq_true rfl⟩ hcs rfl rfl (Nat.le_of_ble_eq_true rfl) d_LW_law_295 (fun r74 X17 => ?_)
        refine jr_aload_n hz d_LW_law_298 rfl 2 rfl ?_
        refine jr_callVi (As := []) (a := 206) (ci := 7) (st := [.int r74]) hz (cx_MD_faultAt l D G hz.2.2.2.2.2.2.1 X17) (fun _ _ => ⟨lq_206, _, ly_206⟩) wv_LW_53 ⟨rfl, rfl, Nat.le_of_ble_eq_true rfl, Nat.le_of_ble_eq_true rfl⟩ hcs rfl rfl (Nat.le_of_ble_eq_true rfl) d_LW_law_299 (fun r78 X18 => ?_)
        refine jr_icmp_eq (tgt := 389) hz d_LW_law_302 (by decide) ?_ ?_
        · refine jr_iinc (lf := [(0, .ref b), (1, .ref (G.1 0)), (2, .ref (G.1 206))]) (w := 4) hz d_LW_law_389 3 rfl (by decide) (by decide) rfl (fun v82 => ?_)
          refine jr_goto (tgt := 18) hz d_LW_law_392 (by decide) ?_
          refine jr_sub (ls' := [(0, .ref b), (1, .ref (G.1 0)), (2, .ref (G.1 206)), (3, .int v82)]) [1, 2, 3, 0] rfl ?_
          exact ih v82 X18
        · refine jr_iconst (v := 0) hz d_LW_law_305 (by decide) ?_
          exact jr_lwret hz hbz hlr hlk hcs d_LW_law_306
      refine jr_ite (fun hs9 => ?_) (fun hs9 => ?_)
      · refine jr_tableIn (off := 275) (tgt := 307) hz d_LW_law_32 (by rw [hs9]; decide) (by rw [hs9]; decide) (by rw [hs9]; first | done | decide | rfl) (by decide) ?_
        refine jr_aload_n hz d_LW_law_307 rfl 1 rfl ?_
        refine jr_callVi (As := []) (a := 0) (ci := 6) (st := []) hz (cx_SS_done l D G hz.2.2.2.2.2.2.1 X) (fun _ _ => ⟨lq_0, _, ly_0⟩) wv_LW_54 ⟨rfl, rfl, Nat.le_of_ble_eq_true rfl, Nat.le_of_ble_eq_true rfl⟩ hcs rfl rfl (Nat.le_of_ble_eq_true rfl) d_LW_law_308 (fun r83 X19 => ?_)
        refine jr_aload_n hz d_LW_law_311 rfl 2 rfl ?_
        refine jr_callVi (As := []) (a := 206) (ci := 7) (st := [.int r83]) hz (cx_MD_done l D G hz.2.2.2.2.2.2.1 X19) (fun _ _ => ⟨lq_206, _, ly_206⟩) wv_LW_57 ⟨rfl, rfl, Nat.le_of_ble_eq_true rfl, Nat.le_of_ble_eq_true rfl⟩ hcs rfl rfl (Nat.le_of_ble_eq_true rfl) d_LW_law_312 (fun r87 X20 => ?_)
        refine jr_icmp_eq (tgt := 389) hz d_LW_law_315 (by decide) ?_ ?_
        · refine jr_iinc (lf := [(0, .ref b), (1, .ref (G.1 0)), (2, .ref (G.1 206))]) (w := 4) hz d_LW_law_389 3 rfl (by decide) (by decide) rfl (fun v91 => ?_)
          refine jr_goto (tgt := 18) hz d_LW_law_392 (by decide) ?_
          refine jr_sub (ls' := [(0, .ref b), (1, .ref (G.1 0)), (2, .ref (G.1 206)), (3, .int v91)]) [1, 2, 3, 0] rfl ?_
          exact ih v91 X20
        · refine jr_iconst (v := 0) hz d_LW_law_318 (by decide) ?_
          exact jr_lwret hz hbz hlr hlk hcs d_LW_law_319
      refine jr_ite (fun hs10 => ?_) (fun hs10 => ?_)
      · refine jr_tableIn (off := 288) (tgt := 320) hz d_LW_law_32 (by rw [hs10]; decide) (by rw [hs10]; decide) (by rw [hs10]; first | done | decide | rfl) (by decide) ?_
        refine jr_aload_n hz d_LW_law_320 rfl 1 rfl ?_
        refine jr_callVi (As := []) (a := 0) (ci := 6) (st := []) hz (cx_SS_items l D G hz.2.2.2.2.2.2.1 X) (fun _ _ => ⟨lq_0, _, ly_0⟩) wv_LW_58 ⟨rfl, rfl, Nat.le_of_ble_eq_true rfl, Nat.le_of_ble_eq_true rfl⟩ hcs rfl rfl (Nat.le_of_ble_eq_true rfl) d_LW_law_321 (fun r92 X21 => ?_)
        refine jr_aload_n hz d_LW_law_324 rfl 2 rfl ?_
        refine jr_callVi (As := []) (a := 206) (ci := 7) (st := [.int r92]) hz (cx_MD_items l D G hz.2.2.2.2.2.2.1 X21) (fun _ _ => ⟨lq_206, _, ly_206⟩) wv_LW_61 ⟨rfl, rfl, Nat.le_of_ble_eq_true rfl, Nat.le_of_ble_eq_true rfl⟩ hcs rfl rfl (Nat.le_of_ble_eq_true rfl) d_LW_law_325 (fun r96 X22 => ?_)
        refine jr_icmp_eq (tgt := 389) hz d_LW_law_328 (by decide) ?_ ?_
        · refine jr_iinc (lf := [(0, .ref b), (1, .ref (G.1 0)), (2, .ref (G.1 206))]) (w := 4) hz d_LW_law_389 3 rfl (by decide) (by decide) rfl (fun v100 => ?_)
          refine jr_goto (tgt := 18) hz d_LW_law_392 (by decide) ?_
          refine jr_sub (ls' := [(0, .ref b), (1, .ref (G.1 0)), (2, .ref (G.1 206)), (3, .int v100)]) [1, 2, 3, 0] rfl ?_
          exact ih v100 X22
        · refine jr_iconst (v := 0) hz d_LW_law_331 (by decide) ?_
          exact jr_lwret hz hbz hlr hlk hcs d_LW_law_332
      refine jr_ite (fun hs11 => ?_) (fun hs11 => ?_)
      · refine jr_tableIn (off := 301) (tgt := 333) hz d_LW_law_32 (by rw [hs11]; decide) (by rw [hs11]; decide) (by rw [hs11]; first | done | decide | rfl) (by decide) ?_
        refine jr_aload_n hz d_LW_law_333 rfl 1 rfl ?_
        refine jr_aload_n hz d_LW_law_334 rfl 0 rfl ?_
        refine jr_iload_n hz d_LW_law_335 rfl 3 rfl ?_
        refine jr_iconst (v := 1) hz d_LW_law_336 (by decide) ?_
        refine jr_iadd hz d_LW_law_337 ?_
        refine jr_sld hz hX hbl hbA d_LW_law_338 ?_
        refine jr_callVi (As := [.int (xs ((a3 + 1) : Int32).toNatClampNeg)]) (a := 0) (ci := 6) (st := []) hz (cx_SS_itemLength l D G hz.2.2.2.2.2.2.1 (xs ((a3 + 1) : Int32).toNatClampNeg) X) (fun _ _ => ⟨lq_0, _, ly_0⟩) wv_LW_62 ⟨rfl, rfl, Nat.le_of_ble_eq_true rfl, Nat.le_of_ble_eq_true rfl⟩ hcs rfl rfl (Nat.le_of_ble_eq_true rfl) d_LW_law_339 (fun r101 X23 => ?_)
        refine jr_aload_n hz d_LW_law_342 rfl 2 rfl ?_
        refine jr_aload_n hz d_LW_law_343 rfl 0 rfl ?_
        refine jr_iload_n hz d_LW_law_344 rfl 3 rfl ?_
        refine jr_iconst (v := 1) hz d_LW_law_345 (by decide) ?_
        refine jr_iadd hz d_LW_law_346 ?_
        refine jr_sld hz hX hbl hbA d_LW_law_347 ?_
        refine jr_callVi (As := [.int (xs ((a3 + 1) : Int32).toNatClampNeg)]) (a := 206) (ci := 7) (st := [.int r101]) hz (cx_MD_itemLength l D G hz.2.2.2.2.2.2.1 (xs ((a3 + 1) : Int32).toNatClampNeg) X23) (fun _ _ => ⟨lq_206, _, ly_206⟩) wv_LW_65 ⟨rfl, rfl, Nat.le_of_ble_eq_true rfl, Nat.le_of_ble_eq_true rfl⟩ hcs rfl rfl (Nat.le_of_ble_eq_true rfl) d_LW_law_348 (fun r105 X24 => ?_)
        refine jr_icmp_eq (tgt := 389) hz d_LW_law_351 (by decide) ?_ ?_
        · refine jr_iinc (lf := [(0, .ref b), (1, .ref (G.1 0)), (2, .ref (G.1 206))]) (w := 4) hz d_LW_law_389 3 rfl (by decide) (by decide) rfl (fun v109 => ?_)
          refine jr_goto (tgt := 18) hz d_LW_law_392 (by decide) ?_
          refine jr_sub (ls' := [(0, .ref b), (1, .ref (G.1 0)), (2, .ref (G.1 206)), (3, .int v109)]) [1, 2, 3, 0] rfl ?_
          exact ih v109 X24
        · refine jr_iconst (v := 0) hz d_LW_law_354 (by decide) ?_
          exact jr_lwret hz hbz hlr hlk hcs d_LW_law_355
      refine jr_ite (fun hs12 => ?_) (fun hs12 => ?_)
      · refine jr_tableIn (off := 324) (tgt := 356) hz d_LW_law_32 (by rw [hs12]; decide) (by rw [hs12]; decide) (by rw [hs12]; first | done | decide | rfl) (by decide) ?_
        refine jr_aload_n hz d_LW_law_356 rfl 1 rfl ?_
        refine jr_aload_n hz d_LW_law_357 rfl 0 rfl ?_
        refine jr_iload_n hz d_LW_law_358 rfl 3 rfl ?_
        refine jr_iconst (v := 1) hz d_LW_law_359 (by decide) ?_
        refine jr_iadd hz d_LW_law_360 ?_
        refine jr_sld hz hX hbl hbA d_LW_law_361 ?_
        refine jr_aload_n hz d_LW_law_362 rfl 0 rfl ?_
        refine jr_iload_n hz d_LW_law_363 rfl 3 rfl ?_
        refine jr_iconst (v := 2) hz d_LW_law_364 (by decide) ?_
        refine jr_iadd hz d_LW_law_365 ?_
        refine jr_sld hz hX hbl hbA d_LW_law_366 ?_
        refine jr_callVi (As := [.int (xs ((a3 + 1) : Int32).toNatClampNeg), .int (xs ((a3 + 2) : Int32).toNatClampNeg)]) (a := 0) (ci := 6) (st := []) hz (cx_SS_itemByte l D G hz.2.2.2.2.2.2.1 (xs ((a3 + 1) : Int32).toNatClampNeg) (xs ((a3 + 2) : Int32).toNatClampNeg) X) (fun _ _ => ⟨lq_0, _, ly_0⟩) wv_LW_66 ⟨rfl, rfl, Nat.le_of_ble_eq_true rfl, Nat.le_of_ble_eq_true rfl⟩ hcs rfl rfl (Nat.le_of_ble_eq_true rfl) d_LW_law_367 (fun r110 X25 => ?_)
        refine jr_aload_n hz d_LW_law_370 rfl 2 rfl ?_
        refine jr_aload_n hz d_LW_law_371 rfl 0 rfl ?_
        refine jr_iload_n hz d_LW_law_372 rfl 3 rfl ?_
        refine jr_iconst (v := 1) hz d_LW_law_373 (by decide) ?_
        refine jr_iadd hz d_LW_law_374 ?_
        refine jr_sld hz hX hbl hbA d_LW_law_375 ?_
        refine jr_aload_n hz d_LW_law_376 rfl 0 rfl ?_
        refine jr_iload_n hz d_LW_law_377 rfl 3 rfl ?_
        refine jr_iconst (v := 2) hz d_LW_law_378 (by decide) ?_
        refine jr_iadd hz d_LW_law_379 ?_
        refine jr_sld hz hX hbl hbA d_LW_law_380 ?_
        refine jr_callVi (As := [.int (xs ((a3 + 1) : Int32).toNatClampNeg), .int (xs ((a3 + 2) : Int32).toNatClampNeg)]) (a := 206) (ci := 7) (st := [.int r110]) hz (cx_MD_itemByte l D G hz.2.2.2.2.2.2.1 (xs ((a3 + 1) : Int32).toNatClampNeg) (xs ((a3 + 2) : Int32).toNatClampNeg) X25) (fun _ _ => ⟨lq_206, _, ly_206⟩) wv_LW_70 ⟨rfl, rfl, Nat.le_of_ble_eq_true rfl, Nat.le_of_ble_eq_true rfl⟩ hcs rfl rfl (Nat.le_of_ble_eq_true rfl) d_LW_law_381 (fun r114 X26 => ?_)
        refine jr_icmp_eq (tgt := 389) hz d_LW_law_384 (by decide) ?_ ?_
        · refine jr_iinc (lf := [(0, .ref b), (1, .ref (G.1 0)), (2, .ref (G.1 206))]) (w := 4) hz d_LW_law_389 3 rfl (by decide) (by decide) rfl (fun v118 => ?_)
          refine jr_goto (tgt := 18) hz d_LW_law_392 (by decide) ?_
          refine jr_sub (ls' := [(0, .ref b), (1, .ref (G.1 0)), (2, .ref (G.1 206)), (3, .int v118)]) [1, 2, 3, 0] rfl ?_
          exact ih v118 X26
        · refine jr_iconst (v := 0) hz d_LW_law_387 (by decide) ?_
          exact jr_lwret hz hbz hlr hlk hcs d_LW_law_388
      refine jr_tableOut (tgt := 389) hz d_LW_law_32 (by have := lv_neT (k := 0) hs0 (show _ = (0 : Int) by decide); have := lv_neT (k := 1) hs1 (show _ = (1 : Int) by decide); have := lv_neT (k := 2) hs2 (show _ = (2 : Int) by decide); have := lv_neT (k := 3) hs3 (show _ = (3 : Int) by decide); have := lv_neT (k := 4) hs4 (show _ = (4 : Int) by decide); have := lv_neT (k := 5) hs5 (show _ = (5 : Int) by decide); have := lv_neT (k := 6) hs6 (show _ = (6 : Int) by decide); have := lv_neT (k := 7) hs7 (show _ = (7 : Int) by decide); have := lv_neT (k := 8) hs8 (show _ = (8 : Int) by decide); have := lv_neT (k := 9) hs9 (show _ = (9 : Int) by decide); have := lv_neT (k := 10) hs10 (show _ = (10 : Int) by decide); have := lv_neT (k := 11) hs11 (show _ = (11 : Int) by decide); have := lv_neT (k := 12) hs12 (show _ = (12 : Int) by decide); omega) (by decide) ?_
      refine jr_iinc (lf := [(0, .ref b), (1, .ref (G.1 0)), (2, .ref (G.1 206))]) (w := 4) hz d_LW_law_389 3 rfl (by decide) (by decide) rfl (fun v1 => ?_)
      refine jr_goto (tgt := 18) hz d_LW_law_392 (by decide) ?_
      refine jr_sub (ls' := [(0, .ref b), (1, .ref (G.1 0)), (2, .ref (G.1 206)), (3, .int v1)]) [1, 2, 3, 0] rfl ?_
      exact ih v1 X

/-! Contracts over the abstract heap: xh_M .. X k: if the pure program k ends with (r, X'), the method returns r and leaves X'. -/
def xh_W (D : va_G) (G : xh_G) (X : xh_T) (U : State) : Prop := va_P D sp_cl (xh_w G X) U.heap ∧ va_K D sp_cl (xh_ty G) U
def xh_Pc (D : va_G) (G : xh_G) (av : List Value) (X : xh_T) (sz : Nat) : Array Value → State → Prop := va_Pc av (fun U => U.heap.size = sz ∧ va_P D sp_cl (xh_w G X) U.heap ∧ va_K D sp_cl (xh_ty G) U)
def xh_Qi (D : va_G) (G : xh_G) (A : Nat → Prop) (r : Int32) (X' : xh_T) : Array Value → State → Outcome → State → Prop := va_Qi (fun r1 u => r1 = r ∧ u = X') (xh_W D G) A
def xh_Ql (D : va_G) (G : xh_G) (A : Nat → Prop) (r : Int64) (X' : xh_T) : Array Value → State → Outcome → State → Prop := va_Ql (fun r1 u => r1 = r ∧ u = X') (xh_W D G) A
def xh_Qv (D : va_G) (G : xh_G) (A : Nat → Prop) (_ : Unit) (X' : xh_T) : Array Value → State → Outcome → State → Prop := va_Qv (fun u => u = X') (xh_W D G) A
def xh_Qr (D : va_G) (G : xh_G) (A : Nat → Prop) (q : Nat) (X' : xh_T) : Array Value → State → Outcome → State → Prop := va_Qr (fun u => u = X') (fun u a t => a = G.1 q ∧ xh_W D G u t) A
def xh_M {ρ : Type} (Qx : va_G → xh_G → (Nat → Prop) → ρ → xh_T → Array Value → State → Outcome → State → Prop) (l : Launch) (D : va_G) (G : xh_G) (y : MethodName) (bytes : ByteArray) (maxL : Nat) (ret : Option FieldType) (rm : Room) (av : List Value) (X : xh_T) (k : Option (ρ × xh_T)) : Prop :=
  ∀ (r : ρ) (X' : xh_T), k = some (r, X') → ∀ sz : Nat, Met l y (Cond.code y bytes maxL ret :: sp_ws) rm (xh_Pc D G av X sz) (Qx D G (xh_A G sz) r X') 0 0 (xh_A G sz)
theorem xh_blind {D : va_G} {G : xh_G} {av : List Value} {X : xh_T} {sz : Nat} : FrameBlind (xh_Pc D G av X sz) := fun a U g mk q => by
  obtain ⟨q0, q1, qP, qK⟩ := q
  exact ⟨q0, q1, qP, va_K.moved (u := U) (U := U.calling g mk a) (Vm.Alike.refl U.vm) qK⟩
theorem xh_enter {ρ : Type} {Qx : va_G → xh_G → (Nat → Prop) → ρ → xh_T → Array Value → State → Outcome → State → Prop} {l : Launch} {D : va_G} {G : xh_G} {y : MethodName} {bytes : ByteArray} {maxL : Nat} {ret : Option FieldType} {rm : Room} {av : List Value} {X : xh_T} {k : Option (ρ × xh_T)} {ls : List (Nat × Value)} (hD : xh_D G) (hy : plainName y.cls = true) (hlen : (lg_sl av).length ≤ maxL) (hls : lv_args 0 av = ls)
    (body : ∀ (p : Program) (e : Env) (s : State) (m : MethodId) (args : Array Value) (below : List Frame) (meth : Method) (c : Code), xh_C p s m args c bytes maxL y.cls D G (xh_A G s.heap.size) → meth.sig.returnType = ret → meth.locks = false →
      xh_J p l e rm s m args below meth c 0 0 D G (xh_A G s.heap.size) maxL (fun r X' => MQ below (Qx D G (xh_A G s.heap.size) r X') args s 0 0 (xh_A G s.heap.size)) 0 ls [] X k) : xh_M Qx l D G y bytes maxL ret rm av X k := by
  intro r X' hk sz
  refine Met.ofW (cc := bytes) (maxL := maxL) (ret := ret) hy rfl ?_
  intro p e s m args below meth c s₁ B hml hv
  obtain ⟨rfl, hsz, hP, hK⟩ := hv
  subst hsz
  have hts := atoms_spec (ws := Cond.code y bytes maxL ret :: sp_ws) B.pre
  have hl := lv_entry av (n := maxL) hlen
  rw [lg_entry_eq]
  rw [hls] at hl
  exact body p e s m _ below meth c ⟨B.exec, B.bytes, hml, findClass_of_methodNamed B.named, fun w h => hts w (List.mem_cons_of_mem _ h), hK, hD, fun _ h => h⟩ B.returns B.notSynchronized r X' hk s.heap [] _ hP va_S.rf hl
/-- a call's words: an instance method, a static one -/
def xh_V (own : String) (idx ci : Nat) (y : MethodName) (bytes : ByteArray) (maxL : Nat) (ret : Option FieldType) (n : Nat) : Prop := Cond.code y bytes maxL ret ∈ sp_ws ∧ Cond.initialized y.cls ∈ sp_ws ∧ Cond.methodLink own idx y ∈ sp_ws ∧ (y.cls ≠ "java/lang/invoke/MethodHandle" ∧ y.cls ≠ "java/lang/invoke/VarHandle" ∧ (parseMethodDescriptor y.desc).map (fun d => d.parameters.length) = some n) ∧ Cond.instanceMethod y ∈ sp_ws ∧ Cond.selects y.cls y y ∈ sp_ws ∧ ∃ (T : u_T) (N : Nat), sp_cl[ci]? = some (y.cls, T, N)
def xh_S (own : String) (idx : Nat) (y : MethodName) (bytes : ByteArray) (maxL : Nat) (ret : Option FieldType) (n : Nat) : Prop := Cond.code y bytes maxL ret ∈ sp_ws ∧ Cond.initialized y.cls ∈ sp_ws ∧ Cond.methodLink own idx y ∈ sp_ws ∧ (y.cls ≠ "java/lang/invoke/MethodHandle" ∧ y.cls ≠ "java/lang/invoke/VarHandle" ∧ (parseMethodDescriptor y.desc).map (fun d => d.parameters.length) = some n) ∧ Cond.static y ∈ sp_ws
/-- the callee's room fits the caller's -/
def xh_R (rm R : Room) (maxL : Nat) : Prop := rm.cells = 0 ∧ rm.slots = 0 ∧ rm.frames + 1 ≤ R.frames ∧ 8 + (maxL + 11) + rm.locals ≤ R.locals
theorem xh_b_some {α β : Type} {o : Option (α × xh_T)} {K : α → xh_T → Option β} {z : β} (h : xh_b o K = some z) : ∃ r X, o = some (r, X) ∧ K r X = some z := by
  cases o with
  | none => cases h
  | some q => exact ⟨q.1, q.2, rfl, h⟩
theorem xh_k_t {β : Type} {b : Bool} {K : Option β} {z : β} (h : xh_k b K = some z) : b = true := by
  unfold xh_k at h
  by_cases g : b = true
  · exact g
  · rw [if_neg g] at h; cases h

section JC
variable {p : Program} {l : Launch} {e : Env} {R : Room} {s : State} {m : MethodId} {args : Array Value} {below : List Frame} {meth : Method} {c : Code} {cells slots : Nat} {cc : ByteArray} {nL : Nat} {own : String} {D : va_G} {G : xh_G} {A : Nat → Prop} {ρ : Type} {QQ : ρ → xh_T → State → Prop} {pc : Nat} {ls : List (Nat × Value)} {st : List Value} {X : xh_T} {k : Option (ρ × xh_T)}
theorem jr_callVi {idx n maxL : Nat} {ci a : Nat} {y : MethodName} {bytes : ByteArray} {ret : Option FieldType} {rm : Room} {As st0 : List Value} {kc : Option (Int32 × xh_T)} {K : Int32 → xh_T → Option (ρ × xh_T)} (hz : xh_C p s m args c cc nL own D G A) (hM : xh_M xh_Qi l D G y bytes maxL ret rm (.ref (G.1 a) :: As) X kc) (hv : ∀ z, kc = some z → a < sp_n ∧ ∃ fds, sp_lay a = .inr (ci, fds)) (hw : xh_V own idx ci y bytes maxL ret n) (hR : xh_R rm R maxL) (hcs : cells ≤ R.cells ∧ slots ≤ R.slots) (hn : As.length = n) (hst : st0 = As.reverse ++ .ref (G.1 a) :: st) (hcat : (st.map fun v => v.category).sum ≤ 8) (d : decode cc pc = .ok (.invokevirtual idx, 3)) (kk : ∀ r X1, xh_J p l e R s m args below meth c cells slots D G A nL QQ (pc + 3) ls (.int r :: st) X1 (K r X1)) : xh_J p l e R s m args below meth c cells slots D G A nL QQ pc ls st0 X (xh_b kc K) := fun r X' hk H locs la hP hS hL => by
  obtain ⟨r0, X0, hkc, hk⟩ := xh_b_some hk
  have hMm := hM r0 X0 hkc H.size
  have hA1 : ∀ q, xh_A G H.size q → A q := fun q h => hz.2.2.2.2.2.2.2 q (h.imp id (fun h => Nat.le_trans hS.1 h))
  have hts := hz.2.2.2.2.1
  have hK := hz.2.2.2.2.2.1
  obtain ⟨hlt, fds, hlay⟩ := hv _ hkc
  have hat := xh_at (G := G) (X := X) hlt
  rw [hlay] at hat
  obtain ⟨w1, w2, w3, w4, w5, w6, T, N, w7⟩ := hw
  refine va_calli (va_runV (C := y.cls) (As := As) (rest := st) ⟨hz.1, hz.2.1, hz.2.2.1, hz.2.2.2.1, hts⟩ hMm ⟨callB_of n hts (sp_good w1) rfl hR.1 hR.2.1 (hts _ w2) (hts _ w3) w4 hR.2.2, hts _ w5, hts _ w6⟩ ⟨xh_blind, va_recv hK hP w7 hat, fun U hU hW => ⟨rfl, by rw [hU], by rw [hU]; exact hP, va_K.moved hW.alike hK⟩⟩ rfl hn hL.1 hst (lv_room hcat) d ⟨hcs.1, hcs.2⟩) hS (fun q _ h => hA1 q h) hA1 (fun r1 u t H1 locs1 ht hvm hpost hB hsz hk1 hS1 => ?_)
  obtain ⟨rfl, rfl⟩ := hpost
  exact kk _ _ r X' hk H1 locs1 la (by rw [← ht]; exact hB.1) hS1 hL
theorem jr_callSi {idx n maxL : Nat} {y : MethodName} {bytes : ByteArray} {ret : Option FieldType} {rm : Room} {As st0 : List Value} {kc : Option (Int32 × xh_T)} {K : Int32 → xh_T → Option (ρ × xh_T)} (hz : xh_C p s m args c cc nL own D G A) (hM : xh_M xh_Qi l D G y bytes maxL ret rm As X kc) (hw : xh_S own idx y bytes maxL ret n) (hR : xh_R rm R maxL) (hcs : cells ≤ R.cells ∧ slots ≤ R.slots) (hn : As.length = n) (hst : st0 = As.reverse ++ st) (hcat : (st.map fun v => v.category).sum ≤ 8) (d : decode cc pc = .ok (.invokestatic idx, 3)) (kk : ∀ r X1, xh_J p l e R s m args below meth c cells slots D G A nL QQ (pc + 3) ls (.int r :: st) X1 (K r X1)) : xh_J p l e R s m args below meth c cells slots D G A nL QQ pc ls st0 X (xh_b kc K) := fun r X' hk H locs la hP hS hL => by
  obtain ⟨r0, X0, hkc, hk⟩ := xh_b_some hk
  have hMm := hM r0 X0 hkc H.size
  have hA1 : ∀ q, xh_A G H.size q → A q := fun q h => hz.2.2.2.2.2.2.2 q (h.imp id (fun h => Nat.le_trans hS.1 h))
  have hts := hz.2.2.2.2.1
  have hK := hz.2.2.2.2.2.1
  obtain ⟨w1, w2, w3, w4, w5⟩ := hw
  refine va_calli (va_runS (As := As) (rest := st) ⟨hz.1, hz.2.1, hz.2.2.1, hz.2.2.2.1, hts⟩ hMm ⟨callB_of n hts (sp_good w1) rfl hR.1 hR.2.1 (hts _ w2) (hts _ w3) w4 hR.2.2, hts _ w5⟩ ⟨xh_blind, fun U hU hW => ⟨rfl, by rw [hU], by rw [hU]; exact hP, va_K.moved hW.alike hK⟩⟩ rfl hn hL.1 hst (lv_room hcat) d ⟨hcs.1, hcs.2⟩) hS (fun q _ h => hA1 q h) hA1 (fun r1 u t H1 locs1 ht hvm hpost hB hsz hk1 hS1 => ?_)
  obtain ⟨rfl, rfl⟩ := hpost
  exact kk _ _ r X' hk H1 locs1 la (by rw [← ht]; exact hB.1) hS1 hL
theorem jr_callVl {idx n maxL : Nat} {ci a : Nat} {y : MethodName} {bytes : ByteArray} {ret : Option FieldType} {rm : Room} {As st0 : List Value} {kc : Option (Int64 × xh_T)} {K : Int64 → xh_T → Option (ρ × xh_T)} (hz : xh_C p s m args c cc nL own D G A) (hM : xh_M xh_Ql l D G y bytes maxL ret rm (.ref (G.1 a) :: As) X kc) (hv : ∀ z, kc = some z → a < sp_n ∧ ∃ fds, sp_lay a = .inr (ci, fds)) (hw : xh_V own idx ci y bytes maxL ret n) (hR : xh_R rm R maxL) (hcs : cells ≤ R.cells ∧ slots ≤ R.slots) (hn : As.length = n) (hst : st0 = As.reverse ++ .ref (G.1 a) :: st) (hcat : (st.map fun v => v.category).sum ≤ 8) (d : decode cc pc = .ok (.invokevirtual idx, 3)) (kk : ∀ r X1, xh_J p l e R s m args below meth c cells slots D G A nL QQ (pc + 3) ls (.long r :: st) X1 (K r X1)) : xh_J p l e R s m args below meth c cells slots D G A nL QQ pc ls st0 X (xh_b kc K) := fun r X' hk H locs la hP hS hL => by
  obtain ⟨r0, X0, hkc, hk⟩ := xh_b_some hk
  have hMm := hM r0 X0 hkc H.size
  have hA1 : ∀ q, xh_A G H.size q → A q := fun q h => hz.2.2.2.2.2.2.2 q (h.imp id (fun h => Nat.le_trans hS.1 h))
  have hts := hz.2.2.2.2.1
  have hK := hz.2.2.2.2.2.1
  obtain ⟨hlt, fds, hlay⟩ := hv _ hkc
  have hat := xh_at (G := G) (X := X) hlt
  rw [hlay] at hat
  obtain ⟨w1, w2, w3, w4, w5, w6, T, N, w7⟩ := hw
  refine va_calll (va_runV (C := y.cls) (As := As) (rest := st) ⟨hz.1, hz.2.1, hz.2.2.1, hz.2.2.2.1, hts⟩ hMm ⟨callB_of n hts (sp_good w1) rfl hR.1 hR.2.1 (hts _ w2) (hts _ w3) w4 hR.2.2, hts _ w5, hts _ w6⟩ ⟨xh_blind, va_recv hK hP w7 hat, fun U hU hW => ⟨rfl, by rw [hU], by rw [hU]; exact hP, va_K.moved hW.alike hK⟩⟩ rfl hn hL.1 hst (lv_room hcat) d ⟨hcs.1, hcs.2⟩) hS (fun q _ h => hA1 q h) hA1 (fun r1 u t H1 locs1 ht hvm hpost hB hsz hk1 hS1 => ?_)
  obtain ⟨rfl, rfl⟩ := hpost
  exact kk _ _ r X' hk H1 locs1 la (by rw [← ht]; exact hB.1) hS1 hL
theorem jr_callSl {idx n maxL : Nat} {y : MethodName} {bytes : ByteArray} {ret : Option FieldType} {rm : Room} {As st0 : List Value} {kc : Option (Int64 × xh_T)} {K : Int64 → xh_T → Option (ρ × xh_T)} (hz : xh_C p s m args c cc nL own D G A) (hM : xh_M xh_Ql l D G y bytes maxL ret rm As X kc) (hw : xh_S own idx y bytes maxL ret n) (hR : xh_R rm R maxL) (hcs : cells ≤ R.cells ∧ slots ≤ R.slots) (hn : As.length = n) (hst : st0 = As.reverse ++ st) (hcat : (st.map fun v => v.category).sum ≤ 8) (d : decode cc pc = .ok (.invokestatic idx, 3)) (kk : ∀ r X1, xh_J p l e R s m args below meth c cells slots D G A nL QQ (pc + 3) ls (.long r :: st) X1 (K r X1)) : xh_J p l e R s m args below meth c cells slots D G A nL QQ pc ls st0 X (xh_b kc K) := fun r X' hk H locs la hP hS hL => by
  obtain ⟨r0, X0, hkc, hk⟩ := xh_b_some hk
  have hMm := hM r0 X0 hkc H.size
  have hA1 : ∀ q, xh_A G H.size q → A q := fun q h => hz.2.2.2.2.2.2.2 q (h.imp id (fun h => Nat.le_trans hS.1 h))
  have hts := hz.2.2.2.2.1
  have hK := hz.2.2.2.2.2.1
  obtain ⟨w1, w2, w3, w4, w5⟩ := hw
  refine va_calll (va_runS (As := As) (rest := st) ⟨hz.1, hz.2.1, hz.2.2.1, hz.2.2.2.1, hts⟩ hMm ⟨callB_of n hts (sp_good w1) rfl hR.1 hR.2.1 (hts _ w2) (hts _ w3) w4 hR.2.2, hts _ w5⟩ ⟨xh_blind, fun U hU hW => ⟨rfl, by rw [hU], by rw [hU]; exact hP, va_K.moved hW.alike hK⟩⟩ rfl hn hL.1 hst (lv_room hcat) d ⟨hcs.1, hcs.2⟩) hS (fun q _ h => hA1 q h) hA1 (fun r1 u t H1 locs1 ht hvm hpost hB hsz hk1 hS1 => ?_)
  obtain ⟨rfl, rfl⟩ := hpost
  exact kk _ _ r X' hk H1 locs1 la (by rw [← ht]; exact hB.1) hS1 hL
theorem jr_callVv {idx n maxL : Nat} {ci a : Nat} {y : MethodName} {bytes : ByteArray} {ret : Option FieldType} {rm : Room} {As st0 : List Value} {kc : Option (Unit × xh_T)} {K : Unit → xh_T → Option (ρ × xh_T)} (hz : xh_C p s m args c cc nL own D G A) (hM : xh_M xh_Qv l D G y bytes maxL ret rm (.ref (G.1 a) :: As) X kc) (hv : ∀ z, kc = some z → a < sp_n ∧ ∃ fds, sp_lay a = .inr (ci, fds)) (hw : xh_V own idx ci y bytes maxL ret n) (hR : xh_R rm R maxL) (hcs : cells ≤ R.cells ∧ slots ≤ R.slots) (hn : As.length = n) (hst : st0 = As.reverse ++ .ref (G.1 a) :: st) (hcat : (st.map fun v => v.category).sum ≤ 8) (d : decode cc pc = .ok (.invokevirtual idx, 3)) (kk : ∀ r X1, xh_J p l e R s m args below meth c cells slots D G A nL QQ (pc + 3) ls (st) X1 (K r X1)) : xh_J p l e R s m args below meth c cells slots D G A nL QQ pc ls st0 X (xh_b kc K) := fun r X' hk H locs la hP hS hL => by
  obtain ⟨r0, X0, hkc, hk⟩ := xh_b_some hk
  have hMm := hM r0 X0 hkc H.size
  have hA1 : ∀ q, xh_A G H.size q → A q := fun q h => hz.2.2.2.2.2.2.2 q (h.imp id (fun h => Nat.le_trans hS.1 h))
  have hts := hz.2.2.2.2.1
  have hK := hz.2.2.2.2.2.1
  obtain ⟨hlt, fds, hlay⟩ := hv _ hkc
  have hat := xh_at (G := G) (X := X) hlt
  rw [hlay] at hat
  obtain ⟨w1, w2, w3, w4, w5, w6, T, N, w7⟩ := hw
  refine va_callv (va_runV (C := y.cls) (As := As) (rest := st) ⟨hz.1, hz.2.1, hz.2.2.1, hz.2.2.2.1, hts⟩ hMm ⟨callB_of n hts (sp_good w1) rfl hR.1 hR.2.1 (hts _ w2) (hts _ w3) w4 hR.2.2, hts _ w5, hts _ w6⟩ ⟨xh_blind, va_recv hK hP w7 hat, fun U hU hW => ⟨rfl, by rw [hU], by rw [hU]; exact hP, va_K.moved hW.alike hK⟩⟩ rfl hn hL.1 hst (lv_room hcat) d ⟨hcs.1, hcs.2⟩) hS (fun q _ h => hA1 q h) hA1 (fun u t H1 locs1 ht hvm hpost hB hsz hk1 hS1 => ?_)
  obtain rfl := hpost
  exact kk _ _ r X' hk H1 locs1 la (by rw [← ht]; exact hB.1) hS1 hL
theorem jr_callSv {idx n maxL : Nat} {y : MethodName} {bytes : ByteArray} {ret : Option FieldType} {rm : Room} {As st0 : List Value} {kc : Option (Unit × xh_T)} {K : Unit → xh_T → Option (ρ × xh_T)} (hz : xh_C p s m args c cc nL own D G A) (hM : xh_M xh_Qv l D G y bytes maxL ret rm As X kc) (hw : xh_S own idx y bytes maxL ret n) (hR : xh_R rm R maxL) (hcs : cells ≤ R.cells ∧ slots ≤ R.slots) (hn : As.length = n) (hst : st0 = As.reverse ++ st) (hcat : (st.map fun v => v.category).sum ≤ 8) (d : decode cc pc = .ok (.invokestatic idx, 3)) (kk : ∀ r X1, xh_J p l e R s m args below meth c cells slots D G A nL QQ (pc + 3) ls (st) X1 (K r X1)) : xh_J p l e R s m args below meth c cells slots D G A nL QQ pc ls st0 X (xh_b kc K) := fun r X' hk H locs la hP hS hL => by
  obtain ⟨r0, X0, hkc, hk⟩ := xh_b_some hk
  have hMm := hM r0 X0 hkc H.size
  have hA1 : ∀ q, xh_A G H.size q → A q := fun q h => hz.2.2.2.2.2.2.2 q (h.imp id (fun h => Nat.le_trans hS.1 h))
  have hts := hz.2.2.2.2.1
  have hK := hz.2.2.2.2.2.1
  obtain ⟨w1, w2, w3, w4, w5⟩ := hw
  refine va_callv (va_runS (As := As) (rest := st) ⟨hz.1, hz.2.1, hz.2.2.1, hz.2.2.2.1, hts⟩ hMm ⟨callB_of n hts (sp_good w1) rfl hR.1 hR.2.1 (hts _ w2) (hts _ w3) w4 hR.2.2, hts _ w5⟩ ⟨xh_blind, fun U hU hW => ⟨rfl, by rw [hU], by rw [hU]; exact hP, va_K.moved hW.alike hK⟩⟩ rfl hn hL.1 hst (lv_room hcat) d ⟨hcs.1, hcs.2⟩) hS (fun q _ h => hA1 q h) hA1 (fun u t H1 locs1 ht hvm hpost hB hsz hk1 hS1 => ?_)
  obtain rfl := hpost
  exact kk _ _ r X' hk H1 locs1 la (by rw [← ht]; exact hB.1) hS1 hL
theorem jr_callVr {idx n maxL : Nat} {ci a : Nat} {y : MethodName} {bytes : ByteArray} {ret : Option FieldType} {rm : Room} {As st0 : List Value} {kc : Option (Nat × xh_T)} {K : Nat → xh_T → Option (ρ × xh_T)} (hz : xh_C p s m args c cc nL own D G A) (hM : xh_M xh_Qr l D G y bytes maxL ret rm (.ref (G.1 a) :: As) X kc) (hv : ∀ z, kc = some z → a < sp_n ∧ ∃ fds, sp_lay a = .inr (ci, fds)) (hw : xh_V own idx ci y bytes maxL ret n) (hR : xh_R rm R maxL) (hcs : cells ≤ R.cells ∧ slots ≤ R.slots) (hn : As.length = n) (hst : st0 = As.reverse ++ .ref (G.1 a) :: st) (hcat : (st.map fun v => v.category).sum ≤ 8) (d : decode cc pc = .ok (.invokevirtual idx, 3)) (kk : ∀ r X1, xh_J p l e R s m args below meth c cells slots D G A nL QQ (pc + 3) ls (.ref (G.1 r) :: st) X1 (K r X1)) : xh_J p l e R s m args below meth c cells slots D G A nL QQ pc ls st0 X (xh_b kc K) := fun r X' hk H locs la hP hS hL => by
  obtain ⟨r0, X0, hkc, hk⟩ := xh_b_some hk
  have hMm := hM r0 X0 hkc H.size
  have hA1 : ∀ q, xh_A G H.size q → A q := fun q h => hz.2.2.2.2.2.2.2 q (h.imp id (fun h => Nat.le_trans hS.1 h))
  have hts := hz.2.2.2.2.1
  have hK := hz.2.2.2.2.2.1
  obtain ⟨hlt, fds, hlay⟩ := hv _ hkc
  have hat := xh_at (G := G) (X := X) hlt
  rw [hlay] at hat
  obtain ⟨w1, w2, w3, w4, w5, w6, T, N, w7⟩ := hw
  refine va_callr (va_runV (C := y.cls) (As := As) (rest := st) ⟨hz.1, hz.2.1, hz.2.2.1, hz.2.2.2.1, hts⟩ hMm ⟨callB_of n hts (sp_good w1) rfl hR.1 hR.2.1 (hts _ w2) (hts _ w3) w4 hR.2.2, hts _ w5, hts _ w6⟩ ⟨xh_blind, va_recv hK hP w7 hat, fun U hU hW => ⟨rfl, by rw [hU], by rw [hU]; exact hP, va_K.moved hW.alike hK⟩⟩ rfl hn hL.1 hst (lv_room hcat) d ⟨hcs.1, hcs.2⟩) hS (fun q _ h => hA1 q h) hA1 (fun u ra t H1 locs1 ht hvm hpost hB hsz hk1 hS1 => ?_)
  obtain rfl := hpost
  obtain ⟨rfl, hB⟩ := hB
  exact kk _ _ r X' hk H1 locs1 la (by rw [← ht]; exact hB.1) hS1 hL
theorem jr_callSr {idx n maxL : Nat} {y : MethodName} {bytes : ByteArray} {ret : Option FieldType} {rm : Room} {As st0 : List Value} {kc : Option (Nat × xh_T)} {K : Nat → xh_T → Option (ρ × xh_T)} (hz : xh_C p s m args c cc nL own D G A) (hM : xh_M xh_Qr l D G y bytes maxL ret rm As X kc) (hw : xh_S own idx y bytes maxL ret n) (hR : xh_R rm R maxL) (hcs : cells ≤ R.cells ∧ slots ≤ R.slots) (hn : As.length = n) (hst : st0 = As.reverse ++ st) (hcat : (st.map fun v => v.category).sum ≤ 8) (d : decode cc pc = .ok (.invokestatic idx, 3)) (kk : ∀ r X1, xh_J p l e R s m args below meth c cells slots D G A nL QQ (pc + 3) ls (.ref (G.1 r) :: st) X1 (K r X1)) : xh_J p l e R s m args below meth c cells slots D G A nL QQ pc ls st0 X (xh_b kc K) := fun r X' hk H locs la hP hS hL => by
  obtain ⟨r0, X0, hkc, hk⟩ := xh_b_some hk
  have hMm := hM r0 X0 hkc H.size
  have hA1 : ∀ q, xh_A G H.size q → A q := fun q h => hz.2.2.2.2.2.2.2 q (h.imp id (fun h => Nat.le_trans hS.1 h))
  have hts := hz.2.2.2.2.1
  have hK := hz.2.2.2.2.2.1
  obtain ⟨w1, w2, w3, w4, w5⟩ := hw
  refine va_callr (va_runS (As := As) (rest := st) ⟨hz.1, hz.2.1, hz.2.2.1, hz.2.2.2.1, hts⟩ hMm ⟨callB_of n hts (sp_good w1) rfl hR.1 hR.2.1 (hts _ w2) (hts _ w3) w4 hR.2.2, hts _ w5⟩ ⟨xh_blind, fun U hU hW => ⟨rfl, by rw [hU], by rw [hU]; exact hP, va_K.moved hW.alike hK⟩⟩ rfl hn hL.1 hst (lv_room hcat) d ⟨hcs.1, hcs.2⟩) hS (fun q _ h => hA1 q h) hA1 (fun u ra t H1 locs1 ht hvm hpost hB hsz hk1 hS1 => ?_)
  obtain rfl := hpost
  obtain ⟨rfl, hB⟩ := hB
  exact kk _ _ r X' hk H1 locs1 la (by rw [← ht]; exact hB.1) hS1 hL
theorem jr_iret {v : Int32} (hz : xh_C p s m args c cc nL own D G A) (hr : meth.sig.returnType = some .int) (hlk : meth.locks = false) (d : decode cc pc = .ok (.ireturn, 1)) : xh_J p l e R s m args below meth c 0 0 D G A nL (fun r X' => MQ below (xh_Qi D G A r X') args s 0 0 A) pc ls [.int v] X (some (v, X)) := fun r X' hk H locs la hP hS hL => by
  obtain ⟨rfl, rfl⟩ := Prod.mk.inj (Option.some.inj hk)
  exact W.iret hz.1 hz.2.1 hr (fun t ht hW => ⟨⟨v, X, rfl, ⟨rfl, rfl⟩, by rw [ht]; exact hP, va_K.moved hW.alike hz.2.2.2.2.2.1⟩, hS.F ht⟩) hS.2.2 d hlk
theorem jr_zret {v : Int32} (hz : xh_C p s m args c cc nL own D G A) (hr : meth.sig.returnType = some .boolean) (hlk : meth.locks = false) (hv : narrow .boolean (.int v) = .int v) (d : decode cc pc = .ok (.ireturn, 1)) : xh_J p l e R s m args below meth c 0 0 D G A nL (fun r X' => MQ below (xh_Qi D G A r X') args s 0 0 A) pc ls [.int v] X (some (v, X)) := fun r X' hk H locs la hP hS hL => by
  obtain ⟨rfl, rfl⟩ := Prod.mk.inj (Option.some.inj hk)
  exact W.zret hz.1 hz.2.1 hr hv (fun t ht hW => ⟨⟨v, X, rfl, ⟨rfl, rfl⟩, by rw [ht]; exact hP, va_K.moved hW.alike hz.2.2.2.2.2.1⟩, hS.F ht⟩) hS.2.2 d hlk
theorem xh_nar {v : Int32} (h : v = 0 ∨ v = 1) : narrow .boolean (.int v) = .int v := by
  rcases h with rfl | rfl <;> decide +kernel
theorem jr_lret {v : Int64} (hz : xh_C p s m args c cc nL own D G A) (hr : meth.sig.returnType = some .long) (hlk : meth.locks = false) (d : decode cc pc = .ok (.lreturn, 1)) : xh_J p l e R s m args below meth c 0 0 D G A nL (fun r X' => MQ below (xh_Ql D G A r X') args s 0 0 A) pc ls [.long v] X (some (v, X)) := fun r X' hk H locs la hP hS hL => by
  obtain ⟨rfl, rfl⟩ := Prod.mk.inj (Option.some.inj hk)
  exact W.lret hz.1 hz.2.1 hr (fun t ht hW => ⟨⟨v, X, rfl, ⟨rfl, rfl⟩, by rw [ht]; exact hP, va_K.moved hW.alike hz.2.2.2.2.2.1⟩, hS.F ht⟩) hS.2.2 d hlk
theorem jr_vret (hz : xh_C p s m args c cc nL own D G A) (hr : meth.sig.returnType = none) (hlk : meth.locks = false) (d : decode cc pc = .ok (.return_, 1)) : xh_J p l e R s m args below meth c 0 0 D G A nL (fun r X' => MQ below (xh_Qv D G A r X') args s 0 0 A) pc ls [] X (some ((), X)) := fun r X' hk H locs la hP hS hL => by
  obtain ⟨rfl, rfl⟩ := Prod.mk.inj (Option.some.inj hk)
  exact W.vret hz.1 hz.2.1 hr (fun t ht hW => ⟨⟨X, rfl, rfl, by rw [ht]; exact hP, va_K.moved hW.alike hz.2.2.2.2.2.1⟩, hS.F ht⟩) hS.2.2 d hlk
theorem jr_aret {q : Nat} {C : String} (hz : xh_C p s m args c cc nL own D G A) (hr : meth.sig.returnType = some (.object C)) (hlk : meth.locks = false) (d : decode cc pc = .ok (.areturn, 1)) : xh_J p l e R s m args below meth c 0 0 D G A nL (fun r X' => MQ below (xh_Qr D G A r X') args s 0 0 A) pc ls [.ref (G.1 q)] X (some (q, X)) := fun r X' hk H locs la hP hS hL => by
  obtain ⟨rfl, rfl⟩ := Prod.mk.inj (Option.some.inj hk)
  exact W.aret hz.1 hz.2.1 hr (Or.inl ⟨C, rfl⟩) (Or.inr ⟨_, rfl⟩) (fun t ht hW => ⟨⟨X, G.1 q, rfl, rfl, rfl, by rw [ht]; exact hP, va_K.moved hW.alike hz.2.2.2.2.2.1⟩, hS.F ht⟩) hS.2.2 d hlk

theorem jr_mmax {idx : Nat} {x y : Int32} (hz : xh_C p s m args c cc nL own D G A) (hl : Cond.methodLink own idx Lib.Math.max.name ∈ sp_ws) (hs : Cond.static Lib.Math.max.name ∈ sp_ws) (hi : Cond.initialized "java/lang/Math" ∈ sp_ws) (hc : Cond.code Lib.Math.max.name Lib.Math.max.code 2 (some .int) ∈ sp_ws) (hfr : 1 ≤ R.frames) (hlo : (st.map fun v => v.category).sum + 13 ≤ R.locals) (hcs : cells ≤ R.cells ∧ slots ≤ R.slots) (d : decode cc pc = .ok (.invokestatic idx, 3)) (kk : xh_J p l e R s m args below meth c cells slots D G A nL QQ (pc + 3) ls (.int (if x < y then y else x) :: st) X k) : xh_J p l e R s m args below meth c cells slots D G A nL QQ pc ls (.int y :: .int x :: st) X k := fun r X' hk H locs la hP hS hL => va_mmax hz.1 hz.2.1 (hz.2.2.1.trans hL.1.symm) hz.2.2.2.1 (hz.2.2.2.2.1 _ hl) (hz.2.2.2.2.1 _ hs) (hz.2.2.2.2.1 _ hi) (hz.2.2.2.2.1 _ hc) hfr hlo hcs.1 hcs.2 d (kk r X' hk H locs la hP hS hL)
theorem jr_mmin {idx : Nat} {x y : Int32} (hz : xh_C p s m args c cc nL own D G A) (hl : Cond.methodLink own idx Lib.Math.min.name ∈ sp_ws) (hs : Cond.static Lib.Math.min.name ∈ sp_ws) (hi : Cond.initialized "java/lang/Math" ∈ sp_ws) (hc : Cond.code Lib.Math.min.name Lib.Math.min.code 2 (some .int) ∈ sp_ws) (hfr : 1 ≤ R.frames) (hlo : (st.map fun v => v.category).sum + 13 ≤ R.locals) (hcs : cells ≤ R.cells ∧ slots ≤ R.slots) (d : decode cc pc = .ok (.invokestatic idx, 3)) (kk : xh_J p l e R s m args below meth c cells slots D G A nL QQ (pc + 3) ls (.int (if y < x then y else x) :: st) X k) : xh_J p l e R s m args below meth c cells slots D G A nL QQ pc ls (.int y :: .int x :: st) X k := fun r X' hk H locs la hP hS hL => va_mmin hz.1 hz.2.1 (hz.2.2.1.trans hL.1.symm) hz.2.2.2.1 (hz.2.2.2.2.1 _ hl) (hz.2.2.2.2.1 _ hs) (hz.2.2.2.2.1 _ hi) (hz.2.2.2.2.1 _ hc) hfr hlo hcs.1 hcs.2 d (kk r X' hk H locs la hP hS hL)
theorem jr_mmin_long {idx : Nat} {x y : Int64} (hz : xh_C p s m args c cc nL own D G A) (hl : Cond.methodLink own idx Lib.MathLoose.min_long.x ∈ sp_ws) (hs : Cond.static Lib.MathLoose.min_long.x ∈ sp_ws) (hi : Cond.initialized "java/lang/Math" ∈ sp_ws) (hc : Cond.code Lib.MathLoose.min_long.x Lib.MathLoose.min_long.code 4 (some .long) ∈ sp_ws) (hfr : 1 ≤ R.frames) (hlo : (st.map fun v => v.category).sum + 15 ≤ R.locals) (hcs : cells ≤ R.cells ∧ slots ≤ R.slots) (d : decode cc pc = .ok (.invokestatic idx, 3)) (kk : xh_J p l e R s m args below meth c cells slots D G A nL QQ (pc + 3) ls (.long (if y < x then y else x) :: st) X k) : xh_J p l e R s m args below meth c cells slots D G A nL QQ pc ls (.long y :: .long x :: st) X k := fun r X' hk H locs la hP hS hL => va_mmin_long hz.1 hz.2.1 (hz.2.2.1.trans hL.1.symm) hz.2.2.2.1 (hz.2.2.2.2.1 _ hl) (hz.2.2.2.2.1 _ hs) (hz.2.2.2.2.1 _ hi) (hz.2.2.2.2.1 _ hc) hfr hlo hcs.1 hcs.2 d (kk r X' hk H locs la hP hS hL)
theorem jr_mmax_long {idx : Nat} {x y : Int64} (hz : xh_C p s m args c cc nL own D G A) (hl : Cond.methodLink own idx Lib.MathLoose.max_long.x ∈ sp_ws) (hs : Cond.static Lib.MathLoose.max_long.x ∈ sp_ws) (hi : Cond.initialized "java/lang/Math" ∈ sp_ws) (hc : Cond.code Lib.MathLoose.max_long.x Lib.MathLoose.max_long.code 4 (some .long) ∈ sp_ws) (hfr : 1 ≤ R.frames) (hlo : (st.map fun v => v.category).sum + 15 ≤ R.locals) (hcs : cells ≤ R.cells ∧ slots ≤ R.slots) (d : decode cc pc = .ok (.invokestatic idx, 3)) (kk : xh_J p l e R s m args below meth c cells slots D G A nL QQ (pc + 3) ls (.long (if y < x then x else y) :: st) X k) : xh_J p l e R s m args below meth c cells slots D G A nL QQ pc ls (.long y :: .long x :: st) X k := fun r X' hk H locs la hP hS hL => va_mmax_long hz.1 hz.2.1 (hz.2.2.1.trans hL.1.symm) hz.2.2.2.1 (hz.2.2.2.2.1 _ hl) (hz.2.2.2.2.1 _ hs) (hz.2.2.2.2.1 _ hi) (hz.2.2.2.2.1 _ hc) hfr hlo hcs.1 hcs.2 d (kk r X' hk H locs la hP hS hL)
theorem jr_mabs_long {idx : Nat} {x : Int64} (hz : xh_C p s m args c cc nL own D G A) (hl : Cond.methodLink own idx Lib.MathLoose.abs_long.x ∈ sp_ws) (hs : Cond.static Lib.MathLoose.abs_long.x ∈ sp_ws) (hi : Cond.initialized "java/lang/Math" ∈ sp_ws) (hc : Cond.code Lib.MathLoose.abs_long.x Lib.MathLoose.abs_long.code 2 (some .long) ∈ sp_ws) (hfr : 1 ≤ R.frames) (hlo : (st.map fun v => v.category).sum + 13 ≤ R.locals) (hcs : cells ≤ R.cells ∧ slots ≤ R.slots) (d : decode cc pc = .ok (.invokestatic idx, 3)) (kk : xh_J p l e R s m args below meth c cells slots D G A nL QQ (pc + 3) ls (.long (if 0 < x then x else -x) :: st) X k) : xh_J p l e R s m args below meth c cells slots D G A nL QQ pc ls (.long x :: st) X k := fun r X' hk H locs la hP hS hL => va_mabs_long hz.1 hz.2.1 (hz.2.2.1.trans hL.1.symm) hz.2.2.2.1 (hz.2.2.2.2.1 _ hl) (hz.2.2.2.2.1 _ hs) (hz.2.2.2.2.1 _ hi) (hz.2.2.2.2.1 _ hc) hfr hlo hcs.1 hcs.2 d (kk r X' hk H locs la hP hS hL)
theorem xh_cp_in {β : Type} {sp dp n : Int32} {n0 n1 : Nat} {K : Option β} {z : β} (h : xh_cp sp dp n n0 n1 K = some z) : ¬ sp < 0 ∧ ¬ dp < 0 ∧ ¬ n < 0 ∧ sp.toNatClampNeg + n.toNatClampNeg ≤ n0 ∧ dp.toNatClampNeg + n.toNatClampNeg ≤ n1 ∧ K = some z := by
  unfold xh_cp at h
  by_cases g : sp < 0 ∨ dp < 0 ∨ n < 0 ∨ n0 < sp.toNatClampNeg + n.toNatClampNeg ∨ n1 < dp.toNatClampNeg + n.toNatClampNeg
  · rw [if_pos g] at h; cases h
  · rw [if_neg g] at h
    exact ⟨fun q => g (Or.inl q), fun q => g (Or.inr (Or.inl q)), fun q => g (Or.inr (Or.inr (Or.inl q))), Nat.le_of_not_lt (fun q => g (Or.inr (Or.inr (Or.inr (Or.inl q))))), Nat.le_of_not_lt (fun q => g (Or.inr (Or.inr (Or.inr (Or.inr q))))), h⟩
theorem jr_copyi {idx a0 a1 n0 n1 : Nat} {sp dp n : Int32} {K : xh_T → Option (ρ × xh_T)} (hz : xh_C p s m args c cc nL own D G A) (hl : Cond.methodLink own idx arraycopyName ∈ sp_ws) (hna : Cond.native arraycopyName ∈ sp_ws) (hs : Cond.static arraycopyName ∈ sp_ws) (hi : Cond.initialized "java/lang/System" ∈ sp_ws) (hlt0 : a0 < sp_n) (hlay0 : sp_lay a0 = .inl (0, n0)) (hlt1 : a1 < sp_n) (hlay1 : sp_lay a1 = .inl (0, n1)) (hfr : 1 ≤ R.frames) (hlo : (st.map fun v => v.category).sum + (nativeFrameWords "java/lang/System" "arraycopy" 5 + 11) ≤ R.locals) (d : decode cc pc = .ok (.invokestatic idx, 3)) (kk : ∀ X1, xh_J p l e R s m args below meth c cells slots D G A nL QQ (pc + 3) ls st X1 (K X1)) : xh_J p l e R s m args below meth c cells slots D G A nL QQ pc ls (.int n :: .int dp :: .ref (G.1 a1) :: .int sp :: .ref (G.1 a0) :: st) X (xh_cp sp dp n n0 n1 (xh_n (xh_a X a1 (va_cpy (X.1 a0) (X.1 a1) sp.toNatClampNeg dp.toNatClampNeg n.toNatClampNeg)) K)) := fun r X' hk H locs la hP hS hL => by
  obtain ⟨h1, h2, h3, h4, h5, hk⟩ := xh_cp_in hk
  have hat0 := xh_at (G := G) (X := X) hlt0
  rw [hlay0] at hat0
  have hat1 := xh_at (G := G) (X := X) hlt1
  rw [hlay1] at hat1
  refine va_copyi (ty := .int) hz.1 hz.2.1 (hz.2.2.1.trans hL.1.symm) hz.2.2.2.1 (hz.2.2.2.2.1 _ hl) (hz.2.2.2.2.1 _ hna) (hz.2.2.2.2.1 _ hs) (hz.2.2.2.2.1 _ hi) hz.2.2.2.2.2.1 hP (xh_dd hz.2.2.2.2.2.2.1 hz.2.2.2.2.2.2.2) hS a0 a1 0 0 hat0 hat1 rfl rfl rfl h1 h2 h3 h4 h5 (fun _ _ => rfl) hfr hlo d (fun H1 locs1 hP1 hD1 hS1 => ?_)
  rw [xh_set hlt1 (X' := xh_a X a1 (va_cpy (X.1 a0) (X.1 a1) sp.toNatClampNeg dp.toNatClampNeg n.toNatClampNeg)) (by rw [hlay1]; show Sum.inl _ = _; rw [show (xh_a X a1 (va_cpy (X.1 a0) (X.1 a1) sp.toNatClampNeg dp.toNatClampNeg n.toNatClampNeg)).1 a1 = va_cpy (X.1 a0) (X.1 a1) sp.toNatClampNeg dp.toNatClampNeg n.toNatClampNeg from va_up_self _ _ _]) (xh_same_a X a1 _)] at hP1
  exact kk _ r X' hk H1 locs1 la hP1 hS1 hL

end JC

/-! Constructors: the world is a list of cells that grows at its end; 'this' stands first. -/
abbrev kc_G : Type := ClassId × ClassId × ClassId × ClassId
def kc_ty (g : kc_G) : List (ClassId × FieldType) := [(g.1, .int), (g.2.1, .boolean), (g.2.2.1, .long), (g.2.2.2, .object sp_BS)]
def kc_C (p : Program) (s : State) (m : MethodId) (args : Array Value) (c : Code) (cc : ByteArray) (nL : Nat) (own : String) (D : va_G) (g : kc_G) (A : Nat → Prop) : Prop :=
  p.tables.exec = Jvm.exec ∧ c.code = cc ∧ c.maxLocals = nL ∧ s.vm.findClass own = some m.cls ∧ (∀ w ∈ sp_ws, w.before args s = true) ∧ va_K D sp_cl (kc_ty g) s ∧ (∀ q, s.heap.size ≤ q → A q) ∧ va_AO sp_BS s
def kc_J (p : Program) (l : Launch) (e : Env) (R : Room) (s : State) (m : MethodId) (args : Array Value) (below : List Frame) (meth : Method) (c : Code) (cells slots : Nat) (D : va_G) (A : Nat → Prop) (nL : Nat) (Q : State → Prop) (pc : Nat) (ls : List (Nat × Value)) (st : List Value) (ws : va_W) : Prop :=
  ∀ (H : Heap) (locs : List Loc) (la : Array Slot), va_P D sp_cl ws H → va_D A ws → va_S A s.heap H locs → lv_has la nL ls → W p l e R s m args below meth c H locs cells slots Q (F0 m pc la st)
def kc_Pc (D : va_G) (g : kc_G) (av : List Value) (w0 : va_W) (sz : Nat) : Array Value → State → Prop := va_Pc av (fun U => U.heap.size = sz ∧ va_P D sp_cl w0 U.heap ∧ va_K D sp_cl (kc_ty g) U ∧ va_D (fun _ => True) w0 ∧ va_AO sp_BS U)
def kc_B (D : va_G) (g : kc_G) (w0 : va_W) (sz : Nat) (shape : (Nat → Nat) → va_W) (u : Nat → Nat) (t : State) : Prop := va_P D sp_cl (shape u) t.heap ∧ va_D (va_A w0 sz) (shape u)
def kc_M (l : Launch) (D : va_G) (g : kc_G) (y : MethodName) (bytes : ByteArray) (maxL : Nat) (rm : Room) (av : List Value) (w0 : va_W) (mc ms : Nat) (post : (Nat → Nat) → Prop) (shape : (Nat → Nat) → va_W) : Prop :=
  ∀ sz : Nat, Met l y (Cond.code y bytes maxL none :: sp_ws) rm (kc_Pc D g av w0 sz) (va_Qv post (kc_B D g w0 sz shape) (va_A w0 sz)) mc ms (va_A w0 sz)
theorem kc_blind {D : va_G} {g : kc_G} {av : List Value} {w0 : va_W} {sz : Nat} : FrameBlind (kc_Pc D g av w0 sz) := fun a U gg mk q => by
  obtain ⟨q0, q1, qP, qK, qD, qA⟩ := q
  exact ⟨q0, q1, qP, va_K.moved (u := U) (U := U.calling gg mk a) (Vm.Alike.refl U.vm) qK, qD, va_AO.moved (u := U) (U := U.calling gg mk a) (Vm.Alike.refl U.vm) qA⟩
theorem kc_enter {l : Launch} {D : va_G} {g : kc_G} {y : MethodName} {bytes : ByteArray} {maxL : Nat} {rm : Room} {av : List Value} {w0 : va_W} {mc ms : Nat} {post : (Nat → Nat) → Prop} {shape : (Nat → Nat) → va_W} {ls : List (Nat × Value)} (hy : plainName y.cls = true) (hlen : (lg_sl av).length ≤ maxL) (hls : lv_args 0 av = ls)
    (body : ∀ (p : Program) (e : Env) (s : State) (m : MethodId) (args : Array Value) (below : List Frame) (meth : Method) (c : Code), kc_C p s m args c bytes maxL y.cls D g (va_A w0 s.heap.size) → meth.sig.returnType = none → meth.locks = false → meth.name = y.name →
      kc_J p l e rm s m args below meth c 0 0 D (va_A w0 s.heap.size) maxL (MQ below (va_Qv post (kc_B D g w0 s.heap.size shape) (va_A w0 s.heap.size)) args s mc ms (va_A w0 s.heap.size)) 0 ls [] w0) : kc_M l D g y bytes maxL rm av w0 mc ms post shape := by
  intro sz
  refine Met.ofW (cc := bytes) (maxL := maxL) (ret := none) hy rfl ?_
  intro p e s m args below meth c s₁ B hml hv
  obtain ⟨rfl, hsz, hP, hK, hD, hA⟩ := hv
  subst hsz
  have hts := atoms_spec (ws := Cond.code y bytes maxL none :: sp_ws) B.pre
  have hl := lv_entry av (n := maxL) hlen
  rw [lg_entry_eq]
  rw [hls] at hl
  exact body p e s m _ below meth c ⟨B.exec, B.bytes, hml, findClass_of_methodNamed B.named, fun w h => hts w (List.mem_cons_of_mem _ h), hK, fun _ h => Or.inr h, hA⟩ B.returns B.notSynchronized (name_of_methodNamed B.named B.method).1 s.heap [] _ hP (hD.self (sz := s.heap.size)) va_S.rf hl
/-- behind a constructor's call: the rest is unchanged, the new cells stand at the end -/
theorem kc_join {A0 : Nat → Prop} {D : va_G} {cl : List vw_C} {wr w1 : va_W} {q : Nat} {e0 : va_E} {H H1 : Heap} (hP : va_P D cl (wr ++ [(q, e0)]) H) (hD : va_D A0 (wr ++ [(q, e0)]))
    (hk : ∀ x : Nat, x < H.size → ¬ va_A [(q, e0)] H.size x → H1[x]? = H[x]?) (hF : ∀ x, va_A [(q, e0)] H.size x → A0 x) (hP1 : va_P D cl w1 H1) (hD1 : va_D (va_A [(q, e0)] H.size) w1) : va_P D cl (wr ++ w1) H1 ∧ va_D A0 (wr ++ w1) := by
  have hin : ∀ (k : Nat) (z : Nat × va_E), wr[k]? = some z → (wr ++ [(q, e0)])[k]? = some z := fun k z h => by
    rw [List.getElem?_append_left (List.getElem?_eq_some_iff.mp h).1]; exact h
  have hq : (wr ++ [(q, e0)])[wr.length]? = some (q, e0) := by simp
  have hne : ∀ (k : Nat) (z : Nat × va_E), wr[k]? = some z → z.1 ≠ q ∧ z.1 < H.size := fun k z h => by
    have hk1 := (List.getElem?_eq_some_iff.mp h).1
    refine ⟨fun e => ?_, (hP k z (hin k z h)).lt⟩
    have := hD.1 k wr.length z (q, e0) (hin k z h) hq e
    omega
  have hnA : ∀ (k : Nat) (z : Nat × va_E), wr[k]? = some z → ¬ va_A [(q, e0)] H.size z.1 := fun k z h hA => by
    rcases hA with ⟨i, ee, hi⟩ | hA
    · have hi0 : i < 1 := (List.getElem?_eq_some_iff.mp hi).1
      rw [show i = 0 by omega] at hi
      exact (hne k z h).1 (Prod.mk.inj (Option.some.inj hi)).1.symm
    · exact Nat.lt_irrefl _ (Nat.lt_of_lt_of_le (hne k z h).2 hA)
  have hPr : va_P D cl wr H := fun k z h => hP k z (hin k z h)
  have hDr : va_D A0 wr := ⟨fun i j a b hi hj e => hD.1 i j a b (hin i a hi) (hin j b hj) e, fun k z h => hD.2 k z (hin k z h)⟩
  refine ⟨va_P.app (hPr.kept (fun k z h => hk z.1 (hne k z h).2 (hnA k z h))) hP1, va_D.app hDr (hD1.weaken (fun k z _ h => hF z.1 h)) (fun i j a b hi hj e => ?_)⟩
  exact hnA i a hi (e ▸ hD1.2 j b hj)
theorem kc_arrV {cA : ClassId} {n : Nat} {f f' : Nat → Value} (h : ∀ j, j < n → f j = f' j) : arrV cA n f = arrV cA n f' := by
  unfold arrV
  congr 1
  apply Array.ext
  · simp
  · intro i h1 h2
    have hi : i < n := by simpa using h1
    simp [h i hi]
section KR
variable {p : Program} {l : Launch} {e : Env} {R : Room} {s : State} {m : MethodId} {args : Array Value} {below : List Frame} {meth : Method} {c : Code} {cells slots : Nat} {cc : ByteArray} {nL : Nat} {own : String} {D : va_G} {g : kc_G} {A : Nat → Prop} {Q : State → Prop} {pc : Nat} {ls : List (Nat × Value)} {st : List Value} {ws : va_W}
theorem kr_iconst (hz : kc_C p s m args c cc nL own D g A) {n : Int} {v : Int32} (d : decode cc pc = .ok (.iconst n, 1)) (hv : Int32.ofInt n = v) (kk : kc_J p l e R s m args below meth c cells slots D A nL Q (pc + 1) ls (.int v :: st) ws) : kc_J p l e R s m args below meth c cells slots D A nL Q pc ls (st) ws := fun H locs la hP hD hS hL => lv_iconst hz.1 hz.2.1 d hv (kk H locs la hP hD hS hL)
theorem kr_bipush (hz : kc_C p s m args c cc nL own D g A) {n : Int} {v : Int32} (d : decode cc pc = .ok (.bipush n, 2)) (hv : (Int8.ofInt n).toInt32 = v) (kk : kc_J p l e R s m args below meth c cells slots D A nL Q (pc + 2) ls (.int v :: st) ws) : kc_J p l e R s m args below meth c cells slots D A nL Q pc ls (st) ws := fun H locs la hP hD hS hL => lv_bipush hz.1 hz.2.1 d hv (kk H locs la hP hD hS hL)
theorem kr_sipush (hz : kc_C p s m args c cc nL own D g A) {n : Int} {v : Int32} (d : decode cc pc = .ok (.sipush n, 3)) (hv : (Int16.ofInt n).toInt32 = v) (kk : kc_J p l e R s m args below meth c cells slots D A nL Q (pc + 3) ls (.int v :: st) ws) : kc_J p l e R s m args below meth c cells slots D A nL Q pc ls (st) ws := fun H locs la hP hD hS hL => lv_sipush hz.1 hz.2.1 d hv (kk H locs la hP hD hS hL)
theorem kr_dup (hz : kc_C p s m args c cc nL own D g A) {va : Value} (d : decode cc pc = .ok (.dup, 1)) (hva : va.category = 1) (kk : kc_J p l e R s m args below meth c cells slots D A nL Q (pc + 1) ls (va :: va :: st) ws) : kc_J p l e R s m args below meth c cells slots D A nL Q pc ls (va :: st) ws := fun H locs la hP hD hS hL => lv_dup hz.1 hz.2.1 d hva (kk H locs la hP hD hS hL)
theorem kr_iload_n (hz : kc_C p s m args c cc nL own D g A) {k0 : Fin 4} {i : Nat} {x : Int32} (d : decode cc pc = .ok (.iload_n k0, 1)) (hi : (k0 : Nat) = i) (j : Nat) (hl : ls[j]? = some (i, .int x)) (kk : kc_J p l e R s m args below meth c cells slots D A nL Q (pc + 1) ls (.int x :: st) ws) : kc_J p l e R s m args below meth c cells slots D A nL Q pc ls st ws := fun H locs la hP hD hS hL => lv_iload_n hz.1 hz.2.1 d hi (lv_at hL j hl) (kk H locs la hP hD hS hL)
theorem kr_aload_n (hz : kc_C p s m args c cc nL own D g A) {k0 : Fin 4} {i : Nat} {x : Nat} (d : decode cc pc = .ok (.aload_n k0, 1)) (hi : (k0 : Nat) = i) (j : Nat) (hl : ls[j]? = some (i, .ref x)) (kk : kc_J p l e R s m args below meth c cells slots D A nL Q (pc + 1) ls (.ref x :: st) ws) : kc_J p l e R s m args below meth c cells slots D A nL Q pc ls st ws := fun H locs la hP hD hS hL => lv_aload_n hz.1 hz.2.1 d hi (lv_at hL j hl) (kk H locs la hP hD hS hL)
theorem kr_istore_n (hz : kc_C p s m args c cc nL own D g A) {k0 : Fin 4} {i : Nat} {x : Int32} {lf : List (Nat × Value)} (d : decode cc pc = .ok (.istore_n k0, 1)) (hi : (k0 : Nat) = i) (hn : i < nL) (hl : ls.filter (fun q => !(q.1 == i) && !(q.1 + 1 == i && q.2.category == 2)) = lf) (kk : kc_J p l e R s m args below meth c cells slots D A nL Q (pc + 1) ((i, .int x) :: lf) st ws) : kc_J p l e R s m args below meth c cells slots D A nL Q pc ls (.int x :: st) ws := fun H locs la hP hD hS hL => lv_istore_n hz.1 hz.2.1 d hi hL hn (by rw [hl]) (fun la' hL' => kk H locs la' hP hD hS hL')
theorem kr_astore_n (hz : kc_C p s m args c cc nL own D g A) {k0 : Fin 4} {i : Nat} {x : Nat} {lf : List (Nat × Value)} (d : decode cc pc = .ok (.astore_n k0, 1)) (hi : (k0 : Nat) = i) (hn : i < nL) (hl : ls.filter (fun q => !(q.1 == i) && !(q.1 + 1 == i && q.2.category == 2)) = lf) (kk : kc_J p l e R s m args below meth c cells slots D A nL Q (pc + 1) ((i, .ref x) :: lf) st ws) : kc_J p l e R s m args below meth c cells slots D A nL Q pc ls (.ref x :: st) ws := fun H locs la hP hD hS hL => lv_astore_n hz.1 hz.2.1 d hi hL hn (by rw [hl]) (fun la' hL' => kk H locs la' hP hD hS hL')
theorem kr_iinc (hz : kc_C p s m args c cc nL own D g A) {i : Nat} {n : Int} {x : Int32} {lf : List (Nat × Value)} (d : decode cc pc = .ok (.iinc i n, 3)) (j : Nat) (hj : ls[j]? = some (i, .int x)) {w v : Int32} (hw : Int32.ofInt n = w) (hv : x + w = v) (hn : i < nL) (hl : ls.filter (fun q => !(q.1 == i) && !(q.1 + 1 == i && q.2.category == 2)) = lf) (kk : kc_J p l e R s m args below meth c cells slots D A nL Q (pc + 3) ((i, .int v) :: lf) st ws) : kc_J p l e R s m args below meth c cells slots D A nL Q pc ls st ws := fun H locs la hP hD hS hL => lv_iinc hz.1 hz.2.1 d hL hj rfl hn (by rw [hl, hw, hv]) (fun la' hL' => kk H locs la' hP hD hS hL')
theorem kr_goto (hz : kc_C p s m args c cc nL own D g A) {off : Int} {tgt : Nat} (d : decode cc pc = .ok (.goto off, 3)) (ht : (pc : Int) + off = (tgt : Int)) (kk : kc_J p l e R s m args below meth c cells slots D A nL Q tgt ls st ws) : kc_J p l e R s m args below meth c cells slots D A nL Q pc ls st ws := fun H locs la hP hD hS hL => lv_goto hz.1 hz.2.1 d ht (kk H locs la hP hD hS hL)
theorem kr_icmp_ge (hz : kc_C p s m args c cc nL own D g A) {x y : Int32} {off : Int} {tgt : Nat} (d : decode cc pc = .ok (.if_icmp .ge off, 3)) (ht : (pc : Int) + off = (tgt : Int)) (kt : y ≤ x → kc_J p l e R s m args below meth c cells slots D A nL Q tgt ls st ws) (kf : ¬ y ≤ x → kc_J p l e R s m args below meth c cells slots D A nL Q (pc + 3) ls st ws) : kc_J p l e R s m args below meth c cells slots D A nL Q pc ls (.int y :: .int x :: st) ws := fun H locs la hP hD hS hL => lv_icmp_ge hz.1 hz.2.1 d ht (fun h => kt h H locs la hP hD hS hL) (fun h => kf h H locs la hP hD hS hL)
theorem kr_sub {ls' : List (Nat × Value)} (is : List Nat) (h : lv_pick ls is = ls') (kk : kc_J p l e R s m args below meth c cells slots D A nL Q pc ls' st ws) : kc_J p l e R s m args below meth c cells slots D A nL Q pc ls st ws := fun H locs la hP hD hS hL => kk H locs la hP hD hS (lv_sub hL is h)
theorem kr_widen {a b : Nat} (h1 : cells ≤ a) (h2 : slots ≤ b) (kk : kc_J p l e R s m args below meth c a b D A nL Q pc ls st ws) : kc_J p l e R s m args below meth c cells slots D A nL Q pc ls st ws := fun H locs la hP hD hS hL => W.widen h1 h2 (kk H locs la hP hD hS hL)
theorem kr_objInit (hz : kc_C p s m args c cc nL own D g A) {idx a : Nat} (hl : Cond.methodLink own idx objectInit ∈ sp_ws) (hi : Cond.instanceMethod objectInit ∈ sp_ws) (hc : Cond.code objectInit ⟨#[0xb1]⟩ 1 none ∈ sp_ws) (hfr : 1 ≤ R.frames) (hlo : (st.map fun v => v.category).sum + 12 ≤ R.locals) (d : decode cc pc = .ok (.invokespecial idx, 3)) (kk : kc_J p l e R s m args below meth c cells slots D A nL Q (pc + 3) ls st ws) : kc_J p l e R s m args below meth c cells slots D A nL Q pc ls (.ref a :: st) ws := fun H locs la hP hD hS hL => by
  refine W.objInit hz.1 hz.2.1 hz.2.2.2.1 (hz.2.2.2.2.1 _ hl) (hz.2.2.2.2.1 _ hi) (hz.2.2.2.2.1 _ hc) rfl (hL.1.trans hz.2.2.1.symm) rfl d hfr (by show 2 * 0 + (st.map fun v => v.category).sum + 12 ≤ R.locals; omega) ?_
  exact W.eq (g2 := F0 m (pc + 3) la st) rfl (kk H locs la hP hD hS hL)
theorem kr_new (hz : kc_C p s m args c cc nL own D g A) {idx ci N : Nat} {C : String} {T : u_T} {fs : List Value} (hin : ∀ w ∈ u_ws C T N, w ∈ sp_ws) (ty : Nat → FieldType) (hty : ∀ k, k < N → parseFieldDescriptor (T k).2.2.1 = some (ty k)) (hcl : Cond.classLink own idx C ∈ sp_ws) (hinst : Cond.instantiable C N ∈ sp_ws) (hini : Cond.initialized C ∈ sp_ws) (hc : sp_cl[ci]? = some (C, T, N)) (hfs : ∀ j, j < N → defaultValue (ty j) = vp_V fs j) (hce : cells + 1 ≤ R.cells) (hsl : slots + N ≤ R.slots) (d : decode cc pc = .ok (.new idx, 3)) (kk : ∀ q : Nat, kc_J p l e R s m args below meth c (cells + 1) (slots + N) D A nL Q (pc + 3) ls (.ref q :: st) (ws ++ [(q, .inr (ci, fs))])) : kc_J p l e R s m args below meth c cells slots D A nL Q pc ls st ws := fun H locs la hP hD hS hL =>
  va_new hz.1 hz.2.1 hz.2.2.2.2.1 hin ty hty hz.2.2.2.1 (hz.2.2.2.2.1 _ hcl) (hz.2.2.2.2.1 _ hinst) (hz.2.2.2.2.1 _ hini) hz.2.2.2.2.2.1 hP hD hS hz.2.2.2.2.2.2.1 hc hfs hce hsl d (fun q H1 hP1 hD1 hS1 => kk q H1 locs la hP1 hD1 hS1 hL)
theorem kc_same {cA cB : ClassId} {ty : FieldType} (h1 : va_RA s cA ty) (h2 : va_RA s cB ty) : cA = cB := by
  cases ty <;> first | exact Option.some.inj (h1.symm.trans h2) | (obtain ⟨_, _, _, _, _, h1⟩ := h1; obtain ⟨_, _, _, _, _, h2⟩ := h2; exact Option.some.inj (h1.symm.trans h2))
theorem kr_newaI (hz : kc_C p s m args c cc nL own D g A) {n : Int32} {N' : Nat} (ha : Cond.arrayClass .int ∈ sp_ws) (hn : ¬ n < 0) (hN : n.toNatClampNeg = N') (hby : N' * componentBytes .int ≤ 536870912) (hce : cells + 1 ≤ R.cells) (hsl : slots + N' ≤ R.slots) (d : decode cc pc = .ok (.newarray .int, 2)) (kk : ∀ q : Nat, kc_J p l e R s m args below meth c (cells + 1) (slots + N') D A nL Q (pc + 2) ls (.ref q :: st) (ws ++ [(q, .inl (g.1, N', .inl (fun _ => 0)))])) : kc_J p l e R s m args below meth c cells slots D A nL Q pc ls (.int n :: st) ws := fun H locs la hP hD hS hL =>
  va_newa (atype := .int) (ty := .int) (a0 := (N', .inl (fun _ => 0))) hz.1 hz.2.1 (hz.2.2.2.2.1 _ ha) rfl hz.2.2.2.2.2.1 hP hD hS hz.2.2.2.2.2.2.1 (fun _ => rfl) hn hN hby hce hsl d (fun q cA H1 hK1 hP1 hD1 hS1 => by
    have h1 : cA = g.1 := kc_same (hK1.2 4 (cA, .int) rfl).2 (hz.2.2.2.2.2.1.2 0 (g.1, .int) rfl).2
    subst h1
    exact kk q H1 locs la hP1 hD1 hS1 hL)
theorem kr_newaZ (hz : kc_C p s m args c cc nL own D g A) {n : Int32} {N' : Nat} (ha : Cond.arrayClass .boolean ∈ sp_ws) (hn : ¬ n < 0) (hN : n.toNatClampNeg = N') (hby : N' * componentBytes .boolean ≤ 536870912) (hce : cells + 1 ≤ R.cells) (hsl : slots + N' ≤ R.slots) (d : decode cc pc = .ok (.newarray .boolean, 2)) (kk : ∀ q : Nat, kc_J p l e R s m args below meth c (cells + 1) (slots + N') D A nL Q (pc + 2) ls (.ref q :: st) (ws ++ [(q, .inl (g.2.1, N', .inl (fun _ => 0)))])) : kc_J p l e R s m args below meth c cells slots D A nL Q pc ls (.int n :: st) ws := fun H locs la hP hD hS hL =>
  va_newa (atype := .boolean) (ty := .boolean) (a0 := (N', .inl (fun _ => 0))) hz.1 hz.2.1 (hz.2.2.2.2.1 _ ha) rfl hz.2.2.2.2.2.1 hP hD hS hz.2.2.2.2.2.2.1 (fun _ => rfl) hn hN hby hce hsl d (fun q cA H1 hK1 hP1 hD1 hS1 => by
    have h1 : cA = g.2.1 := kc_same (hK1.2 4 (cA, .boolean) rfl).2 (hz.2.2.2.2.2.1.2 1 (g.2.1, .boolean) rfl).2
    subst h1
    exact kk q H1 locs la hP1 hD1 hS1 hL)
theorem kr_newaJ (hz : kc_C p s m args c cc nL own D g A) {n : Int32} {N' : Nat} (ha : Cond.arrayClass .long ∈ sp_ws) (hn : ¬ n < 0) (hN : n.toNatClampNeg = N') (hby : N' * componentBytes .long ≤ 536870912) (hce : cells + 1 ≤ R.cells) (hsl : slots + N' ≤ R.slots) (d : decode cc pc = .ok (.newarray .long, 2)) (kk : ∀ q : Nat, kc_J p l e R s m args below meth c (cells + 1) (slots + N') D A nL Q (pc + 2) ls (.ref q :: st) (ws ++ [(q, .inl (g.2.2.1, N', .inr (.inl (fun _ => 0))))])) : kc_J p l e R s m args below meth c cells slots D A nL Q pc ls (.int n :: st) ws := fun H locs la hP hD hS hL =>
  va_newa (atype := .long) (ty := .long) (a0 := (N', .inr (.inl (fun _ => 0)))) hz.1 hz.2.1 (hz.2.2.2.2.1 _ ha) rfl hz.2.2.2.2.2.1 hP hD hS hz.2.2.2.2.2.2.1 (fun _ => rfl) hn hN hby hce hsl d (fun q cA H1 hK1 hP1 hD1 hS1 => by
    have h1 : cA = g.2.2.1 := kc_same (hK1.2 4 (cA, .long) rfl).2 (hz.2.2.2.2.2.1.2 2 (g.2.2.1, .long) rfl).2
    subst h1
    exact kk q H1 locs la hP1 hD1 hS1 hL)
theorem kr_newq (hz : kc_C p s m args c cc nL own D g A) {idx : Nat} {n : Int32} {N' : Nat} (hcl : Cond.classLink own idx sp_BS ∈ sp_ws) (hn : ¬ n < 0) (hN : n.toNatClampNeg = N') (hby : N' * 4 ≤ 536870912) (hce : cells + 1 ≤ R.cells) (hsl : slots + N' ≤ R.slots) (d : decode cc pc = .ok (.anewarray idx, 3)) (kk : ∀ q : Nat, kc_J p l e R s m args below meth c (cells + 1) (slots + N') D A nL Q (pc + 3) ls (.ref q :: st) (ws ++ [(q, .inl (g.2.2.2, N', .inr (.inr (.inr (.inr (fun _ => none))))))])) : kc_J p l e R s m args below meth c cells slots D A nL Q pc ls (.int n :: st) ws := fun H locs la hP hD hS hL =>
  va_newq hz.1 hz.2.1 hz.2.2.2.1 (hz.2.2.2.2.1 _ hcl) hz.2.2.2.2.2.2.2 hz.2.2.2.2.2.1 hP hD hS hz.2.2.2.2.2.2.1 hn hN hby hce hsl d (fun q cA H1 hK1 hP1 hD1 hS1 => by
    have h1 : cA = g.2.2.2 := kc_same (hK1.2 4 (cA, .object sp_BS) rfl).2 (hz.2.2.2.2.2.1.2 3 (g.2.2.2, .object sp_BS) rfl).2
    subst h1
    exact kk q H1 locs la hP1 hD1 hS1 hL)
/-- a final field of 'this' -/
theorem kr_putF (hz : kc_C p s m args c cc nL own D g A) {idx ci k N a : Nat} {C : String} {T : u_T} {fs : List Value} {v : Value} {tl : va_W} (hin2 : meth.name = "<init>") (hin : ∀ w ∈ u_ws C T N, w ∈ sp_ws) (ty0 : Nat → FieldType) (hty : ∀ k, k < N → parseFieldDescriptor (T k).2.2.1 = some (ty0 k)) (hnm : ∀ a, a < N → ∀ b, b < N → a ≠ b → (T a).2.1 ≠ (T b).2.1) (hc : sp_cl[ci]? = some (C, T, N)) (hk : k < N) (hlink : Cond.fieldLink own idx (T k).1 (T k).2.1 (T k).2.2.1 ∈ sp_ws) (hfin : (T k).2.2.2 = true) (hdecl : (T k).1 = own) (hn : narrow (ty0 k) v = v) (hfit : fits (ty0 k) v = true) (hl : k < fs.length) (d : decode cc pc = .ok (.putfield idx, 3)) (kk : kc_J p l e R s m args below meth c cells slots D A nL Q (pc + 3) ls st ((a, .inr (ci, fs.set k v)) :: tl)) : kc_J p l e R s m args below meth c cells slots D A nL Q pc ls (v :: .ref a :: st) ((a, .inr (ci, fs)) :: tl) := fun H locs la hP hD hS hL =>
  va_putF hz.1 hz.2.1 hz.2.2.2.2.1 hin ty0 hty hnm hz.2.2.2.1 hz.2.2.2.2.2.1 hP hD hS 0 rfl hc k hk (hz.2.2.2.2.1 _ hlink) (fun _ h => h) hfin hin2 hdecl (hty k hk) hn hfit hl d (fun H1 locs1 hP1 hD1 hS1 => kk H1 locs1 la hP1 hD1 hS1 hL)
theorem kr_put (hz : kc_C p s m args c cc nL own D g A) {idx ci k N a : Nat} {C : String} {T : u_T} {fs : List Value} {v : Value} {tl : va_W} (hin : ∀ w ∈ u_ws C T N, w ∈ sp_ws) (ty0 : Nat → FieldType) (hty : ∀ k, k < N → parseFieldDescriptor (T k).2.2.1 = some (ty0 k)) (hnm : ∀ a, a < N → ∀ b, b < N → a ≠ b → (T a).2.1 ≠ (T b).2.1) (hc : sp_cl[ci]? = some (C, T, N)) (hk : k < N) (hlink : Cond.fieldLink own idx (T k).1 (T k).2.1 (T k).2.2.1 ∈ sp_ws) (hfin : (T k).2.2.2 = false) (hn : narrow (ty0 k) v = v) (hfit : fits (ty0 k) v = true) (hl : k < fs.length) (d : decode cc pc = .ok (.putfield idx, 3)) (kk : kc_J p l e R s m args below meth c cells slots D A nL Q (pc + 3) ls st ((a, .inr (ci, fs.set k v)) :: tl)) : kc_J p l e R s m args below meth c cells slots D A nL Q pc ls (v :: .ref a :: st) ((a, .inr (ci, fs)) :: tl) := fun H locs la hP hD hS hL =>
  va_put hz.1 hz.2.1 hz.2.2.2.2.1 hin ty0 hty hnm hz.2.2.2.1 hz.2.2.2.2.2.1 hP hD hS 0 rfl hc k hk (hz.2.2.2.2.1 _ hlink) (fun _ h => h) hfin (hty k hk) hn hfit hl d (fun H1 locs1 hP1 hD1 hS1 => kk H1 locs1 la hP1 hD1 hS1 hL)
theorem kr_get (hz : kc_C p s m args c cc nL own D g A) {idx ci k N a : Nat} {C : String} {T : u_T} {fs : List Value} {v : Value} {tl : va_W} (hin : ∀ w ∈ u_ws C T N, w ∈ sp_ws) (hc : sp_cl[ci]? = some (C, T, N)) (hk : k < N) (hlink : Cond.fieldLink own idx (T k).1 (T k).2.1 (T k).2.2.1 ∈ sp_ws) (hv : fs[k]? = some v) (d : decode cc pc = .ok (.getfield idx, 3)) (kk : kc_J p l e R s m args below meth c cells slots D A nL Q (pc + 3) ls (v :: st) ((a, .inr (ci, fs)) :: tl)) : kc_J p l e R s m args below meth c cells slots D A nL Q pc ls (.ref a :: st) ((a, .inr (ci, fs)) :: tl) := fun H locs la hP hD hS hL =>
  va_get hz.1 hz.2.1 hz.2.2.2.2.1 hin hz.2.2.2.1 hz.2.2.2.2.2.1 hP 0 rfl hc k hk (hz.2.2.2.2.1 _ hlink) (fun _ h => h) hv d (kk H locs la hP hD hS hL)
/-- a reference into the array that stands second -/
theorem kr_aast (hz : kc_C p s m args c cc nL own D g A) {a n v qk : Nat} {x : Nat × va_E} {f : Nat → Option Nat} {vs : List Value} {tl : va_W} {i : Int32} (hv : tl[qk]? = some (v, .inr (0, vs))) (hi : vp_in i n) (d : decode cc pc = .ok (.aastore, 1)) (kk : kc_J p l e R s m args below meth c cells slots D A nL Q (pc + 1) ls st (x :: (a, .inl (g.2.2.2, n, .inr (.inr (.inr (.inr (va_up f i.toNatClampNeg (some v))))))) :: tl)) : kc_J p l e R s m args below meth c cells slots D A nL Q pc ls (.ref v :: .int i :: .ref a :: st) (x :: (a, .inl (g.2.2.2, n, .inr (.inr (.inr (.inr f))))) :: tl) := fun H locs la hP hD hS hL =>
  va_astq (r := sp_clBS) hz.1 hz.2.1 hz.2.2.2.2.2.1 hP hD hS 1 3 (qk + 2) 0 rfl rfl (by simpa using hv) rfl hi d (fun H1 locs1 hP1 hD1 hS1 => kk H1 locs1 la hP1 hD1 hS1 hL)
/-- a constructor's call on the cell that stands last -/
theorem kr_ctor (hz : kc_C p s m args c cc nL own D g A) {idx n maxL mc ms q : Nat} {y : MethodName} {bytes : ByteArray} {rm : Room} {As st0 : List Value} {wr : va_W} {e0 : va_E} {post : (Nat → Nat) → Prop} {shape : (Nat → Nat) → va_W} (hM : kc_M l D g y bytes maxL rm (.ref q :: As) [(q, e0)] mc ms post shape) (w1 : Cond.code y bytes maxL none ∈ sp_ws) (w2 : Cond.initialized y.cls ∈ sp_ws) (w3 : Cond.methodLink own idx y ∈ sp_ws) (w4 : y.cls ≠ "java/lang/invoke/MethodHandle" ∧ y.cls ≠ "java/lang/invoke/VarHandle" ∧ (parseMethodDescriptor y.desc).map (fun d => d.parameters.length) = some n) (w5 : Cond.instanceMethod y ∈ sp_ws) (w6 : y.name = "<init>") (hR : rm.cells = mc ∧ rm.slots = ms ∧ rm.frames + 1 ≤ R.frames ∧ 8 + (maxL + 11) + rm.locals ≤ R.locals) (hcs : cells + mc ≤ R.cells ∧ slots + ms ≤ R.slots) (hn : As.length = n) (hst : st0 = As.reverse ++ .ref q :: st) (hcat : (st.map fun v => v.category).sum ≤ 8) (d : decode cc pc = .ok (.invokespecial idx, 3)) (kk : ∀ u : Nat → Nat, post u → kc_J p l e R s m args below meth c (cells + mc) (slots + ms) D A nL Q (pc + 3) ls st (wr ++ shape u)) : kc_J p l e R s m args below meth c cells slots D A nL Q pc ls st0 (wr ++ [(q, e0)]) := fun H locs la hP hD hS hL => by
  have hts := hz.2.2.2.2.1
  have hK := hz.2.2.2.2.2.1
  have hPq : va_P D sp_cl [(q, e0)] H := fun k x hk => by
    have h0 : k < 1 := (List.getElem?_eq_some_iff.mp hk).1
    rw [show k = 0 by omega] at hk
    exact hP wr.length x (by rw [← hk]; simp)
  have hDq : va_D (fun _ => True) [(q, e0)] := ⟨fun i j a b hi hj _ => by
    have h0 : i < 1 := (List.getElem?_eq_some_iff.mp hi).1
    have h1 : j < 1 := (List.getElem?_eq_some_iff.mp hj).1
    omega, fun _ _ _ => trivial⟩
  have hF : ∀ x, va_A [(q, e0)] H.size x → A x := fun x h => by
    rcases h with ⟨i, ee, hi⟩ | h
    · have hi0 : i < 1 := (List.getElem?_eq_some_iff.mp hi).1
      rw [show i = 0 by omega] at hi
      have e1 : q = x := (Prod.mk.inj (Option.some.inj hi)).1
      exact e1 ▸ hD.2 wr.length (q, e0) (by simp)
    · exact hz.2.2.2.2.2.2.1 x (Nat.le_trans hS.1 h)
  refine va_callv (va_runI (As := As) (rest := st) ⟨hz.1, hz.2.1, hz.2.2.1, hz.2.2.2.1, hts⟩ (hM H.size) ⟨callB_of n hts (sp_good w1) rfl hR.1 hR.2.1 (hts _ w2) (hts _ w3) w4 hR.2.2, w6, hts _ w5⟩ ⟨kc_blind, fun U hU hW => ⟨rfl, by rw [hU], by rw [hU]; exact hPq, va_K.moved hW.alike hK, hDq, va_AO.moved hW.alike hz.2.2.2.2.2.2.2⟩⟩ rfl hn hL.1 hst (lv_room hcat) d hcs) hS (fun q _ h => hF q h) hF (fun u t H1 locs1 ht hvm hpost hB hsz hk1 hS1 => ?_)
  obtain ⟨hP1, hD1⟩ := hB
  rw [ht] at hP1
  obtain ⟨hP2, hD2⟩ := kc_join hP hD hk1 hF hP1 hD1
  exact kk u hpost H1 locs1 la hP2 hD2 hS1 hL
theorem kr_eq {ws' : va_W} (h : ws = ws') (kk : kc_J p l e R s m args below meth c cells slots D A nL Q pc ls st ws') : kc_J p l e R s m args below meth c cells slots D A nL Q pc ls st ws := h ▸ kk
/-- an array of references: only what stands below its length counts -/
theorem kr_arr {x : Nat × va_E} {a n : Nat} {cA : ClassId} {f f' : Nat → Option Nat} {tl : va_W} (h : ∀ j, j < n → f j = f' j) (kk : kc_J p l e R s m args below meth c cells slots D A nL Q pc ls st (x :: (a, .inl (cA, n, .inr (.inr (.inr (.inr f'))))) :: tl)) : kc_J p l e R s m args below meth c cells slots D A nL Q pc ls st (x :: (a, .inl (cA, n, .inr (.inr (.inr (.inr f))))) :: tl) := fun H locs la hP hD hS hL => by
  have hc : vp_cell cA (n, .inr (.inr (.inr (.inr f)))) = vp_cell cA (n, .inr (.inr (.inr (.inr f')))) := by
    rw [vp_cell_q, vp_cell_q]
    exact kc_arrV (fun j hj => by rw [h j hj])
  refine kk H locs la (fun k q hk => ?_) ⟨fun i j p q hi hj e => ?_, fun k q hk => ?_⟩ hS hL
  · by_cases h1 : k = 1
    · subst h1
      have e1 : (a, (.inl (cA, n, .inr (.inr (.inr (.inr f')))) : va_E)) = q := Option.some.inj hk
      subst e1
      have h2 := hP 1 (a, .inl (cA, n, .inr (.inr (.inr (.inr f))))) rfl
      show H[a]? = some (vp_cell cA (n, .inr (.inr (.inr (.inr f')))))
      rw [← hc]
      exact h2
    · refine hP k q ?_
      rcases k with _ | _ | k
      · exact hk
      · exact absurd rfl h1
      · exact hk
  · have hh : ∀ (k : Nat) (z : Nat × va_E), (x :: (a, (.inl (cA, n, .inr (.inr (.inr (.inr f')))) : va_E)) :: tl)[k]? = some z → ∃ z', (x :: (a, (.inl (cA, n, .inr (.inr (.inr (.inr f)))) : va_E)) :: tl)[k]? = some z' ∧ z'.1 = z.1 := fun k z hk => by
      rcases k with _ | _ | k
      · exact ⟨z, hk, rfl⟩
      · have e1 : (a, (.inl (cA, n, .inr (.inr (.inr (.inr f')))) : va_E)) = z := Option.some.inj hk
        subst e1
        exact ⟨_, rfl, rfl⟩
      · exact ⟨z, hk, rfl⟩
    obtain ⟨p', hp', ep⟩ := hh i p hi
    obtain ⟨q', hq', eq⟩ := hh j q hj
    exact hD.1 i j p' q' hp' hq' (by rw [ep, eq]; exact e)
  · rcases k with _ | _ | k
    · exact hD.2 0 q hk
    · have e1 : (a, (.inl (cA, n, .inr (.inr (.inr (.inr f')))) : va_E)) = q := Option.some.inj hk
      subst e1
      exact hD.2 1 (a, .inl (cA, n, .inr (.inr (.inr (.inr f))))) rfl
    · exact hD.2 (k + 2) q hk
theorem kr_vret {post : (Nat → Nat) → Prop} {w0 : va_W} {shape : (Nat → Nat) → va_W} {u : Nat → Nat} (hz : kc_C p s m args c cc nL own D g (va_A w0 s.heap.size)) (hr : meth.sig.returnType = none) (hlk : meth.locks = false) (hp : post u) (hw : shape u = ws) (d : decode cc pc = .ok (.return_, 1)) : kc_J p l e R s m args below meth c cells slots D (va_A w0 s.heap.size) nL (MQ below (va_Qv post (kc_B D g w0 s.heap.size shape) (va_A w0 s.heap.size)) args s cells slots (va_A w0 s.heap.size)) pc ls [] ws := fun H locs la hP hD hS hL => by
  subst hw
  exact W.vret hz.1 hz.2.1 hr (fun t ht hW => ⟨⟨u, rfl, hp, by rw [ht]; exact hP, hD⟩, hS.F ht⟩) hS.2.2 d hlk
end KR

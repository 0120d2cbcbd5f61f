/-! The abstract heap: X.1 k j is the int field or element j of the cell with label k, X.2.1 k j the label that the array of references k holds at j, X.2.2 k j an element of an array of longs. What kind of cell a label has is fixed (sp_lay); G: the labels' addresses and the array classes. -/
def xh_i (X : xh_T) (k j : Nat) (v : Int32) : xh_T := (va_up X.1 k (upd (X.1 k) j v), X.2)
def xh_r (X : xh_T) (k j t : Nat) : xh_T := (X.1, va_up X.2.1 k (va_up (X.2.1 k) j t), X.2.2)
def xh_l (X : xh_T) (k j : Nat) (v : Int64) : xh_T := (X.1, X.2.1, va_up X.2.2 k (vp_updL (X.2.2 k) j v))
def xh_a (X : xh_T) (k : Nat) (f : Nat → Int32) : xh_T := (va_up X.1 k f, X.2)
def xh_e (ad : Nat → Nat) (v : Int32) (o : Option (Option Nat)) : Value := match o with
  | some (some t) => Value.ref (ad t)
  | _ => Value.int v
def xh_f (ad : Nat → Nat) (g : Nat → Int32) (fds : List (Option Nat)) : List Value := (List.range fds.length).map (fun j => xh_e ad (g j) fds[j]?)
def xh_c (G : xh_G) (X : xh_T) (k : Nat) (L : xh_L) : va_E := match L with
  | .inl (0, n) => .inl (G.2.1, n, .inl (X.1 k))
  | .inl (1, n) => .inl (G.2.2.1, n, .inl (X.1 k))
  | .inl (2, n) => .inl (G.2.2.2.1, n, .inr (.inl (X.2.2 k)))
  | .inl (_, n) => .inl (G.2.2.2.2, n, .inr (.inr (.inr (.inr (fun j => some (G.1 (X.2.1 k j)))))))
  | .inr (ci, fds) => .inr (ci, xh_f G.1 (X.1 k) fds)
def xh_w (G : xh_G) (X : xh_T) : va_W := (List.range sp_n).map (fun k => (G.1 k, xh_c G X k (sp_lay k)))
def xh_ty (G : xh_G) : List (ClassId × FieldType) := [(G.2.1, .int), (G.2.2.1, .boolean), (G.2.2.2.1, .long), (G.2.2.2.2, .object sp_BS)]
def xh_A (G : xh_G) (sz : Nat) (q : Nat) : Prop := (∃ k, k < sp_n ∧ q = G.1 k) ∨ sz ≤ q
def xh_D (G : xh_G) : Prop := ∀ i j, i < sp_n → j < sp_n → G.1 i = G.1 j → i = j
-- words of the pure functions
def xh_n {α β : Type} (x : α) (K : α → β) : β := K x
def xh_o {β : Type} (i : Int32) (n : Nat) (K : Option β) : Option β := if i < 0 ∨ n ≤ i.toNatClampNeg then none else K
def xh_k {β : Type} (b : Bool) (K : Option β) : Option β := if b = true then K else none
def xh_z {β : Type} (v : Int32) (K : Option β) : Option β := if v = 0 ∨ v = 1 then K else none
def xh_b {α β : Type} (o : Option (α × xh_T)) (K : α → xh_T → Option β) : Option β := match o with
  | some (r, X) => K r X
  | none => none
def xh_ush (x y : Int32) : Int32 := (x.toUInt32 >>> (y.toUInt32 &&& Int32.toUInt32 31)).toInt32
def xh_cp {β : Type} (sp dp n : Int32) (n0 n1 : Nat) (K : Option β) : Option β := if sp < 0 ∨ dp < 0 ∨ n < 0 ∨ n0 < sp.toNatClampNeg + n.toNatClampNeg ∨ n1 < dp.toNatClampNeg + n.toNatClampNeg then none else K
theorem xh_at {G : xh_G} {X : xh_T} {k : Nat} (h : k < sp_n) : (xh_w G X)[k]? = some (G.1 k, xh_c G X k (sp_lay k)) := by
  simp [xh_w, h]
theorem xh_get {G : xh_G} {X : xh_T} {k : Nat} {q : Nat × va_E} (h : (xh_w G X)[k]? = some q) : k < sp_n ∧ q = (G.1 k, xh_c G X k (sp_lay k)) := by
  have hk : k < sp_n := by
    have := (List.getElem?_eq_some_iff.mp h).1
    simpa [xh_w] using this
  rw [xh_at hk] at h
  exact ⟨hk, (Option.some.inj h).symm⟩
theorem xh_c_eq {G : xh_G} {X X' : xh_T} {j : Nat} {L : xh_L} (h1 : X'.1 j = X.1 j) (h2 : X'.2.1 j = X.2.1 j) (h3 : X'.2.2 j = X.2.2 j) : xh_c G X' j L = xh_c G X j L := by
  unfold xh_c
  rw [h1, h2, h3]
theorem xh_set {G : xh_G} {X X' : xh_T} {k : Nat} {e : va_E} (h : k < sp_n) (h1 : xh_c G X' k (sp_lay k) = e) (h2 : ∀ j, j ≠ k → X'.1 j = X.1 j ∧ X'.2.1 j = X.2.1 j ∧ X'.2.2 j = X.2.2 j) : (xh_w G X).set k (G.1 k, e) = xh_w G X' := by
  apply List.ext_getElem?
  intro j
  have hlen : (xh_w G X).length = sp_n := by simp [xh_w]
  by_cases hj : j < sp_n
  · by_cases hk : j = k
    · subst hk
      rw [List.getElem?_set_self (by rw [hlen]; exact h), xh_at hj, h1]
    · rw [List.getElem?_set_ne (Ne.symm hk), xh_at hj, xh_at hj]
      obtain ⟨a, b, c⟩ := h2 j hk
      rw [xh_c_eq a b c]
  · rw [List.getElem?_eq_none (by rw [List.length_set, hlen]; omega), List.getElem?_eq_none (by simp [xh_w]; omega)]
theorem xh_dd {G : xh_G} {X : xh_T} {A : Nat → Prop} {sz : Nat} (hD : xh_D G) (hA : ∀ q, xh_A G sz q → A q) : va_D A (xh_w G X) := by
  refine ⟨fun i j p q hi hj e => ?_, fun k q hk => ?_⟩
  · obtain ⟨hi1, rfl⟩ := xh_get hi
    obtain ⟨hj1, rfl⟩ := xh_get hj
    exact hD i j hi1 hj1 e
  · obtain ⟨hk1, rfl⟩ := xh_get hk
    exact hA _ (Or.inl ⟨k, hk1, rfl⟩)
theorem xh_f_len {ad : Nat → Nat} {g : Nat → Int32} {fds : List (Option Nat)} : (xh_f ad g fds).length = fds.length := by simp [xh_f]
theorem xh_f_at {ad : Nat → Nat} {g : Nat → Int32} {fds : List (Option Nat)} {j : Nat} (h : j < fds.length) : (xh_f ad g fds)[j]? = some (xh_e ad (g j) fds[j]?) := by
  simp [xh_f, h]
theorem xh_f_int {ad : Nat → Nat} {g : Nat → Int32} {fds : List (Option Nat)} {j : Nat} (h : fds[j]? = some none) : (xh_f ad g fds)[j]? = some (.int (g j)) := by
  rw [xh_f_at (List.getElem?_eq_some_iff.mp h).1, h]
  rfl
theorem xh_f_ref {ad : Nat → Nat} {g : Nat → Int32} {fds : List (Option Nat)} {j t : Nat} (h : fds[j]? = some (some t)) : (xh_f ad g fds)[j]? = some (.ref (ad t)) := by
  rw [xh_f_at (List.getElem?_eq_some_iff.mp h).1, h]
  rfl
theorem xh_f_set {ad : Nat → Nat} {g : Nat → Int32} {fds : List (Option Nat)} {j : Nat} {v : Int32} (h : fds[j]? = some none) : (xh_f ad g fds).set j (.int v) = xh_f ad (upd g j v) fds := by
  have hj := (List.getElem?_eq_some_iff.mp h).1
  apply List.ext_getElem?
  intro i
  by_cases hi : i < fds.length
  · by_cases e : i = j
    · subst e
      rw [List.getElem?_set_self (by rw [xh_f_len]; exact hj), xh_f_int h, pk_us]
    · rw [List.getElem?_set_ne (Ne.symm e), xh_f_at hi, xh_f_at hi, pk_un e]
  · rw [List.getElem?_eq_none (by rw [List.length_set, xh_f_len]; omega), List.getElem?_eq_none (by rw [xh_f_len]; omega)]
theorem xh_same_i (X : xh_T) (k i : Nat) (v : Int32) : ∀ j, j ≠ k → (xh_i X k i v).1 j = X.1 j ∧ (xh_i X k i v).2.1 j = X.2.1 j ∧ (xh_i X k i v).2.2 j = X.2.2 j := fun _ h => ⟨va_up_ne _ _ h, rfl, rfl⟩
theorem xh_same_a (X : xh_T) (k : Nat) (f : Nat → Int32) : ∀ j, j ≠ k → (xh_a X k f).1 j = X.1 j ∧ (xh_a X k f).2.1 j = X.2.1 j ∧ (xh_a X k f).2.2 j = X.2.2 j := fun _ h => ⟨va_up_ne _ _ h, rfl, rfl⟩
theorem xh_same_r (X : xh_T) (k i t : Nat) : ∀ j, j ≠ k → (xh_r X k i t).1 j = X.1 j ∧ (xh_r X k i t).2.1 j = X.2.1 j ∧ (xh_r X k i t).2.2 j = X.2.2 j := fun _ h => ⟨rfl, va_up_ne _ _ h, rfl⟩
theorem xh_same_l (X : xh_T) (k i : Nat) (v : Int64) : ∀ j, j ≠ k → (xh_l X k i v).1 j = X.1 j ∧ (xh_l X k i v).2.1 j = X.2.1 j ∧ (xh_l X k i v).2.2 j = X.2.2 j := fun _ h => ⟨rfl, rfl, va_up_ne _ _ h⟩
/-- what stays the same through a method: the machine, the code, the words, the classes, the labels' addresses -/
def xh_C (p : Program) (s : State) (m : MethodId) (args : Array Value) (c : Code) (cc : ByteArray) (nL : Nat) (own : String) (D : va_G) (G : xh_G) (A : Nat → Prop) : Prop :=
  p.tables.exec = Jvm.exec ∧ c.code = cc ∧ c.maxLocals = nL ∧ s.vm.findClass own = some m.cls ∧ (∀ w ∈ sp_ws, w.before args s = true) ∧ va_K D sp_cl (xh_ty G) s ∧ xh_D G ∧ (∀ q, xh_A G s.heap.size q → A q)
/-- the judgement: if the pure program k ends with (r, X'), then the machine, at pc with locals ls, stack st and heap X, comes to an end with QQ r X' -/
def xh_J {ρ : Type} (p : Program) (l : Launch) (e : Env) (R : Room) (s : State) (m : MethodId) (args : Array Value) (below : List Frame) (meth : Method) (c : Code) (cells slots : Nat) (D : va_G) (G : xh_G) (A : Nat → Prop) (nL : Nat) (QQ : ρ → xh_T → State → Prop) (pc : Nat) (ls : List (Nat × Value)) (st : List Value) (X : xh_T) (k : Option (ρ × xh_T)) : Prop :=
  ∀ (r : ρ) (X' : xh_T), k = some (r, X') → ∀ (H : Heap) (locs : List Loc) (la : Array Slot), va_P D sp_cl (xh_w G X) H → va_S A s.heap H locs → lv_has la nL ls → W p l e R s m args below meth c H locs cells slots (QQ r X') (F0 m pc la st)
/-- a field's words: the class ci of sp_cl, its slot j, by the pool's place idx of own -/
def xh_F (own : String) (idx ci j : Nat) : Prop := ∃ (C : String) (T : u_T) (N : Nat), sp_cl[ci]? = some (C, T, N) ∧ j < N ∧ (∀ w ∈ u_ws C T N, w ∈ sp_ws) ∧ Cond.fieldLink own idx (T j).1 (T j).2.1 (T j).2.2.1 ∈ sp_ws
/-- .. to write an int there -/
def xh_Fp (own : String) (idx ci j : Nat) : Prop := ∃ (C : String) (T : u_T) (N : Nat) (t : Nat → FieldType), sp_cl[ci]? = some (C, T, N) ∧ j < N ∧ (∀ w ∈ u_ws C T N, w ∈ sp_ws) ∧ Cond.fieldLink own idx (T j).1 (T j).2.1 (T j).2.2.1 ∈ sp_ws ∧ (∀ k, k < N → parseFieldDescriptor (T k).2.2.1 = some (t k)) ∧ (∀ a, a < N → ∀ b, b < N → a ≠ b → (T a).2.1 ≠ (T b).2.1) ∧ (T j).2.2.2 = false ∧ t j = .int

section JR
variable {p : Program} {l : Launch} {e : Env} {R : Room} {s : State} {m : MethodId} {args : Array Value} {below : List Frame} {meth : Method} {c : Code} {cells slots : Nat} {cc : ByteArray} {nL : Nat} {own : String} {D : va_G} {G : xh_G} {A : Nat → Prop} {ρ : Type} {QQ : ρ → xh_T → State → Prop} {pc : Nat} {ls : List (Nat × Value)} {st : List Value} {X : xh_T} {k : Option (ρ × xh_T)}
theorem jr_iconst (hz : xh_C p s m args c cc nL own D G A) {n : Int} {v : Int32} (d : decode cc pc = .ok (.iconst n, 1)) (hv : Int32.ofInt n = v) (kk : xh_J p l e R s m args below meth c cells slots D G A nL QQ (pc + 1) ls (.int v :: st) X k) : xh_J p l e R s m args below meth c cells slots D G A nL QQ pc ls (st) X k := fun r X' hk H locs la hP hS hL => lv_iconst hz.1 hz.2.1 d hv (kk r X' hk H locs la hP hS hL)
theorem jr_bipush (hz : xh_C p s m args c cc nL own D G A) {n : Int} {v : Int32} (d : decode cc pc = .ok (.bipush n, 2)) (hv : (Int8.ofInt n).toInt32 = v) (kk : xh_J p l e R s m args below meth c cells slots D G A nL QQ (pc + 2) ls (.int v :: st) X k) : xh_J p l e R s m args below meth c cells slots D G A nL QQ pc ls (st) X k := fun r X' hk H locs la hP hS hL => lv_bipush hz.1 hz.2.1 d hv (kk r X' hk H locs la hP hS hL)
theorem jr_sipush (hz : xh_C p s m args c cc nL own D G A) {n : Int} {v : Int32} (d : decode cc pc = .ok (.sipush n, 3)) (hv : (Int16.ofInt n).toInt32 = v) (kk : xh_J p l e R s m args below meth c cells slots D G A nL QQ (pc + 3) ls (.int v :: st) X k) : xh_J p l e R s m args below meth c cells slots D G A nL QQ pc ls (st) X k := fun r X' hk H locs la hP hS hL => lv_sipush hz.1 hz.2.1 d hv (kk r X' hk H locs la hP hS hL)
theorem jr_lconst (hz : xh_C p s m args c cc nL own D G A) {n : Fin 2} {v : Int64} (d : decode cc pc = .ok (.lconst n, 1)) (hv : Int64.ofNat (n : Nat) = v) (kk : xh_J p l e R s m args below meth c cells slots D G A nL QQ (pc + 1) ls (.long v :: st) X k) : xh_J p l e R s m args below meth c cells slots D G A nL QQ pc ls (st) X k := fun r X' hk H locs la hP hS hL => lv_lconst hz.1 hz.2.1 d hv (kk r X' hk H locs la hP hS hL)
theorem jr_iload_n (hz : xh_C p s m args c cc nL own D G A) {k0 : Fin 4} {i : Nat} {x : Int32} (d : decode cc pc = .ok (.iload_n k0, 1)) (hi : (k0 : Nat) = i) (j : Nat) (hl : ls[j]? = some (i, .int x)) (kk : xh_J p l e R s m args below meth c cells slots D G A nL QQ (pc + 1) ls (.int x :: st) X k) : xh_J p l e R s m args below meth c cells slots D G A nL QQ pc ls st X k := fun r X' hk H locs la hP hS hL => lv_iload_n hz.1 hz.2.1 d hi (lv_at hL j hl) (kk r X' hk H locs la hP hS hL)
theorem jr_iload (hz : xh_C p s m args c cc nL own D G A) {i : Nat} {x : Int32} (d : decode cc pc = .ok (.iload i, 2)) (j : Nat) (hl : ls[j]? = some (i, .int x)) (kk : xh_J p l e R s m args below meth c cells slots D G A nL QQ (pc + 2) ls (.int x :: st) X k) : xh_J p l e R s m args below meth c cells slots D G A nL QQ pc ls st X k := fun r X' hk H locs la hP hS hL => lv_iload hz.1 hz.2.1 d (lv_at hL j hl) (kk r X' hk H locs la hP hS hL)
theorem jr_lload_n (hz : xh_C p s m args c cc nL own D G A) {k0 : Fin 4} {i : Nat} {x : Int64} (d : decode cc pc = .ok (.lload_n k0, 1)) (hi : (k0 : Nat) = i) (j : Nat) (hl : ls[j]? = some (i, .long x)) (kk : xh_J p l e R s m args below meth c cells slots D G A nL QQ (pc + 1) ls (.long x :: st) X k) : xh_J p l e R s m args below meth c cells slots D G A nL QQ pc ls st X k := fun r X' hk H locs la hP hS hL => lv_lload_n hz.1 hz.2.1 d hi (lv_at hL j hl) (kk r X' hk H locs la hP hS hL)
theorem jr_lload (hz : xh_C p s m args c cc nL own D G A) {i : Nat} {x : Int64} (d : decode cc pc = .ok (.lload i, 2)) (j : Nat) (hl : ls[j]? = some (i, .long x)) (kk : xh_J p l e R s m args below meth c cells slots D G A nL QQ (pc + 2) ls (.long x :: st) X k) : xh_J p l e R s m args below meth c cells slots D G A nL QQ pc ls st X k := fun r X' hk H locs la hP hS hL => lv_lload hz.1 hz.2.1 d (lv_at hL j hl) (kk r X' hk H locs la hP hS hL)
theorem jr_aload_n (hz : xh_C p s m args c cc nL own D G A) {k0 : Fin 4} {i : Nat} {x : Nat} (d : decode cc pc = .ok (.aload_n k0, 1)) (hi : (k0 : Nat) = i) (j : Nat) (hl : ls[j]? = some (i, .ref x)) (kk : xh_J p l e R s m args below meth c cells slots D G A nL QQ (pc + 1) ls (.ref x :: st) X k) : xh_J p l e R s m args below meth c cells slots D G A nL QQ pc ls st X k := fun r X' hk H locs la hP hS hL => lv_aload_n hz.1 hz.2.1 d hi (lv_at hL j hl) (kk r X' hk H locs la hP hS hL)
theorem jr_aload (hz : xh_C p s m args c cc nL own D G A) {i : Nat} {x : Nat} (d : decode cc pc = .ok (.aload i, 2)) (j : Nat) (hl : ls[j]? = some (i, .ref x)) (kk : xh_J p l e R s m args below meth c cells slots D G A nL QQ (pc + 2) ls (.ref x :: st) X k) : xh_J p l e R s m args below meth c cells slots D G A nL QQ pc ls st X k := fun r X' hk H locs la hP hS hL => lv_aload hz.1 hz.2.1 d (lv_at hL j hl) (kk r X' hk H locs la hP hS hL)
theorem jr_istore_n (hz : xh_C p s m args c cc nL own D G A) {k0 : Fin 4} {i : Nat} {x : Int32} {lf : List (Nat × Value)} {K : Int32 → Option (ρ × xh_T)} (d : decode cc pc = .ok (.istore_n k0, 1)) (hi : (k0 : Nat) = i) (hn : i < nL) (hl : ls.filter (fun q => !(q.1 == i) && !(q.1 + 1 == i && q.2.category == 2)) = lf) (kk : ∀ v : Int32, xh_J p l e R s m args below meth c cells slots D G A nL QQ (pc + 1) ((i, .int v) :: lf) st X (K v)) : xh_J p l e R s m args below meth c cells slots D G A nL QQ pc ls (.int x :: st) X (xh_n x K) := fun r X' hk H locs la hP hS hL => lv_istore_n hz.1 hz.2.1 d hi hL hn (by rw [hl]) (fun la' hL' => kk x r X' hk H locs la' hP hS hL')
theorem jr_istore (hz : xh_C p s m args c cc nL own D G A) {i : Nat} {x : Int32} {lf : List (Nat × Value)} {K : Int32 → Option (ρ × xh_T)} (d : decode cc pc = .ok (.istore i, 2)) (hn : i < nL) (hl : ls.filter (fun q => !(q.1 == i) && !(q.1 + 1 == i && q.2.category == 2)) = lf) (kk : ∀ v : Int32, xh_J p l e R s m args below meth c cells slots D G A nL QQ (pc + 2) ((i, .int v) :: lf) st X (K v)) : xh_J p l e R s m args below meth c cells slots D G A nL QQ pc ls (.int x :: st) X (xh_n x K) := fun r X' hk H locs la hP hS hL => lv_istore hz.1 hz.2.1 d hL hn (by rw [hl]) (fun la' hL' => kk x r X' hk H locs la' hP hS hL')
theorem jr_lstore_n (hz : xh_C p s m args c cc nL own D G A) {k0 : Fin 4} {i : Nat} {x : Int64} {lf : List (Nat × Value)} {K : Int64 → Option (ρ × xh_T)} (d : decode cc pc = .ok (.lstore_n k0, 1)) (hi : (k0 : Nat) = i) (hn : i + 1 < nL) (hl : ls.filter (fun q => !(q.1 == i) && (!(q.1 == i + 1) && !(q.1 + 1 == i && q.2.category == 2))) = lf) (kk : ∀ v : Int64, xh_J p l e R s m args below meth c cells slots D G A nL QQ (pc + 1) ((i, .long v) :: lf) st X (K v)) : xh_J p l e R s m args below meth c cells slots D G A nL QQ pc ls (.long x :: st) X (xh_n x K) := fun r X' hk H locs la hP hS hL => lv_lstore_n hz.1 hz.2.1 d hi hL hn (by rw [hl]) (fun la' hL' => kk x r X' hk H locs la' hP hS hL')
theorem jr_lstore (hz : xh_C p s m args c cc nL own D G A) {i : Nat} {x : Int64} {lf : List (Nat × Value)} {K : Int64 → Option (ρ × xh_T)} (d : decode cc pc = .ok (.lstore i, 2)) (hn : i + 1 < nL) (hl : ls.filter (fun q => !(q.1 == i) && (!(q.1 == i + 1) && !(q.1 + 1 == i && q.2.category == 2))) = lf) (kk : ∀ v : Int64, xh_J p l e R s m args below meth c cells slots D G A nL QQ (pc + 2) ((i, .long v) :: lf) st X (K v)) : xh_J p l e R s m args below meth c cells slots D G A nL QQ pc ls (.long x :: st) X (xh_n x K) := fun r X' hk H locs la hP hS hL => lv_lstore hz.1 hz.2.1 d hL hn (by rw [hl]) (fun la' hL' => kk x r X' hk H locs la' hP hS hL')
theorem jr_astore_n (hz : xh_C p s m args c cc nL own D G A) {k0 : Fin 4} {i : Nat} {x : Nat} {lf : List (Nat × Value)} {K : Nat → Option (ρ × xh_T)} (d : decode cc pc = .ok (.astore_n k0, 1)) (hi : (k0 : Nat) = i) (hn : i < nL) (hl : ls.filter (fun q => !(q.1 == i) && !(q.1 + 1 == i && q.2.category == 2)) = lf) (kk : ∀ v : Nat, xh_J p l e R s m args below meth c cells slots D G A nL QQ (pc + 1) ((i, .ref (G.1 v)) :: lf) st X (K v)) : xh_J p l e R s m args below meth c cells slots D G A nL QQ pc ls (.ref (G.1 x) :: st) X (xh_n x K) := fun r X' hk H locs la hP hS hL => lv_astore_n hz.1 hz.2.1 d hi hL hn (by rw [hl]) (fun la' hL' => kk x r X' hk H locs la' hP hS hL')
theorem jr_astore (hz : xh_C p s m args c cc nL own D G A) {i : Nat} {x : Nat} {lf : List (Nat × Value)} {K : Nat → Option (ρ × xh_T)} (d : decode cc pc = .ok (.astore i, 2)) (hn : i < nL) (hl : ls.filter (fun q => !(q.1 == i) && !(q.1 + 1 == i && q.2.category == 2)) = lf) (kk : ∀ v : Nat, xh_J p l e R s m args below meth c cells slots D G A nL QQ (pc + 2) ((i, .ref (G.1 v)) :: lf) st X (K v)) : xh_J p l e R s m args below meth c cells slots D G A nL QQ pc ls (.ref (G.1 x) :: st) X (xh_n x K) := fun r X' hk H locs la hP hS hL => lv_astore hz.1 hz.2.1 d hL hn (by rw [hl]) (fun la' hL' => kk x r X' hk H locs la' hP hS hL')
theorem jr_iinc (hz : xh_C p s m args c cc nL own D G A) {i : Nat} {n : Int} {x : Int32} {lf : List (Nat × Value)} {K : Int32 → Option (ρ × xh_T)} (d : decode cc pc = .ok (.iinc i n, 3)) (j : Nat) (hj : ls[j]? = some (i, .int x)) {w : Int32} (hw : Int32.ofInt n = w) (hn : i < nL) (hl : ls.filter (fun q => !(q.1 == i) && !(q.1 + 1 == i && q.2.category == 2)) = lf) (kk : ∀ v : Int32, xh_J p l e R s m args below meth c cells slots D G A nL QQ (pc + 3) ((i, .int v) :: lf) st X (K v)) : xh_J p l e R s m args below meth c cells slots D G A nL QQ pc ls st X (xh_n (x + w) K) := fun r X' hk H locs la hP hS hL => lv_iinc hz.1 hz.2.1 d hL hj rfl hn (by rw [hl, hw]) (fun la' hL' => kk (x + w) r X' hk H locs la' hP hS hL')
theorem jr_iadd (hz : xh_C p s m args c cc nL own D G A) {x y : Int32} (d : decode cc pc = .ok (.iadd, 1)) (kk : xh_J p l e R s m args below meth c cells slots D G A nL QQ (pc + 1) ls (.int (x + y) :: st) X k) : xh_J p l e R s m args below meth c cells slots D G A nL QQ pc ls (.int y :: .int x :: st) X k := fun r X' hk H locs la hP hS hL => lv_iadd hz.1 hz.2.1 d  (kk r X' hk H locs la hP hS hL)
theorem jr_isub (hz : xh_C p s m args c cc nL own D G A) {x y : Int32} (d : decode cc pc = .ok (.isub, 1)) (kk : xh_J p l e R s m args below meth c cells slots D G A nL QQ (pc + 1) ls (.int (x - y) :: st) X k) : xh_J p l e R s m args below meth c cells slots D G A nL QQ pc ls (.int y :: .int x :: st) X k := fun r X' hk H locs la hP hS hL => lv_isub hz.1 hz.2.1 d  (kk r X' hk H locs la hP hS hL)
theorem jr_imul (hz : xh_C p s m args c cc nL own D G A) {x y : Int32} (d : decode cc pc = .ok (.imul, 1)) (kk : xh_J p l e R s m args below meth c cells slots D G A nL QQ (pc + 1) ls (.int (x * y) :: st) X k) : xh_J p l e R s m args below meth c cells slots D G A nL QQ pc ls (.int y :: .int x :: st) X k := fun r X' hk H locs la hP hS hL => lv_imul hz.1 hz.2.1 d  (kk r X' hk H locs la hP hS hL)
theorem jr_iand (hz : xh_C p s m args c cc nL own D G A) {x y : Int32} (d : decode cc pc = .ok (.iand, 1)) (kk : xh_J p l e R s m args below meth c cells slots D G A nL QQ (pc + 1) ls (.int (x &&& y) :: st) X k) : xh_J p l e R s m args below meth c cells slots D G A nL QQ pc ls (.int y :: .int x :: st) X k := fun r X' hk H locs la hP hS hL => lv_iand hz.1 hz.2.1 d  (kk r X' hk H locs la hP hS hL)
theorem jr_ior (hz : xh_C p s m args c cc nL own D G A) {x y : Int32} (d : decode cc pc = .ok (.ior, 1)) (kk : xh_J p l e R s m args below meth c cells slots D G A nL QQ (pc + 1) ls (.int (x ||| y) :: st) X k) : xh_J p l e R s m args below meth c cells slots D G A nL QQ pc ls (.int y :: .int x :: st) X k := fun r X' hk H locs la hP hS hL => lv_ior hz.1 hz.2.1 d  (kk r X' hk H locs la hP hS hL)
theorem jr_ixor (hz : xh_C p s m args c cc nL own D G A) {x y : Int32} (d : decode cc pc = .ok (.ixor, 1)) (kk : xh_J p l e R s m args below meth c cells slots D G A nL QQ (pc + 1) ls (.int (x ^^^ y) :: st) X k) : xh_J p l e R s m args below meth c cells slots D G A nL QQ pc ls (.int y :: .int x :: st) X k := fun r X' hk H locs la hP hS hL => lv_ixor hz.1 hz.2.1 d  (kk r X' hk H locs la hP hS hL)
theorem jr_ladd (hz : xh_C p s m args c cc nL own D G A) {x y : Int64} (d : decode cc pc = .ok (.ladd, 1)) (kk : xh_J p l e R s m args below meth c cells slots D G A nL QQ (pc + 1) ls (.long (x + y) :: st) X k) : xh_J p l e R s m args below meth c cells slots D G A nL QQ pc ls (.long y :: .long x :: st) X k := fun r X' hk H locs la hP hS hL => lv_ladd hz.1 hz.2.1 d  (kk r X' hk H locs la hP hS hL)
theorem jr_lsub (hz : xh_C p s m args c cc nL own D G A) {x y : Int64} (d : decode cc pc = .ok (.lsub, 1)) (kk : xh_J p l e R s m args below meth c cells slots D G A nL QQ (pc + 1) ls (.long (x - y) :: st) X k) : xh_J p l e R s m args below meth c cells slots D G A nL QQ pc ls (.long y :: .long x :: st) X k := fun r X' hk H locs la hP hS hL => lv_lsub hz.1 hz.2.1 d  (kk r X' hk H locs la hP hS hL)
theorem jr_lmul (hz : xh_C p s m args c cc nL own D G A) {x y : Int64} (d : decode cc pc = .ok (.lmul, 1)) (kk : xh_J p l e R s m args below meth c cells slots D G A nL QQ (pc + 1) ls (.long (x * y) :: st) X k) : xh_J p l e R s m args below meth c cells slots D G A nL QQ pc ls (.long y :: .long x :: st) X k := fun r X' hk H locs la hP hS hL => lv_lmul hz.1 hz.2.1 d  (kk r X' hk H locs la hP hS hL)
theorem jr_land (hz : xh_C p s m args c cc nL own D G A) {x y : Int64} (d : decode cc pc = .ok (.land, 1)) (kk : xh_J p l e R s m args below meth c cells slots D G A nL QQ (pc + 1) ls (.long (x &&& y) :: st) X k) : xh_J p l e R s m args below meth c cells slots D G A nL QQ pc ls (.long y :: .long x :: st) X k := fun r X' hk H locs la hP hS hL => lv_land hz.1 hz.2.1 d  (kk r X' hk H locs la hP hS hL)
theorem jr_ineg (hz : xh_C p s m args c cc nL own D G A) {x : Int32} (d : decode cc pc = .ok (.ineg, 1)) (kk : xh_J p l e R s m args below meth c cells slots D G A nL QQ (pc + 1) ls (.int (-x) :: st) X k) : xh_J p l e R s m args below meth c cells slots D G A nL QQ pc ls (.int x :: st) X k := fun r X' hk H locs la hP hS hL => lv_ineg hz.1 hz.2.1 d  (kk r X' hk H locs la hP hS hL)
theorem jr_lneg (hz : xh_C p s m args c cc nL own D G A) {x : Int64} (d : decode cc pc = .ok (.lneg, 1)) (kk : xh_J p l e R s m args below meth c cells slots D G A nL QQ (pc + 1) ls (.long (-x) :: st) X k) : xh_J p l e R s m args below meth c cells slots D G A nL QQ pc ls (.long x :: st) X k := fun r X' hk H locs la hP hS hL => lv_lneg hz.1 hz.2.1 d  (kk r X' hk H locs la hP hS hL)
theorem jr_ishr (hz : xh_C p s m args c cc nL own D G A) {x y : Int32} (d : decode cc pc = .ok (.ishr, 1)) (kk : xh_J p l e R s m args below meth c cells slots D G A nL QQ (pc + 1) ls (.int (x >>> (y &&& 31)) :: st) X k) : xh_J p l e R s m args below meth c cells slots D G A nL QQ pc ls (.int y :: .int x :: st) X k := fun r X' hk H locs la hP hS hL => lv_ishr hz.1 hz.2.1 d  (kk r X' hk H locs la hP hS hL)
theorem jr_ishl (hz : xh_C p s m args c cc nL own D G A) {x y : Int32} (d : decode cc pc = .ok (.ishl, 1)) (kk : xh_J p l e R s m args below meth c cells slots D G A nL QQ (pc + 1) ls (.int (x <<< (y &&& 31)) :: st) X k) : xh_J p l e R s m args below meth c cells slots D G A nL QQ pc ls (.int y :: .int x :: st) X k := fun r X' hk H locs la hP hS hL => lv_ishl hz.1 hz.2.1 d  (kk r X' hk H locs la hP hS hL)
theorem jr_iushr (hz : xh_C p s m args c cc nL own D G A) {x y : Int32} (d : decode cc pc = .ok (.iushr, 1)) (kk : xh_J p l e R s m args below meth c cells slots D G A nL QQ (pc + 1) ls (.int (xh_ush x y) :: st) X k) : xh_J p l e R s m args below meth c cells slots D G A nL QQ pc ls (.int y :: .int x :: st) X k := fun r X' hk H locs la hP hS hL => lv_iushr hz.1 hz.2.1 d rfl (kk r X' hk H locs la hP hS hL)
theorem jr_lshr (hz : xh_C p s m args c cc nL own D G A) {x : Int64} {y : Int32} (d : decode cc pc = .ok (.lshr, 1)) (kk : xh_J p l e R s m args below meth c cells slots D G A nL QQ (pc + 1) ls (.long (x >>> (y.toInt64 &&& 63)) :: st) X k) : xh_J p l e R s m args below meth c cells slots D G A nL QQ pc ls (.int y :: .long x :: st) X k := fun r X' hk H locs la hP hS hL => lv_lshr hz.1 hz.2.1 d rfl (kk r X' hk H locs la hP hS hL)
theorem jr_i2l (hz : xh_C p s m args c cc nL own D G A) {x : Int32} (d : decode cc pc = .ok (.i2l, 1)) (kk : xh_J p l e R s m args below meth c cells slots D G A nL QQ (pc + 1) ls (.long x.toInt64 :: st) X k) : xh_J p l e R s m args below meth c cells slots D G A nL QQ pc ls (.int x :: st) X k := fun r X' hk H locs la hP hS hL => lv_i2l hz.1 hz.2.1 d rfl (kk r X' hk H locs la hP hS hL)
theorem jr_l2i (hz : xh_C p s m args c cc nL own D G A) {x : Int64} (d : decode cc pc = .ok (.l2i, 1)) (kk : xh_J p l e R s m args below meth c cells slots D G A nL QQ (pc + 1) ls (.int x.toInt32 :: st) X k) : xh_J p l e R s m args below meth c cells slots D G A nL QQ pc ls (.long x :: st) X k := fun r X' hk H locs la hP hS hL => lv_l2i hz.1 hz.2.1 d rfl (kk r X' hk H locs la hP hS hL)
theorem jr_lcmp (hz : xh_C p s m args c cc nL own D G A) {x y : Int64} (d : decode cc pc = .ok (.lcmp, 1)) (kk : xh_J p l e R s m args below meth c cells slots D G A nL QQ (pc + 1) ls (.int (lg_cmp x y) :: st) X k) : xh_J p l e R s m args below meth c cells slots D G A nL QQ pc ls (.long y :: .long x :: st) X k := fun r X' hk H locs la hP hS hL => W.lcmp hz.1 hz.2.1 d  (kk r X' hk H locs la hP hS hL)
theorem jr_dup (hz : xh_C p s m args c cc nL own D G A) {va : Value} (d : decode cc pc = .ok (.dup, 1)) (hva : va.category = 1) (kk : xh_J p l e R s m args below meth c cells slots D G A nL QQ (pc + 1) ls (va :: va :: st) X k) : xh_J p l e R s m args below meth c cells slots D G A nL QQ pc ls (va :: st) X k := fun r X' hk H locs la hP hS hL => lv_dup hz.1 hz.2.1 d hva (kk r X' hk H locs la hP hS hL)
theorem jr_pop (hz : xh_C p s m args c cc nL own D G A) {va : Value} (d : decode cc pc = .ok (.pop, 1)) (hva : va.category = 1) (kk : xh_J p l e R s m args below meth c cells slots D G A nL QQ (pc + 1) ls (st) X k) : xh_J p l e R s m args below meth c cells slots D G A nL QQ pc ls (va :: st) X k := fun r X' hk H locs la hP hS hL => lv_pop hz.1 hz.2.1 d hva (kk r X' hk H locs la hP hS hL)
theorem jr_dup_x1 (hz : xh_C p s m args c cc nL own D G A) {va vb : Value} (d : decode cc pc = .ok (.dup_x1, 1)) (hva : va.category = 1) (hvb : vb.category = 1) (kk : xh_J p l e R s m args below meth c cells slots D G A nL QQ (pc + 1) ls (va :: vb :: va :: st) X k) : xh_J p l e R s m args below meth c cells slots D G A nL QQ pc ls (va :: vb :: st) X k := fun r X' hk H locs la hP hS hL => lv_dup_x1 hz.1 hz.2.1 d hva hvb (kk r X' hk H locs la hP hS hL)
theorem jr_dup2_11 (hz : xh_C p s m args c cc nL own D G A) {va vb : Value} (d : decode cc pc = .ok (.dup2, 1)) (hva : va.category = 1) (hvb : vb.category = 1) (kk : xh_J p l e R s m args below meth c cells slots D G A nL QQ (pc + 1) ls (va :: vb :: va :: vb :: st) X k) : xh_J p l e R s m args below meth c cells slots D G A nL QQ pc ls (va :: vb :: st) X k := fun r X' hk H locs la hP hS hL => lv_dup2_11 hz.1 hz.2.1 d hva hvb (kk r X' hk H locs la hP hS hL)
theorem jr_dup2_2 (hz : xh_C p s m args c cc nL own D G A) {va : Value} (d : decode cc pc = .ok (.dup2, 1)) (hva : va.category = 2) (kk : xh_J p l e R s m args below meth c cells slots D G A nL QQ (pc + 1) ls (va :: va :: st) X k) : xh_J p l e R s m args below meth c cells slots D G A nL QQ pc ls (va :: st) X k := fun r X' hk H locs la hP hS hL => lv_dup2_2 hz.1 hz.2.1 d hva (kk r X' hk H locs la hP hS hL)
theorem jr_goto (hz : xh_C p s m args c cc nL own D G A) {off : Int} {tgt : Nat} (d : decode cc pc = .ok (.goto off, 3)) (ht : (pc : Int) + off = (tgt : Int)) (kk : xh_J p l e R s m args below meth c cells slots D G A nL QQ tgt ls st X k) : xh_J p l e R s m args below meth c cells slots D G A nL QQ pc ls st X k := fun r X' hk H locs la hP hS hL => lv_goto hz.1 hz.2.1 d ht (kk r X' hk H locs la hP hS hL)
theorem jr_ldc (hz : xh_C p s m args c cc nL own D G A) {idx : Nat} {v : Int32} (hw : Cond.constant own idx v ∈ sp_ws) (d : decode cc pc = .ok (.ldc idx, 2)) (kk : xh_J p l e R s m args below meth c cells slots D G A nL QQ (pc + 2) ls (.int v :: st) X k) : xh_J p l e R s m args below meth c cells slots D G A nL QQ pc ls st X k := fun r X' hk H locs la hP hS hL => lv_ldc hz.1 hz.2.1 hz.2.2.2.1 (hz.2.2.2.2.1 _ hw) d (kk r X' hk H locs la hP hS hL)
theorem jr_ldc2 (hz : xh_C p s m args c cc nL own D G A) {idx : Nat} {v : Int64} (hw : Cond.constantLong own idx v ∈ sp_ws) (d : decode cc pc = .ok (.ldc2_w idx, 3)) (kk : xh_J p l e R s m args below meth c cells slots D G A nL QQ (pc + 3) ls (.long v :: st) X k) : xh_J p l e R s m args below meth c cells slots D G A nL QQ pc ls st X k := fun r X' hk H locs la hP hS hL => lv_ldc2 hz.1 hz.2.1 hz.2.2.2.1 (hz.2.2.2.2.1 _ hw) d (kk r X' hk H locs la hP hS hL)
theorem jr_if_eq (hz : xh_C p s m args c cc nL own D G A) {x : Int32} {off : Int} {tgt : Nat} {k1 k2 : Option (ρ × xh_T)} (d : decode cc pc = .ok (.ifCond .eq off, 3)) (ht : (pc : Int) + off = (tgt : Int)) (kt : xh_J p l e R s m args below meth c cells slots D G A nL QQ tgt ls st X k1) (kf : xh_J p l e R s m args below meth c cells slots D G A nL QQ (pc + 3) ls st X k2) : xh_J p l e R s m args below meth c cells slots D G A nL QQ pc ls (.int x :: st) X (if x = 0 then k1 else k2) := fun r X' hk H locs la hP hS hL => lv_if_eq hz.1 hz.2.1 d ht (fun h => kt r X' (by rw [if_pos h] at hk; exact hk) H locs la hP hS hL) (fun h => kf r X' (by rw [if_neg h] at hk; exact hk) H locs la hP hS hL)
theorem jr_icmp_eq (hz : xh_C p s m args c cc nL own D G A) {x y : Int32} {off : Int} {tgt : Nat} {k1 k2 : Option (ρ × xh_T)} (d : decode cc pc = .ok (.if_icmp .eq off, 3)) (ht : (pc : Int) + off = (tgt : Int)) (kt : xh_J p l e R s m args below meth c cells slots D G A nL QQ tgt ls st X k1) (kf : xh_J p l e R s m args below meth c cells slots D G A nL QQ (pc + 3) ls st X k2) : xh_J p l e R s m args below meth c cells slots D G A nL QQ pc ls (.int y :: .int x :: st) X (if x = y then k1 else k2) := fun r X' hk H locs la hP hS hL => lv_icmp_eq hz.1 hz.2.1 d ht (fun h => kt r X' (by rw [if_pos h] at hk; exact hk) H locs la hP hS hL) (fun h => kf r X' (by rw [if_neg h] at hk; exact hk) H locs la hP hS hL)
theorem jr_if_ne (hz : xh_C p s m args c cc nL own D G A) {x : Int32} {off : Int} {tgt : Nat} {k1 k2 : Option (ρ × xh_T)} (d : decode cc pc = .ok (.ifCond .ne off, 3)) (ht : (pc : Int) + off = (tgt : Int)) (kt : xh_J p l e R s m args below meth c cells slots D G A nL QQ tgt ls st X k1) (kf : xh_J p l e R s m args below meth c cells slots D G A nL QQ (pc + 3) ls st X k2) : xh_J p l e R s m args below meth c cells slots D G A nL QQ pc ls (.int x :: st) X (if x = 0 then k2 else k1) := fun r X' hk H locs la hP hS hL => lv_if_ne hz.1 hz.2.1 d ht (fun h => kt r X' (by rw [if_neg h] at hk; exact hk) H locs la hP hS hL) (fun h => kf r X' (by rw [if_pos h] at hk; exact hk) H locs la hP hS hL)
theorem jr_icmp_ne (hz : xh_C p s m args c cc nL own D G A) {x y : Int32} {off : Int} {tgt : Nat} {k1 k2 : Option (ρ × xh_T)} (d : decode cc pc = .ok (.if_icmp .ne off, 3)) (ht : (pc : Int) + off = (tgt : Int)) (kt : xh_J p l e R s m args below meth c cells slots D G A nL QQ tgt ls st X k1) (kf : xh_J p l e R s m args below meth c cells slots D G A nL QQ (pc + 3) ls st X k2) : xh_J p l e R s m args below meth c cells slots D G A nL QQ pc ls (.int y :: .int x :: st) X (if x = y then k2 else k1) := fun r X' hk H locs la hP hS hL => lv_icmp_ne hz.1 hz.2.1 d ht (fun h => kt r X' (by rw [if_neg h] at hk; exact hk) H locs la hP hS hL) (fun h => kf r X' (by rw [if_pos h] at hk; exact hk) H locs la hP hS hL)
theorem jr_if_lt (hz : xh_C p s m args c cc nL own D G A) {x : Int32} {off : Int} {tgt : Nat} {k1 k2 : Option (ρ × xh_T)} (d : decode cc pc = .ok (.ifCond .lt off, 3)) (ht : (pc : Int) + off = (tgt : Int)) (kt : xh_J p l e R s m args below meth c cells slots D G A nL QQ tgt ls st X k1) (kf : xh_J p l e R s m args below meth c cells slots D G A nL QQ (pc + 3) ls st X k2) : xh_J p l e R s m args below meth c cells slots D G A nL QQ pc ls (.int x :: st) X (if x < 0 then k1 else k2) := fun r X' hk H locs la hP hS hL => lv_if_lt hz.1 hz.2.1 d ht (fun h => kt r X' (by rw [if_pos h] at hk; exact hk) H locs la hP hS hL) (fun h => kf r X' (by rw [if_neg h] at hk; exact hk) H locs la hP hS hL)
theorem jr_icmp_lt (hz : xh_C p s m args c cc nL own D G A) {x y : Int32} {off : Int} {tgt : Nat} {k1 k2 : Option (ρ × xh_T)} (d : decode cc pc = .ok (.if_icmp .lt off, 3)) (ht : (pc : Int) + off = (tgt : Int)) (kt : xh_J p l e R s m args below meth c cells slots D G A nL QQ tgt ls st X k1) (kf : xh_J p l e R s m args below meth c cells slots D G A nL QQ (pc + 3) ls st X k2) : xh_J p l e R s m args below meth c cells slots D G A nL QQ pc ls (.int y :: .int x :: st) X (if x < y then k1 else k2) := fun r X' hk H locs la hP hS hL => lv_icmp_lt hz.1 hz.2.1 d ht (fun h => kt r X' (by rw [if_pos h] at hk; exact hk) H locs la hP hS hL) (fun h => kf r X' (by rw [if_neg h] at hk; exact hk) H locs la hP hS hL)
theorem jr_if_ge (hz : xh_C p s m args c cc nL own D G A) {x : Int32} {off : Int} {tgt : Nat} {k1 k2 : Option (ρ × xh_T)} (d : decode cc pc = .ok (.ifCond .ge off, 3)) (ht : (pc : Int) + off = (tgt : Int)) (kt : xh_J p l e R s m args below meth c cells slots D G A nL QQ tgt ls st X k1) (kf : xh_J p l e R s m args below meth c cells slots D G A nL QQ (pc + 3) ls st X k2) : xh_J p l e R s m args below meth c cells slots D G A nL QQ pc ls (.int x :: st) X (if 0 ≤ x then k1 else k2) := fun r X' hk H locs la hP hS hL => lv_if_ge hz.1 hz.2.1 d ht (fun h => kt r X' (by rw [if_pos h] at hk; exact hk) H locs la hP hS hL) (fun h => kf r X' (by rw [if_neg h] at hk; exact hk) H locs la hP hS hL)
theorem jr_icmp_ge (hz : xh_C p s m args c cc nL own D G A) {x y : Int32} {off : Int} {tgt : Nat} {k1 k2 : Option (ρ × xh_T)} (d : decode cc pc = .ok (.if_icmp .ge off, 3)) (ht : (pc : Int) + off = (tgt : Int)) (kt : xh_J p l e R s m args below meth c cells slots D G A nL QQ tgt ls st X k1) (kf : xh_J p l e R s m args below meth c cells slots D G A nL QQ (pc + 3) ls st X k2) : xh_J p l e R s m args below meth c cells slots D G A nL QQ pc ls (.int y :: .int x :: st) X (if y ≤ x then k1 else k2) := fun r X' hk H locs la hP hS hL => lv_icmp_ge hz.1 hz.2.1 d ht (fun h => kt r X' (by rw [if_pos h] at hk; exact hk) H locs la hP hS hL) (fun h => kf r X' (by rw [if_neg h] at hk; exact hk) H locs la hP hS hL)
theorem jr_if_gt (hz : xh_C p s m args c cc nL own D G A) {x : Int32} {off : Int} {tgt : Nat} {k1 k2 : Option (ρ × xh_T)} (d : decode cc pc = .ok (.ifCond .gt off, 3)) (ht : (pc : Int) + off = (tgt : Int)) (kt : xh_J p l e R s m args below meth c cells slots D G A nL QQ tgt ls st X k1) (kf : xh_J p l e R s m args below meth c cells slots D G A nL QQ (pc + 3) ls st X k2) : xh_J p l e R s m args below meth c cells slots D G A nL QQ pc ls (.int x :: st) X (if 0 < x then k1 else k2) := fun r X' hk H locs la hP hS hL => lv_if_gt hz.1 hz.2.1 d ht (fun h => kt r X' (by rw [if_pos h] at hk; exact hk) H locs la hP hS hL) (fun h => kf r X' (by rw [if_neg h] at hk; exact hk) H locs la hP hS hL)
theorem jr_icmp_gt (hz : xh_C p s m args c cc nL own D G A) {x y : Int32} {off : Int} {tgt : Nat} {k1 k2 : Option (ρ × xh_T)} (d : decode cc pc = .ok (.if_icmp .gt off, 3)) (ht : (pc : Int) + off = (tgt : Int)) (kt : xh_J p l e R s m args below meth c cells slots D G A nL QQ tgt ls st X k1) (kf : xh_J p l e R s m args below meth c cells slots D G A nL QQ (pc + 3) ls st X k2) : xh_J p l e R s m args below meth c cells slots D G A nL QQ pc ls (.int y :: .int x :: st) X (if y < x then k1 else k2) := fun r X' hk H locs la hP hS hL => lv_icmp_gt hz.1 hz.2.1 d ht (fun h => kt r X' (by rw [if_pos h] at hk; exact hk) H locs la hP hS hL) (fun h => kf r X' (by rw [if_neg h] at hk; exact hk) H locs la hP hS hL)
theorem jr_if_le (hz : xh_C p s m args c cc nL own D G A) {x : Int32} {off : Int} {tgt : Nat} {k1 k2 : Option (ρ × xh_T)} (d : decode cc pc = .ok (.ifCond .le off, 3)) (ht : (pc : Int) + off = (tgt : Int)) (kt : xh_J p l e R s m args below meth c cells slots D G A nL QQ tgt ls st X k1) (kf : xh_J p l e R s m args below meth c cells slots D G A nL QQ (pc + 3) ls st X k2) : xh_J p l e R s m args below meth c cells slots D G A nL QQ pc ls (.int x :: st) X (if x ≤ 0 then k1 else k2) := fun r X' hk H locs la hP hS hL => lv_if_le hz.1 hz.2.1 d ht (fun h => kt r X' (by rw [if_pos h] at hk; exact hk) H locs la hP hS hL) (fun h => kf r X' (by rw [if_neg h] at hk; exact hk) H locs la hP hS hL)
theorem jr_icmp_le (hz : xh_C p s m args c cc nL own D G A) {x y : Int32} {off : Int} {tgt : Nat} {k1 k2 : Option (ρ × xh_T)} (d : decode cc pc = .ok (.if_icmp .le off, 3)) (ht : (pc : Int) + off = (tgt : Int)) (kt : xh_J p l e R s m args below meth c cells slots D G A nL QQ tgt ls st X k1) (kf : xh_J p l e R s m args below meth c cells slots D G A nL QQ (pc + 3) ls st X k2) : xh_J p l e R s m args below meth c cells slots D G A nL QQ pc ls (.int y :: .int x :: st) X (if x ≤ y then k1 else k2) := fun r X' hk H locs la hP hS hL => lv_icmp_le hz.1 hz.2.1 d ht (fun h => kt r X' (by rw [if_pos h] at hk; exact hk) H locs la hP hS hL) (fun h => kf r X' (by rw [if_neg h] at hk; exact hk) H locs la hP hS hL)
theorem jr_ite {q : Prop} {hq : Decidable q} {k1 k2 : Option (ρ × xh_T)} (kt : q → xh_J p l e R s m args below meth c cells slots D G A nL QQ pc ls st X k1) (kf : ¬ q → xh_J p l e R s m args below meth c cells slots D G A nL QQ pc ls st X k2) : xh_J p l e R s m args below meth c cells slots D G A nL QQ pc ls st X (if q then k1 else k2) := fun r X' hk => by
  by_cases h : q
  · rw [if_pos h] at hk; exact kt h r X' hk
  · rw [if_neg h] at hk; exact kf h r X' hk
theorem jr_lookup (hz : xh_C p s m args c cc nL own D G A) {dflt : Int} {ps : Array (Int × Int)} {len : Nat} {x : Int32} {off : Int} {tgt : Nat} (d : decode cc pc = .ok (.lookupswitch dflt ps, len)) (hp : (ps.toList.zip (ps.toList.drop 1)).all (fun (a, next) => a.1 < next.1) = true) (ho : Op.lookupswitch.offset ps.toList dflt x.toInt = off) (ht : (pc : Int) + off = (tgt : Int)) (kk : xh_J p l e R s m args below meth c cells slots D G A nL QQ tgt ls st X k) : xh_J p l e R s m args below meth c cells slots D G A nL QQ pc ls (.int x :: st) X k := fun r X' hk H locs la hP hS hL => lv_lookup hz.1 hz.2.1 d hp ho ht (kk r X' hk H locs la hP hS hL)
theorem jr_tableOut (hz : xh_C p s m args c cc nL own D G A) {dflt lo hi : Int} {offs : Array Int} {len : Nat} {x : Int32} {tgt : Nat} (d : decode cc pc = .ok (.tableswitch dflt lo hi offs, len)) (h : x.toInt < lo ∨ hi < x.toInt) (ht : (pc : Int) + dflt = (tgt : Int)) (kk : xh_J p l e R s m args below meth c cells slots D G A nL QQ tgt ls st X k) : xh_J p l e R s m args below meth c cells slots D G A nL QQ pc ls (.int x :: st) X k := fun r X' hk H locs la hP hS hL => lv_tableOut hz.1 hz.2.1 d h ht (kk r X' hk H locs la hP hS hL)
theorem jr_tableIn (hz : xh_C p s m args c cc nL own D G A) {dflt lo hi : Int} {offs : Array Int} {len : Nat} {x : Int32} {off : Int} {tgt : Nat} (d : decode cc pc = .ok (.tableswitch dflt lo hi offs, len)) (h1 : ¬ x.toInt < lo) (h2 : ¬ hi < x.toInt) (ho : offs[(x.toInt - lo).toNat]? = some off) (ht : (pc : Int) + off = (tgt : Int)) (kk : xh_J p l e R s m args below meth c cells slots D G A nL QQ tgt ls st X k) : xh_J p l e R s m args below meth c cells slots D G A nL QQ pc ls (.int x :: st) X k := fun r X' hk H locs la hP hS hL => lv_tableIn hz.1 hz.2.1 d h1 h2 ho ht (kk r X' hk H locs la hP hS hL)
/-- fewer locals, by their places -/
theorem jr_sub {ls' : List (Nat × Value)} (is : List Nat) (h : lv_pick ls is = ls') (kk : xh_J p l e R s m args below meth c cells slots D G A nL QQ pc ls' st X k) : xh_J p l e R s m args below meth c cells slots D G A nL QQ pc ls st X k := fun r X' hk H locs la hP hS hL => kk r X' hk H locs la hP hS (lv_sub hL is h)
theorem jr_none : xh_J p l e R s m args below meth c cells slots D G A nL QQ pc ls st X none := fun r X' hk => nomatch hk
theorem jr_k {b : Bool} (kk : b = true → xh_J p l e R s m args below meth c cells slots D G A nL QQ pc ls st X k) : xh_J p l e R s m args below meth c cells slots D G A nL QQ pc ls st X (xh_k b k) := fun r X' hk => by
  unfold xh_k at hk
  by_cases h : b = true
  · rw [if_pos h] at hk; exact kk h r X' hk
  · rw [if_neg h] at hk; cases hk
theorem jr_z {v : Int32} (kk : (v = 0 ∨ v = 1) → xh_J p l e R s m args below meth c cells slots D G A nL QQ pc ls st X k) : xh_J p l e R s m args below meth c cells slots D G A nL QQ pc ls st X (xh_z v k) := fun r X' hk => by
  unfold xh_z at hk
  by_cases h : v = 0 ∨ v = 1
  · rw [if_pos h] at hk; exact kk h r X' hk
  · rw [if_neg h] at hk; cases hk
theorem xh_o_in {β : Type} {i : Int32} {n : Nat} {K : Option β} {r : β} (h : xh_o i n K = some r) : vp_in i n ∧ K = some r := by
  unfold xh_o at h
  by_cases g : i < 0 ∨ n ≤ i.toNatClampNeg
  · rw [if_pos g] at h; cases h
  · rw [if_neg g] at h; exact ⟨g, h⟩
/-- a field: an int, a reference -/
theorem jr_geti (hz : xh_C p s m args c cc nL own D G A) {a ci j idx : Nat} {fds : List (Option Nat)} (hlt : a < sp_n) (hlay : sp_lay a = .inr (ci, fds)) (hj : fds[j]? = some none) (hF : xh_F own idx ci j) (d : decode cc pc = .ok (.getfield idx, 3)) (kk : xh_J p l e R s m args below meth c cells slots D G A nL QQ (pc + 3) ls (.int (X.1 a j) :: st) X k) : xh_J p l e R s m args below meth c cells slots D G A nL QQ pc ls (.ref (G.1 a) :: st) X k := fun r X' hk H locs la hP hS hL => by
  obtain ⟨C, T, N, hc, hjN, hin, hlink⟩ := hF
  have hat := xh_at (G := G) (X := X) hlt
  rw [hlay] at hat
  exact va_get (fs := xh_f G.1 (X.1 a) fds) hz.1 hz.2.1 hz.2.2.2.2.1 hin hz.2.2.2.1 hz.2.2.2.2.2.1 hP a hat hc j hjN (hz.2.2.2.2.1 _ hlink) (fun _ h => h) (xh_f_int hj) d (kk r X' hk H locs la hP hS hL)
theorem jr_getr (hz : xh_C p s m args c cc nL own D G A) {a ci j idx t : Nat} {fds : List (Option Nat)} (hlt : a < sp_n) (hlay : sp_lay a = .inr (ci, fds)) (hj : fds[j]? = some (some t)) (hF : xh_F own idx ci j) (d : decode cc pc = .ok (.getfield idx, 3)) (kk : xh_J p l e R s m args below meth c cells slots D G A nL QQ (pc + 3) ls (.ref (G.1 t) :: st) X k) : xh_J p l e R s m args below meth c cells slots D G A nL QQ pc ls (.ref (G.1 a) :: st) X k := fun r X' hk H locs la hP hS hL => by
  obtain ⟨C, T, N, hc, hjN, hin, hlink⟩ := hF
  have hat := xh_at (G := G) (X := X) hlt
  rw [hlay] at hat
  exact va_get (fs := xh_f G.1 (X.1 a) fds) hz.1 hz.2.1 hz.2.2.2.2.1 hin hz.2.2.2.1 hz.2.2.2.2.2.1 hP a hat hc j hjN (hz.2.2.2.2.1 _ hlink) (fun _ h => h) (xh_f_ref hj) d (kk r X' hk H locs la hP hS hL)
theorem jr_puti (hz : xh_C p s m args c cc nL own D G A) {a ci j idx : Nat} {v : Int32} {fds : List (Option Nat)} {K : xh_T → Option (ρ × xh_T)} (hlt : a < sp_n) (hlay : sp_lay a = .inr (ci, fds)) (hj : fds[j]? = some none) (hF : xh_Fp own idx ci j) (d : decode cc pc = .ok (.putfield idx, 3)) (kk : ∀ X1, xh_J p l e R s m args below meth c cells slots D G A nL QQ (pc + 3) ls st X1 (K X1)) : xh_J p l e R s m args below meth c cells slots D G A nL QQ pc ls (.int v :: .ref (G.1 a) :: st) X (xh_n (xh_i X a j v) K) := fun r X' hk H locs la hP hS hL => by
  obtain ⟨C, T, N, t, hc, hjN, hin, hlink, hty, hnm, hfin, htj⟩ := hF
  have hat := xh_at (G := G) (X := X) hlt
  rw [hlay] at hat
  have hd := hty j hjN
  rw [htj] at hd
  refine va_put (fs := xh_f G.1 (X.1 a) fds) (v := .int v) (ty := .int) hz.1 hz.2.1 hz.2.2.2.2.1 hin t hty hnm hz.2.2.2.1 hz.2.2.2.2.2.1 hP (xh_dd hz.2.2.2.2.2.2.1 hz.2.2.2.2.2.2.2) hS a hat hc j hjN (hz.2.2.2.2.1 _ hlink) (fun _ h => h) hfin hd rfl rfl (by rw [xh_f_len]; exact (List.getElem?_eq_some_iff.mp hj).1) d (fun H1 locs1 hP1 hD1 hS1 => ?_)
  rw [xh_f_set hj, xh_set hlt (X' := xh_i X a j v) (by rw [hlay]; show Sum.inr _ = _; rw [show (xh_i X a j v).1 a = upd (X.1 a) j v from va_up_self _ _ _]) (xh_same_i X a j v)] at hP1
  exact kk _ r X' hk H1 locs1 la hP1 hS1 hL

theorem jr_iald (hz : xh_C p s m args c cc nL own D G A) {a n : Nat} {i : Int32} {K : Option (ρ × xh_T)} (hlt : a < sp_n) (hlay : sp_lay a = .inl (0, n)) (d : decode cc pc = .ok (.iaload, 1)) (kk : xh_J p l e R s m args below meth c cells slots D G A nL QQ (pc + 1) ls (.int (X.1 a i.toNatClampNeg) :: st) X K) : xh_J p l e R s m args below meth c cells slots D G A nL QQ pc ls (.int i :: .ref (G.1 a) :: st) X (xh_o i n K) := fun r X' hk H locs la hP hS hL => by
  obtain ⟨hi, hk⟩ := xh_o_in hk
  have hat := xh_at (G := G) (X := X) hlt
  rw [hlay] at hat
  exact va_iald hz.1 hz.2.1 hz.2.2.2.2.2.1 hP a 0 hat rfl hi d (kk r X' hk H locs la hP hS hL)
theorem jr_zald (hz : xh_C p s m args c cc nL own D G A) {a n : Nat} {i : Int32} {K : Option (ρ × xh_T)} (hlt : a < sp_n) (hlay : sp_lay a = .inl (1, n)) (d : decode cc pc = .ok (.baload, 1)) (kk : xh_J p l e R s m args below meth c cells slots D G A nL QQ (pc + 1) ls (.int (X.1 a i.toNatClampNeg) :: st) X K) : xh_J p l e R s m args below meth c cells slots D G A nL QQ pc ls (.int i :: .ref (G.1 a) :: st) X (xh_o i n K) := fun r X' hk H locs la hP hS hL => by
  obtain ⟨hi, hk⟩ := xh_o_in hk
  have hat := xh_at (G := G) (X := X) hlt
  rw [hlay] at hat
  exact va_zald hz.1 hz.2.1 hz.2.2.2.2.2.1 hP a 1 hat rfl hi d (kk r X' hk H locs la hP hS hL)
theorem jr_lald (hz : xh_C p s m args c cc nL own D G A) {a n : Nat} {i : Int32} {K : Option (ρ × xh_T)} (hlt : a < sp_n) (hlay : sp_lay a = .inl (2, n)) (d : decode cc pc = .ok (.laload, 1)) (kk : xh_J p l e R s m args below meth c cells slots D G A nL QQ (pc + 1) ls (.long (X.2.2 a i.toNatClampNeg) :: st) X K) : xh_J p l e R s m args below meth c cells slots D G A nL QQ pc ls (.int i :: .ref (G.1 a) :: st) X (xh_o i n K) := fun r X' hk H locs la hP hS hL => by
  obtain ⟨hi, hk⟩ := xh_o_in hk
  have hat := xh_at (G := G) (X := X) hlt
  rw [hlay] at hat
  exact va_lald hz.1 hz.2.1 hz.2.2.2.2.2.1 hP a 2 hat rfl hi d (kk r X' hk H locs la hP hS hL)
theorem jr_aald (hz : xh_C p s m args c cc nL own D G A) {a n : Nat} {i : Int32} {K : Option (ρ × xh_T)} (hlt : a < sp_n) (hlay : sp_lay a = .inl (3, n)) (d : decode cc pc = .ok (.aaload, 1)) (kk : xh_J p l e R s m args below meth c cells slots D G A nL QQ (pc + 1) ls (.ref (G.1 (X.2.1 a i.toNatClampNeg)) :: st) X K) : xh_J p l e R s m args below meth c cells slots D G A nL QQ pc ls (.int i :: .ref (G.1 a) :: st) X (xh_o i n K) := fun r X' hk H locs la hP hS hL => by
  obtain ⟨hi, hk⟩ := xh_o_in hk
  have hat := xh_at (G := G) (X := X) hlt
  rw [hlay] at hat
  exact va_aldq hz.1 hz.2.1 hz.2.2.2.2.2.1 hP a 3 hat rfl hi d (kk r X' hk H locs la hP hS hL)
theorem jr_iast (hz : xh_C p s m args c cc nL own D G A) {a n : Nat} {i : Int32} {v : Int32} {K : xh_T → Option (ρ × xh_T)} (hlt : a < sp_n) (hlay : sp_lay a = .inl (0, n)) (d : decode cc pc = .ok (.iastore, 1)) (kk : ∀ X1, xh_J p l e R s m args below meth c cells slots D G A nL QQ (pc + 1) ls st X1 (K X1)) : xh_J p l e R s m args below meth c cells slots D G A nL QQ pc ls (.int v :: .int i :: .ref (G.1 a) :: st) X (xh_o i n (xh_n (xh_i X a i.toNatClampNeg v) K)) := fun r X' hk H locs la hP hS hL => by
  obtain ⟨hi, hk⟩ := xh_o_in hk
  have hat := xh_at (G := G) (X := X) hlt
  rw [hlay] at hat
  refine va_iast hz.1 hz.2.1 hz.2.2.2.2.2.1 hP (xh_dd hz.2.2.2.2.2.2.1 hz.2.2.2.2.2.2.2) hS a 0 hat rfl hi d (fun H1 locs1 hP1 hD1 hS1 => ?_)
  rw [xh_set hlt (X' := xh_i X a i.toNatClampNeg v) (by rw [hlay]; show Sum.inl _ = _; rw [show (xh_i X a i.toNatClampNeg v).1 a = upd (X.1 a) i.toNatClampNeg v from va_up_self _ _ _]) (xh_same_i X a _ _)] at hP1
  exact kk _ r X' hk H1 locs1 la hP1 hS1 hL
theorem jr_zast (hz : xh_C p s m args c cc nL own D G A) {a n : Nat} {i : Int32} {v : Int32} {K : xh_T → Option (ρ × xh_T)} (hlt : a < sp_n) (hlay : sp_lay a = .inl (1, n)) (d : decode cc pc = .ok (.bastore, 1)) (kk : ∀ X1, xh_J p l e R s m args below meth c cells slots D G A nL QQ (pc + 1) ls st X1 (K X1)) : xh_J p l e R s m args below meth c cells slots D G A nL QQ pc ls (.int v :: .int i :: .ref (G.1 a) :: st) X (xh_o i n (xh_n (xh_i X a i.toNatClampNeg (vp_nar .boolean v)) K)) := fun r X' hk H locs la hP hS hL => by
  obtain ⟨hi, hk⟩ := xh_o_in hk
  have hat := xh_at (G := G) (X := X) hlt
  rw [hlay] at hat
  refine va_zast hz.1 hz.2.1 hz.2.2.2.2.2.1 hP (xh_dd hz.2.2.2.2.2.2.1 hz.2.2.2.2.2.2.2) hS a 1 hat rfl hi d (fun H1 locs1 hP1 hD1 hS1 => ?_)
  rw [xh_set hlt (X' := xh_i X a i.toNatClampNeg (vp_nar .boolean v)) (by rw [hlay]; show Sum.inl _ = _; rw [show (xh_i X a i.toNatClampNeg (vp_nar .boolean v)).1 a = upd (X.1 a) i.toNatClampNeg (vp_nar .boolean v) from va_up_self _ _ _]) (xh_same_i X a _ _)] at hP1
  exact kk _ r X' hk H1 locs1 la hP1 hS1 hL
theorem jr_last (hz : xh_C p s m args c cc nL own D G A) {a n : Nat} {i : Int32} {v : Int64} {K : xh_T → Option (ρ × xh_T)} (hlt : a < sp_n) (hlay : sp_lay a = .inl (2, n)) (d : decode cc pc = .ok (.lastore, 1)) (kk : ∀ X1, xh_J p l e R s m args below meth c cells slots D G A nL QQ (pc + 1) ls st X1 (K X1)) : xh_J p l e R s m args below meth c cells slots D G A nL QQ pc ls (.long v :: .int i :: .ref (G.1 a) :: st) X (xh_o i n (xh_n (xh_l X a i.toNatClampNeg v) K)) := fun r X' hk H locs la hP hS hL => by
  obtain ⟨hi, hk⟩ := xh_o_in hk
  have hat := xh_at (G := G) (X := X) hlt
  rw [hlay] at hat
  refine va_last hz.1 hz.2.1 hz.2.2.2.2.2.1 hP (xh_dd hz.2.2.2.2.2.2.1 hz.2.2.2.2.2.2.2) hS a 2 hat rfl hi d (fun H1 locs1 hP1 hD1 hS1 => ?_)
  rw [xh_set hlt (X' := xh_l X a i.toNatClampNeg v) (by rw [hlay]; show Sum.inl _ = _; rw [show (xh_l X a i.toNatClampNeg v).2.2 a = vp_updL (X.2.2 a) i.toNatClampNeg v from va_up_self _ _ _]) (xh_same_l X a _ _)] at hP1
  exact kk _ r X' hk H1 locs1 la hP1 hS1 hL
theorem jr_aast (hz : xh_C p s m args c cc nL own D G A) {a n b : Nat} {i : Int32} {K : xh_T → Option (ρ × xh_T)} (hlt : a < sp_n) (hlay : sp_lay a = .inl (3, n)) (d : decode cc pc = .ok (.aastore, 1)) (kk : ∀ X1, xh_J p l e R s m args below meth c cells slots D G A nL QQ (pc + 1) ls st X1 (K X1)) : xh_J p l e R s m args below meth c cells slots D G A nL QQ pc ls (.ref (G.1 b) :: .int i :: .ref (G.1 a) :: st) X (xh_o i n (xh_k (sp_bs b) (xh_n (xh_r X a i.toNatClampNeg b) K))) := fun r X' hk H locs la hP hS hL => by
  obtain ⟨hi, hk⟩ := xh_o_in hk
  unfold xh_k at hk
  by_cases hb : sp_bs b = true
  · rw [if_pos hb] at hk
    have hat := xh_at (G := G) (X := X) hlt
    rw [hlay] at hat
    obtain ⟨hb1, hb2, -⟩ := sp_bs_of hb
    have hbt := xh_at (G := G) (X := X) (k := b) (by omega)
    rw [hb2] at hbt
    refine va_astq (r := sp_clBS) hz.1 hz.2.1 hz.2.2.2.2.2.1 hP (xh_dd hz.2.2.2.2.2.2.1 hz.2.2.2.2.2.2.2) hS a 3 b sp_ciBS hat rfl hbt rfl hi d (fun H1 locs1 hP1 hD1 hS1 => ?_)
    rw [xh_set hlt (X' := xh_r X a i.toNatClampNeg b) (by
      rw [hlay]; show Sum.inl _ = _
      rw [show (xh_r X a i.toNatClampNeg b).2.1 a = va_up (X.2.1 a) i.toNatClampNeg b from va_up_self _ _ _]
      have hfun : (fun j => some (G.1 (va_up (X.2.1 a) i.toNatClampNeg b j))) = va_up (fun j => some (G.1 (X.2.1 a j))) i.toNatClampNeg (some (G.1 b)) := by
        funext j
        by_cases hj : j = i.toNatClampNeg
        · subst hj; rw [va_up_self, va_up_self]
        · rw [va_up_ne _ _ hj, va_up_ne _ _ hj]
      rw [hfun]) (xh_same_r X a _ _)] at hP1
    exact kk _ r X' hk H1 locs1 la hP1 hS1 hL
  · rw [if_neg hb] at hk; cases hk
theorem jr_ileni (hz : xh_C p s m args c cc nL own D G A) {a n : Nat} (hlt : a < sp_n) (hlay : sp_lay a = .inl (0, n)) (d : decode cc pc = .ok (.arraylength, 1)) (kk : xh_J p l e R s m args below meth c cells slots D G A nL QQ (pc + 1) ls (.int (nI n) :: st) X k) : xh_J p l e R s m args below meth c cells slots D G A nL QQ pc ls (.ref (G.1 a) :: st) X k := fun r X' hk H locs la hP hS hL => by
  have hat := xh_at (G := G) (X := X) hlt
  rw [hlay] at hat
  exact va_alen hz.1 hz.2.1 hz.2.2.2.2.2.1 hP a 0 hat rfl rfl d (kk r X' hk H locs la hP hS hL)

end JR

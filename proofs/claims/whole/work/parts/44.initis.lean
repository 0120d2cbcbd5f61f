theorem d_IS_init_0 : decode b_IS_init 0 = .ok (.aload_n 0, 1) := by decide +kernel
theorem d_IS_init_1 : decode b_IS_init 1 = .ok (.invokespecial 3, 3) := by decide +kernel
theorem d_IS_init_4 : decode b_IS_init 4 = .ok (.aload_n 0, 1) := by decide +kernel
theorem d_IS_init_5 : decode b_IS_init 5 = .ok (.bipush 30, 2) := by decide +kernel
theorem d_IS_init_7 : decode b_IS_init 7 = .ok (.anewarray 9, 3) := by decide +kernel
theorem d_IS_init_10 : decode b_IS_init 10 = .ok (.putfield 11, 3) := by decide +kernel
theorem d_IS_init_13 : decode b_IS_init 13 = .ok (.iconst 0, 1) := by decide +kernel
theorem d_IS_init_14 : decode b_IS_init 14 = .ok (.istore_n 1, 1) := by decide +kernel
theorem d_IS_init_15 : decode b_IS_init 15 = .ok (.iload_n 1, 1) := by decide +kernel
theorem d_IS_init_16 : decode b_IS_init 16 = .ok (.bipush 30, 2) := by decide +kernel
theorem d_IS_init_18 : decode b_IS_init 18 = .ok (.if_icmp .ge 24, 3) := by decide +kernel
theorem d_IS_init_21 : decode b_IS_init 21 = .ok (.aload_n 0, 1) := by decide +kernel
theorem d_IS_init_22 : decode b_IS_init 22 = .ok (.getfield 11, 3) := by decide +kernel
theorem d_IS_init_25 : decode b_IS_init 25 = .ok (.iload_n 1, 1) := by decide +kernel
theorem d_IS_init_26 : decode b_IS_init 26 = .ok (.new 9, 3) := by decide +kernel
theorem d_IS_init_29 : decode b_IS_init 29 = .ok (.dup, 1) := by decide +kernel
theorem d_IS_init_30 : decode b_IS_init 30 = .ok (.bipush 32, 2) := by decide +kernel
theorem d_IS_init_32 : decode b_IS_init 32 = .ok (.invokespecial 17, 3) := by decide +kernel
theorem d_IS_init_35 : decode b_IS_init 35 = .ok (.aastore, 1) := by decide +kernel
theorem d_IS_init_36 : decode b_IS_init 36 = .ok (.iinc 1 1, 3) := by decide +kernel
theorem d_IS_init_39 : decode b_IS_init 39 = .ok (.goto (-24), 3) := by decide +kernel
theorem d_IS_init_42 : decode b_IS_init 42 = .ok (.aload_n 0, 1) := by decide +kernel
theorem d_IS_init_43 : decode b_IS_init 43 = .ok (.new 9, 3) := by decide +kernel
theorem d_IS_init_46 : decode b_IS_init 46 = .ok (.dup, 1) := by decide +kernel
theorem d_IS_init_47 : decode b_IS_init 47 = .ok (.iconst 0, 1) := by decide +kernel
theorem d_IS_init_48 : decode b_IS_init 48 = .ok (.invokespecial 17, 3) := by decide +kernel
theorem d_IS_init_51 : decode b_IS_init 51 = .ok (.putfield 20, 3) := by decide +kernel
theorem d_IS_init_54 : decode b_IS_init 54 = .ok (.aload_n 0, 1) := by decide +kernel
theorem d_IS_init_55 : decode b_IS_init 55 = .ok (.iconst 0, 1) := by decide +kernel
theorem d_IS_init_56 : decode b_IS_init 56 = .ok (.putfield 24, 3) := by decide +kernel
theorem d_IS_init_59 : decode b_IS_init 59 = .ok (.return_, 1) := by decide +kernel
theorem wc_IS_9 : Cond.classLink "SpendScript$ItemStack" 9 "SpendScript$ByteString" ∈ sp_ws := (sp_tb (List.mem_of_getElem? (i := 55) (by decide +kernel)))
theorem wi_BS : Cond.instantiable "SpendScript$ByteString" 2 ∈ sp_ws := (sp_tb (List.mem_of_getElem? (i := 20) (by decide +kernel)))
theorem wn_BS : Cond.initialized "SpendScript$ByteString" ∈ sp_ws := (sp_tb (List.mem_of_getElem? (i := 2) (by decide +kernel)))
theorem wz_BS : Cond.code y_BS_init b_BS_init 2 none ∈ sp_ws := (sp_tb (List.mem_of_getElem? (i := 23) (by decide +kernel)))
theorem wl_IS_17 : Cond.methodLink "SpendScript$ItemStack" 17 y_BS_init ∈ sp_ws := (sp_tb (List.mem_of_getElem? (i := 57) (by decide +kernel)))
theorem wj_BS : Cond.instanceMethod y_BS_init ∈ sp_ws := (sp_tb (List.mem_of_getElem? (i := 22) (by decide +kernel)))
theorem wg_IS_11 : Cond.fieldLink "SpendScript$ItemStack" 11 (F_IS 0).1 (F_IS 0).2.1 (F_IS 0).2.2.1 ∈ sp_ws := (sp_tb (List.mem_of_getElem? (i := 58) (by decide +kernel)))
theorem wg_IS_20 : Cond.fieldLink "SpendScript$ItemStack" 20 (F_IS 1).1 (F_IS 1).2.1 (F_IS 1).2.2.1 ∈ sp_ws := (sp_tb (List.mem_of_getElem? (i := 59) (by decide +kernel)))
theorem wg_IS_24 : Cond.fieldLink "SpendScript$ItemStack" 24 (F_IS 2).1 (F_IS 2).2.1 (F_IS 2).2.2.1 ∈ sp_ws := (sp_tb (List.mem_of_getElem? (i := 60) (by decide +kernel)))
theorem wo_IS_3 : Cond.methodLink "SpendScript$ItemStack" 3 objectInit ∈ sp_ws := (sp_tb (List.mem_of_getElem? (i := 54) (by decide +kernel)))
/-! ItemStack's constructor: a loop that makes thirty rows -/
theorem kc_isl {S : Nat} (hS : S = 10 ∨ S = 74 ∨ S = 139) : (∀ i, i < 31 → sp_lay (S + 2 + 2 * i) = .inr (0, [some (S + 2 + 2 * i + 1), none]) ∧ sp_lay (S + 2 + 2 * i + 1) = .inl (0, if i < 30 then 32 else 0)) ∧ sp_lay S = .inr (1, [some (S + 1), some (S + 62), none]) ∧ sp_lay (S + 1) = .inl (3, 30) := by
  have h1 : (List.range 31).all (fun i => decide (sp_lay (S + 2 + 2 * i) = .inr (0, [some (S + 2 + 2 * i + 1), none]) ∧ sp_lay (S + 2 + 2 * i + 1) = .inl (0, if i < 30 then 32 else 0))) = true := by
    rcases hS with rfl | rfl | rfl <;> decide +kernel
  refine ⟨fun i hi => of_decide_eq_true (List.all_eq_true.mp h1 i (List.mem_range.mpr hi)), ?_⟩
  rcases hS with rfl | rfl | rfl <;> decide +kernel
theorem kc_isk {S : Nat} (hS : S = 10 ∨ S = 74 ∨ S = 139) : (∀ i, i < 31 → kc_ok (S + 2) (2 * i) [] = true) ∧ (∀ i, i < 31 → kc_ok (S + 2 + 2 * i) 2 [] = true) := by
  rcases hS with rfl | rfl | rfl <;> exact ⟨by decide +kernel, by decide +kernel⟩
theorem kc_s_len {u : Nat → Nat} {g : kc_G} {X : xh_T} {lo n : Nat} : (kc_s u g X lo n).length = n := by simp [kc_s]
def kc_Q (below : List Frame) (D : va_G) (g : kc_G) (h0 S : Nat) (args : Array Value) (s : State) : State → Prop := MQ below (va_Qv (fun u => u S = h0) (kc_B D g [(h0, .inr (1, [.null, .null, .int 0]))] s.heap.size (fun u => kc_s u g kc_x S 64)) (va_A [(h0, .inr (1, [.null, .null, .int 0]))] s.heap.size)) args s 63 1052 (va_A [(h0, .inr (1, [.null, .null, .int 0]))] s.heap.size)
abbrev kc_rmI : Room := { frames := 2, cells := 63, slots := 1052, locals := 40 }
set_option maxRecDepth 100000 in
set_option maxHeartbeats 4000000 in
theorem kn_IS_end {p : Program} {l : Launch} {e : Env} {s : State} {m : MethodId} {args : Array Value} {below : List Frame} {meth : Method} {c : Code} {D : va_G} {g : kc_G} {S h0 qr : Nat} (hS : S = 10 ∨ S = 74 ∨ S = 139) (hz : kc_C p s m args c b_IS_init 2 "SpendScript$ItemStack" D g (va_A [(h0, .inr (1, [.null, .null, .int 0]))] s.heap.size)) (hr : meth.sig.returnType = none) (hlk : meth.locks = false) (hin : meth.name = "<init>") (u : Nat → Nat) (x : Int32) :
    kc_J p l e kc_rmI s m args below meth c (1 + 2 * 30) (30 + 34 * 30) D (va_A [(h0, .inr (1, [.null, .null, .int 0]))] s.heap.size) 2 (kc_Q below D g h0 S args s) 42 [(1, .int x), (0, .ref h0)] [] ((h0, .inr (1, [.ref qr, .null, .int 0])) :: (qr, .inl (g.2.2.2, 30, .inr (.inr (.inr (.inr (fun j => if j < 30 then some (u (S + 2 + 2 * j)) else none)))))) :: kc_s u g kc_x (S + 2) (2 * 30)) := by
  have hS9 : S ≠ 0 ∧ S + 62 ≠ 206 ∧ S + 62 + 1 ≠ 206 := by omega
  have hl1 := kc_isl hS
  have hq := hl1.1 30 (by omega)
  refine kr_aload_n hz d_IS_init_42 rfl 1 rfl ?_
  refine kr_new (C := "SpendScript$ByteString") (T := F_BS) (N := 2) (ci := 0) (fs := [.null, .int 0]) hz iw_BS t_BS tk_BS wc_IS_9 wi_BS wn_BS rfl kd_BS (by show 1 + 2 * 30 + 1 ≤ 63; omega) (by show 30 + 34 * 30 + 2 ≤ 1052; omega) d_IS_init_43 (fun q => ?_)
  refine kr_dup hz d_IS_init_46 rfl ?_
  refine kr_iconst (v := 0) hz d_IS_init_47 (by decide) ?_
  refine kr_ctor (As := [.int 0]) (st := [.ref q, .ref h0]) (wr := (h0, .inr (1, [.ref qr, .null, .int 0])) :: (qr, .inl (g.2.2.2, 30, .inr (.inr (.inr (.inr (fun j => if j < 30 then some (u (S + 2 + 2 * j)) else none)))))) :: kc_s u g kc_x (S + 2) (2 * 30)) (q := q) (e0 := .inr (0, [.null, .int 0])) hz (kn_BS l D g (S + 2 + 2 * 30) 0 0 q hq.1 hq.2 (by decide) (by decide) (by decide) (by omega)) wz_BS wn_BS wl_IS_17 ⟨by decide +kernel, by decide +kernel, by decide +kernel⟩ wj_BS rfl ⟨rfl, rfl, Nat.le_of_ble_eq_true rfl, Nat.le_of_ble_eq_true rfl⟩ ⟨by show 1 + 2 * 30 + 1 + 1 ≤ 63; omega, by show 30 + 34 * 30 + 2 + 0 ≤ 1052; omega⟩ rfl rfl (Nat.le_of_ble_eq_true rfl) d_IS_init_48 (fun u' hu' => ?_)
  refine kr_putF (ci := 1) (k := 1) (v := .ref q) (T := F_IS) (N := 3) (C := "SpendScript$ItemStack") (fs := [.ref qr, .null, .int 0]) (tl := (qr, .inl (g.2.2.2, 30, .inr (.inr (.inr (.inr (fun j => if j < 30 then some (u (S + 2 + 2 * j)) else none)))))) :: (kc_s u g kc_x (S + 2) (2 * 30) ++ kc_s u' g kc_x (S + 2 + 2 * 30) 2)) hz hin iw_IS t_IS tk_IS nk_IS rfl (by decide) wg_IS_20 rfl rfl rfl rfl (Nat.le_of_ble_eq_true rfl) d_IS_init_51 ?_
  refine kr_eq (ws' := (h0, .inr (1, [.ref qr, .ref q, .int 0])) :: (qr, .inl (g.2.2.2, 30, .inr (.inr (.inr (.inr (fun j => if j < 30 then some (u (S + 2 + 2 * j)) else none)))))) :: (kc_s u g kc_x (S + 2) (2 * 30) ++ kc_s u' g kc_x (S + 2 + 2 * 30) 2)) rfl ?_
  refine kr_aload_n hz d_IS_init_54 rfl 1 rfl ?_
  refine kr_iconst (v := 0) hz d_IS_init_55 (by decide) ?_
  refine kr_put (ci := 1) (k := 2) (v := .int 0) (T := F_IS) (N := 3) (C := "SpendScript$ItemStack") (fs := [.ref qr, .ref q, .int 0]) (tl := (qr, .inl (g.2.2.2, 30, .inr (.inr (.inr (.inr (fun j => if j < 30 then some (u (S + 2 + 2 * j)) else none)))))) :: (kc_s u g kc_x (S + 2) (2 * 30) ++ kc_s u' g kc_x (S + 2 + 2 * 30) 2)) hz iw_IS t_IS tk_IS nk_IS rfl (by decide) wg_IS_24 rfl rfl rfl (Nat.le_of_ble_eq_true rfl) d_IS_init_56 ?_
  refine kr_eq (ws' := (h0, .inr (1, [.ref qr, .ref q, .int 0])) :: (qr, .inl (g.2.2.2, 30, .inr (.inr (.inr (.inr (fun j => if j < 30 then some (u (S + 2 + 2 * j)) else none)))))) :: (kc_s u g kc_x (S + 2) (2 * 30) ++ kc_s u' g kc_x (S + 2 + 2 * 30) 2)) rfl ?_
  obtain ⟨w, hw⟩ : ∃ w : Nat → Nat, w = fun k => if k = S then h0 else if k = S + 1 then qr else if k < S + 62 then u k else u' k := ⟨_, rfl⟩
  have hw0 : w S = h0 := by rw [hw]; simp
  have hw1 : w (S + 1) = qr := by rw [hw]; simp
  have hwu : ∀ k, S + 2 ≤ k → k < S + 62 → u k = w k := fun k h1 h2 => by
    rw [hw]
    show u k = if k = S then h0 else if k = S + 1 then qr else if k < S + 62 then u k else u' k
    rw [if_neg (by omega), if_neg (by omega), if_pos h2]
  have hwv : ∀ k, S + 62 ≤ k → u' k = w k := fun k h1 => by
    rw [hw]
    show u' k = if k = S then h0 else if k = S + 1 then qr else if k < S + 62 then u k else u' k
    rw [if_neg (by omega), if_neg (by omega), if_neg (by omega)]
  refine kr_arr (f' := fun j => some (w (kc_x.2.1 (S + 1) j))) (fun j hj => ?_) ?_
  · show (if j < 30 then some (u (S + 2 + 2 * j)) else none) = some (w (S + 1 + 1 + 2 * (if j < 30 then j else 29)))
    rw [if_pos hj, if_pos hj, hwu (S + 2 + 2 * j) (by omega) (by omega)]
  · refine kr_widen (a := 63) (b := 1052) (by omega) (by omega) ?_
    refine kr_vret (u := w) hz hr hlk hw0 ?_ d_IS_init_59
    rw [kc_cg (u := u) (u' := w) ((kc_isk hS).1 30 (by omega)) (fun t ht => by
      rcases ht with ht | ht
      · exact hwu t (by omega) (by omega)
      · cases ht), kc_cg (u := u') (u' := w) ((kc_isk hS).2 30 (by omega)) (fun t ht => by
      rcases ht with ht | ht
      · exact hwv t (by omega)
      · cases ht), kc_s_app]
    rw [show (64 : Nat) = 2 + (2 * 30 + 2) from rfl, ← kc_s_app, kc_s_2 hl1.2.1 hl1.2.2]
    show [(w S, (Sum.inr (1, [.ref (w (S + 1)), .ref (w (S + 62)), .int (kc_x.1 S 2)]) : va_E)), (w (S + 1), Sum.inl (g.2.2.2, 30, .inr (.inr (.inr (.inr (fun j => some (w (kc_x.2.1 (S + 1) j))))))))] ++ kc_s w g kc_x (S + 2) (2 * 30 + 2) = _
    rw [hw0, hw1, ← hwv (S + 62) (by omega), kc_xa (k := S) (by omega) (by omega), show u' (S + 62) = q from hu']
    rfl
set_option maxRecDepth 100000 in
set_option maxHeartbeats 4000000 in
theorem kn_IS_loop {p : Program} {l : Launch} {e : Env} {s : State} {m : MethodId} {args : Array Value} {below : List Frame} {meth : Method} {c : Code} {D : va_G} {g : kc_G} {S h0 qr : Nat} (hS : S = 10 ∨ S = 74 ∨ S = 139) (hz : kc_C p s m args c b_IS_init 2 "SpendScript$ItemStack" D g (va_A [(h0, .inr (1, [.null, .null, .int 0]))] s.heap.size)) (hr : meth.sig.returnType = none) (hlk : meth.locks = false) (hin : meth.name = "<init>") : ∀ (n i : Nat) (u : Nat → Nat), i + n = 30 →
    kc_J p l e kc_rmI s m args below meth c (1 + 2 * i) (30 + 34 * i) D (va_A [(h0, .inr (1, [.null, .null, .int 0]))] s.heap.size) 2 (kc_Q below D g h0 S args s) 15 [(1, .int (nI i)), (0, .ref h0)] [] ((h0, .inr (1, [.ref qr, .null, .int 0])) :: (qr, .inl (g.2.2.2, 30, .inr (.inr (.inr (.inr (fun j => if j < i then some (u (S + 2 + 2 * j)) else none)))))) :: kc_s u g kc_x (S + 2) (2 * i)) := by
  intro n
  induction n with
  | zero =>
    intro i u hi
    obtain rfl : i = 30 := by omega
    refine kr_iload_n hz d_IS_init_15 rfl 0 rfl ?_
    refine kr_bipush (v := 30) hz d_IS_init_16 (by decide) ?_
    refine kr_icmp_ge (tgt := 42) hz d_IS_init_18 (by decide) (fun _ => ?_) (fun h => absurd (by decide) h)
    exact kn_IS_end hS hz hr hlk hin u (nI 30)
  | succ n ih =>
    intro i u hi
    have hi30 : i < 30 := by omega
    have hl1 := kc_isl hS
    have hq := hl1.1 i (by omega)
    rw [if_pos hi30] at hq
    refine kr_iload_n hz d_IS_init_15 rfl 0 rfl ?_
    refine kr_bipush (v := 30) hz d_IS_init_16 (by decide) ?_
    refine kr_icmp_ge (tgt := 42) hz d_IS_init_18 (by decide) (fun h => absurd h (nI_ge (b := 30) hi30 (by decide))) (fun _ => ?_)
    refine kr_aload_n hz d_IS_init_21 rfl 1 rfl ?_
    refine kr_get (ci := 1) (k := 0) (v := .ref qr) (T := F_IS) (N := 3) (C := "SpendScript$ItemStack") (fs := [.ref qr, .null, .int 0]) hz iw_IS rfl (by decide) wg_IS_11 rfl d_IS_init_22 ?_
    refine kr_iload_n hz d_IS_init_25 rfl 0 rfl ?_
    refine kr_new (C := "SpendScript$ByteString") (T := F_BS) (N := 2) (ci := 0) (fs := [.null, .int 0]) hz iw_BS t_BS tk_BS wc_IS_9 wi_BS wn_BS rfl kd_BS (by show 1 + 2 * i + 1 ≤ 63; omega) (by show 30 + 34 * i + 2 ≤ 1052; omega) d_IS_init_26 (fun q => ?_)
    refine kr_dup hz d_IS_init_29 rfl ?_
    refine kr_bipush (v := 32) hz d_IS_init_30 (by decide) ?_
    refine kr_ctor (As := [.int 32]) (st := [.ref q, .int (nI i), .ref qr]) (wr := (h0, .inr (1, [.ref qr, .null, .int 0])) :: (qr, .inl (g.2.2.2, 30, .inr (.inr (.inr (.inr (fun j => if j < i then some (u (S + 2 + 2 * j)) else none)))))) :: kc_s u g kc_x (S + 2) (2 * i)) (q := q) (e0 := .inr (0, [.null, .int 0])) hz (kn_BS l D g (S + 2 + 2 * i) 32 32 q hq.1 hq.2 (by decide) (by decide) (by decide) (by omega)) wz_BS wn_BS wl_IS_17 ⟨by decide +kernel, by decide +kernel, by decide +kernel⟩ wj_BS rfl ⟨rfl, rfl, Nat.le_of_ble_eq_true rfl, Nat.le_of_ble_eq_true rfl⟩ ⟨by show 1 + 2 * i + 1 + 1 ≤ 63; omega, by show 30 + 34 * i + 2 + 32 ≤ 1052; omega⟩ rfl rfl (Nat.le_of_ble_eq_true rfl) d_IS_init_32 (fun u' hu' => ?_)
    obtain ⟨w, hw⟩ : ∃ w : Nat → Nat, w = fun k => if k < S + 2 + 2 * i then u k else u' k := ⟨_, rfl⟩
    have hwu : ∀ k, k < S + 2 + 2 * i → u k = w k := fun k h1 => by
      rw [hw]
      show u k = if k < S + 2 + 2 * i then u k else u' k
      rw [if_pos h1]
    have hwv : ∀ k, S + 2 + 2 * i ≤ k → u' k = w k := fun k h1 => by
      rw [hw]
      show u' k = if k < S + 2 + 2 * i then u k else u' k
      rw [if_neg (by omega)]
    refine kr_eq (ws' := (h0, .inr (1, [.ref qr, .null, .int 0])) :: (qr, .inl (g.2.2.2, 30, .inr (.inr (.inr (.inr (fun j => if j < i then some (u (S + 2 + 2 * j)) else none)))))) :: kc_s w g kc_x (S + 2) (2 * (i + 1))) ?_ ?_
    · show _ :: _ :: (kc_s u g kc_x (S + 2) (2 * i) ++ kc_s u' g kc_x (S + 2 + 2 * i) 2) = _
      rw [kc_cg (u := u) (u' := w) ((kc_isk hS).1 i (by omega)) (fun t ht => by
        rcases ht with ht | ht
        · exact hwu t (by omega)
        · cases ht), kc_cg (u := u') (u' := w) ((kc_isk hS).2 i (by omega)) (fun t ht => by
        rcases ht with ht | ht
        · exact hwv t (by omega)
        · cases ht), kc_s_app]
      rfl
    refine kr_aast (qk := 2 * i) (vs := [.ref (w (S + 2 + 2 * i + 1)), .int (kc_x.1 (S + 2 + 2 * i) 1)]) hz ?_ (vp_in_nI hi30 (by decide)) d_IS_init_35 ?_
    · rw [show 2 * (i + 1) = 2 * i + 2 by omega, ← kc_s_app, List.getElem?_append_right (by rw [kc_s_len]; exact Nat.le_refl _), kc_s_len, Nat.sub_self, kc_s_2 hq.1 hq.2, ← hwv (S + 2 + 2 * i) (Nat.le_refl _), show u' (S + 2 + 2 * i) = q from hu']
      rfl
    refine kr_iinc (w := 1) (v := nI (i + 1)) (lf := [(0, .ref h0)]) hz d_IS_init_36 0 rfl (by decide) (nI_1 i) (by decide) rfl ?_
    refine kr_goto (tgt := 15) hz d_IS_init_39 (by decide) ?_
    refine kr_widen (a := 1 + 2 * (i + 1)) (b := 30 + 34 * (i + 1)) (by omega) (by omega) ?_
    refine kr_eq (ws' := (h0, .inr (1, [.ref qr, .null, .int 0])) :: (qr, .inl (g.2.2.2, 30, .inr (.inr (.inr (.inr (fun j => if j < i + 1 then some (w (S + 2 + 2 * j)) else none)))))) :: kc_s w g kc_x (S + 2) (2 * (i + 1))) ?_ (ih (i + 1) w (by omega))
    have hf : va_up (fun j => if j < i then some (u (S + 2 + 2 * j)) else none) (nI i).toNatClampNeg (some q) = (fun j => if j < i + 1 then some (w (S + 2 + 2 * j)) else none) := by
      rw [nI_clamp (by omega)]
      funext j
      by_cases hj : j = i
      · subst hj
        rw [va_up_self, if_pos (by omega), ← hwv (S + 2 + 2 * j) (Nat.le_refl _), show u' (S + 2 + 2 * j) = q from hu']
      · rw [va_up_ne _ _ hj]
        by_cases hj2 : j < i
        · rw [if_pos hj2, if_pos (by omega), hwu (S + 2 + 2 * j) (by omega)]
        · rw [if_neg hj2, if_neg (by omega)]
    rw [hf]
set_option maxRecDepth 100000 in
set_option maxHeartbeats 4000000 in
theorem kn_IS (l : Launch) (D : va_G) (g : kc_G) (S h0 : Nat) (hS : S = 10 ∨ S = 74 ∨ S = 139) : kc_M l D g y_IS_init b_IS_init 2 kc_rmI [.ref h0] [(h0, .inr (1, [.null, .null, .int 0]))] 63 1052 (fun u => u S = h0) (fun u => kc_s u g kc_x S 64) := by
  refine kc_enter (ls := [(0, .ref h0)]) (by decide +kernel) (Nat.le_of_ble_eq_true rfl) rfl ?_
  intro p e s m args below meth c hz hr hlk hin
  refine kr_aload_n hz d_IS_init_0 rfl 0 rfl ?_
  refine kr_objInit hz wo_IS_3 wa_oi wa_oc (Nat.le_of_ble_eq_true rfl) (Nat.le_of_ble_eq_true rfl) d_IS_init_1 ?_
  refine kr_aload_n hz d_IS_init_4 rfl 0 rfl ?_
  refine kr_bipush (v := 30) hz d_IS_init_5 (by decide) ?_
  refine kr_newq (N' := 30) hz wc_IS_9 (by decide) (by decide) (by decide) (by show 0 + 1 ≤ 63; omega) (by show 0 + 30 ≤ 1052; omega) d_IS_init_7 (fun qr => ?_)
  refine kr_putF (ci := 1) (k := 0) (v := .ref qr) (T := F_IS) (N := 3) (C := "SpendScript$ItemStack") (fs := [.null, .null, .int 0]) (tl := [(qr, .inl (g.2.2.2, 30, .inr (.inr (.inr (.inr (fun _ => none))))))]) hz hin iw_IS t_IS tk_IS nk_IS rfl (by decide) wg_IS_11 rfl rfl rfl rfl (Nat.le_of_ble_eq_true rfl) d_IS_init_10 ?_
  refine kr_iconst (v := 0) hz d_IS_init_13 (by decide) ?_
  refine kr_istore_n (lf := [(0, .ref h0)]) hz d_IS_init_14 rfl (by decide) rfl ?_
  exact kn_IS_loop hS hz hr hlk hin 30 0 (fun k => k) (by omega)


/-! printed by wip/whole/gen_walks.py -/
theorem d_MD_hash_0 : decode b_MD_hash 0 = .ok (.bipush 17, 2) := by decide +kernel
theorem d_MD_hash_2 : decode b_MD_hash 2 = .ok (.istore_n 2, 1) := by decide +kernel
theorem d_MD_hash_3 : decode b_MD_hash 3 = .ok (.iconst 0, 1) := by decide +kernel
theorem d_MD_hash_4 : decode b_MD_hash 4 = .ok (.istore_n 3, 1) := by decide +kernel
theorem d_MD_hash_5 : decode b_MD_hash 5 = .ok (.iload_n 3, 1) := by decide +kernel
theorem d_MD_hash_6 : decode b_MD_hash 6 = .ok (.aload_n 0, 1) := by decide +kernel
theorem d_MD_hash_7 : decode b_MD_hash 7 = .ok (.iload_n 1, 1) := by decide +kernel
theorem d_MD_hash_8 : decode b_MD_hash 8 = .ok (.invokevirtual 63, 3) := by decide +kernel
theorem d_MD_hash_11 : decode b_MD_hash 11 = .ok (.if_icmp .ge 21, 3) := by decide +kernel
theorem d_MD_hash_14 : decode b_MD_hash 14 = .ok (.iload_n 2, 1) := by decide +kernel
theorem d_MD_hash_15 : decode b_MD_hash 15 = .ok (.bipush 31, 2) := by decide +kernel
theorem d_MD_hash_17 : decode b_MD_hash 17 = .ok (.imul, 1) := by decide +kernel
theorem d_MD_hash_18 : decode b_MD_hash 18 = .ok (.aload_n 0, 1) := by decide +kernel
theorem d_MD_hash_19 : decode b_MD_hash 19 = .ok (.iload_n 1, 1) := by decide +kernel
theorem d_MD_hash_20 : decode b_MD_hash 20 = .ok (.iload_n 3, 1) := by decide +kernel
theorem d_MD_hash_21 : decode b_MD_hash 21 = .ok (.invokevirtual 66, 3) := by decide +kernel
theorem d_MD_hash_24 : decode b_MD_hash 24 = .ok (.iadd, 1) := by decide +kernel
theorem d_MD_hash_25 : decode b_MD_hash 25 = .ok (.istore_n 2, 1) := by decide +kernel
theorem d_MD_hash_26 : decode b_MD_hash 26 = .ok (.iinc 3 1, 3) := by decide +kernel
theorem d_MD_hash_29 : decode b_MD_hash 29 = .ok (.goto (-24), 3) := by decide +kernel
theorem d_MD_hash_32 : decode b_MD_hash 32 = .ok (.iload_n 2, 1) := by decide +kernel
theorem d_MD_hash_33 : decode b_MD_hash 33 = .ok (.ireturn, 1) := by decide +kernel
abbrev rm_MD_hash : Room := { frames := 2, cells := 0, slots := 0, locals := 43 }
def fx_MD_hash_b5 : Nat → Int32 → Int32 → Int32 → xh_T → Option (Int32 × xh_T)
  | 0, _, _, _, _ => none
  | n + 1, a1, a2, a3, X => xh_b (fx_MD_size a1 X) (fun (r3 : Int32) (X1 : xh_T) =>
  if r3 ≤ a3 then
  some (a2, X1)
  else xh_b (fx_MD_at a1 a3 X1) (fun (r7 : Int32) (X2 : xh_T) =>
  xh_n ((a2 * 31) + r7) (fun v11 : Int32 =>
  xh_n (a3 + 1) (fun v12 : Int32 =>
  fx_MD_hash_b5 n a1 v11 v12 X2))))
set_option maxRecDepth 100000 in
set_option maxHeartbeats 4000000 in
theorem jb_MD_hash_b5 {p : Program} {l : Launch} {e : Env} {s : State} {m : MethodId} {args : Array Value} {below : List Frame} {meth : Method} {c : Code} {D : va_G} {G : xh_G} (hz : xh_C p s m args c b_MD_hash 4 "SpendScriptModel" D G (xh_A G s.heap.size)) (hr : meth.sig.returnType = (some .int)) (hlk : meth.locks = false) : ∀ (n : Nat) (a1 : Int32) (a2 : Int32) (a3 : Int32) (X : xh_T), xh_J p l e rm_MD_hash s m args below meth c 0 0 D G (xh_A G s.heap.size) 4 (fun r X' => MQ below (xh_Qi D G (xh_A G s.heap.size) r X') args s 0 0 (xh_A G s.heap.size)) 5 [(0, .ref (G.1 206)), (1, .int a1), (2, .int a2), (3, .int a3)] [] X (fx_MD_hash_b5 n a1 a2 a3 X) := by
  intro n
  induction n with
  | zero => intro a1 a2 a3 X; exact jr_none
  | succ n ih =>
    intro a1 a2 a3 X
    rw [fx_MD_hash_b5]
    refine jr_iload_n hz d_MD_hash_5 rfl 3 rfl ?_
    refine jr_aload_n hz d_MD_hash_6 rfl 0 rfl ?_
    refine jr_iload_n hz d_MD_hash_7 rfl 1 rfl ?_
    refine jr_callVi (As := [.int a1]) (a := 206) (ci := 7) (st := [.int a3]) hz (cx_MD_size l D G hz.2.2.2.2.2.2.1 a1 X) (fun _ _ => ⟨lq_206, _, ly_206⟩) wv_MD_63 ⟨rfl, rfl, Nat.le_of_ble_eq_true rfl, Nat.le_of_ble_eq_true rfl⟩ ⟨Nat.zero_le _, Nat.zero_le _⟩ rfl rfl (Nat.le_of_ble_eq_true rfl) d_MD_hash_8 (fun r3 X1 => ?_)
    refine jr_icmp_ge (tgt := 32) hz d_MD_hash_11 (by decide) ?_ ?_
    · refine jr_iload_n hz d_MD_hash_32 rfl 2 rfl ?_
      exact jr_iret hz hr hlk d_MD_hash_33
    · refine jr_iload_n hz d_MD_hash_14 rfl 2 rfl ?_
      refine jr_bipush (v := 31) hz d_MD_hash_15 (by decide) ?_
      refine jr_imul hz d_MD_hash_17 ?_
      refine jr_aload_n hz d_MD_hash_18 rfl 0 rfl ?_
      refine jr_iload_n hz d_MD_hash_19 rfl 1 rfl ?_
      refine jr_iload_n hz d_MD_hash_20 rfl 3 rfl ?_
      refine jr_callVi (As := [.int a1, .int a3]) (a := 206) (ci := 7) (st := [.int (a2 * 31)]) hz (cx_MD_at l D G hz.2.2.2.2.2.2.1 a1 a3 X1) (fun _ _ => ⟨lq_206, _, ly_206⟩) wv_MD_66 ⟨rfl, rfl, Nat.le_of_ble_eq_true rfl, Nat.le_of_ble_eq_true rfl⟩ ⟨Nat.zero_le _, Nat.zero_le _⟩ rfl rfl (Nat.le_of_ble_eq_true rfl) d_MD_hash_21 (fun r7 X2 => ?_)
      refine jr_iadd hz d_MD_hash_24 ?_
      refine jr_istore_n (lf := [(0, .ref (G.1 206)), (1, .int a1), (3, .int a3)]) hz d_MD_hash_25 rfl (by decide) rfl (fun v11 => ?_)
      refine jr_iinc (lf := [(2, .int v11), (0, .ref (G.1 206)), (1, .int a1)]) (w := 1) hz d_MD_hash_26 3 rfl (by decide) (by decide) rfl (fun v12 => ?_)
      refine jr_goto (tgt := 5) hz d_MD_hash_29 (by decide) ?_
      refine jr_sub (ls' := [(0, .ref (G.1 206)), (1, .int a1), (2, .int v11), (3, .int v12)]) [2, 3, 1, 0] rfl ?_
      exact ih a1 v11 v12 X2
def fx_MD_hash (p1 : Int32) (X : xh_T) : Option (Int32 × xh_T) :=
  xh_n 17 (fun v1 : Int32 =>
  xh_n 0 (fun v2 : Int32 =>
  fx_MD_hash_b5 sp_fuel p1 v1 v2 X))
set_option maxRecDepth 100000 in
set_option maxHeartbeats 4000000 in
theorem cx_MD_hash (l : Launch) (D : va_G) (G : xh_G) (hD : xh_D G) (p1 : Int32) (X : xh_T) : xh_M xh_Qi l D G y_MD_hash b_MD_hash 4 (some .int) rm_MD_hash [.ref (G.1 206), .int p1] X (fx_MD_hash p1 X) := by
  refine xh_enter (ls := [(0, .ref (G.1 206)), (1, .int p1)]) hD (by decide +kernel) (Nat.le_of_ble_eq_true rfl) rfl ?_
  intro p e s m args below meth c hz hr hlk
  unfold fx_MD_hash
  refine jr_bipush (v := 17) hz d_MD_hash_0 (by decide) ?_
  refine jr_istore_n (lf := [(0, .ref (G.1 206)), (1, .int p1)]) hz d_MD_hash_2 rfl (by decide) rfl (fun v1 => ?_)
  refine jr_iconst (v := 0) hz d_MD_hash_3 (by decide) ?_
  refine jr_istore_n (lf := [(2, .int v1), (0, .ref (G.1 206)), (1, .int p1)]) hz d_MD_hash_4 rfl (by decide) rfl (fun v2 => ?_)
  refine jr_sub (ls' := [(0, .ref (G.1 206)), (1, .int p1), (2, .int v1), (3, .int v2)]) [2, 3, 1, 0] rfl ?_
  exact jb_MD_hash_b5 hz hr hlk sp_fuel p1 v1 v2 X
theorem d_MD_copy_0 : decode b_MD_copy 0 = .ok (.iconst 0, 1) := by decide +kernel
theorem d_MD_copy_1 : decode b_MD_copy 1 = .ok (.istore 4, 2) := by decide +kernel
theorem d_MD_copy_3 : decode b_MD_copy 3 = .ok (.iload 4, 2) := by decide +kernel
theorem d_MD_copy_5 : decode b_MD_copy 5 = .ok (.bipush 33, 2) := by decide +kernel
theorem d_MD_copy_7 : decode b_MD_copy 7 = .ok (.if_icmp .ge 21, 3) := by decide +kernel
theorem d_MD_copy_10 : decode b_MD_copy 10 = .ok (.aload_n 2, 1) := by decide +kernel
theorem d_MD_copy_11 : decode b_MD_copy 11 = .ok (.iload_n 3, 1) := by decide +kernel
theorem d_MD_copy_12 : decode b_MD_copy 12 = .ok (.iload 4, 2) := by decide +kernel
theorem d_MD_copy_14 : decode b_MD_copy 14 = .ok (.iadd, 1) := by decide +kernel
theorem d_MD_copy_15 : decode b_MD_copy 15 = .ok (.aload_n 0, 1) := by decide +kernel
theorem d_MD_copy_16 : decode b_MD_copy 16 = .ok (.iload_n 1, 1) := by decide +kernel
theorem d_MD_copy_17 : decode b_MD_copy 17 = .ok (.iload 4, 2) := by decide +kernel
theorem d_MD_copy_19 : decode b_MD_copy 19 = .ok (.iadd, 1) := by decide +kernel
theorem d_MD_copy_20 : decode b_MD_copy 20 = .ok (.iaload, 1) := by decide +kernel
theorem d_MD_copy_21 : decode b_MD_copy 21 = .ok (.iastore, 1) := by decide +kernel
theorem d_MD_copy_22 : decode b_MD_copy 22 = .ok (.iinc 4 1, 3) := by decide +kernel
theorem d_MD_copy_25 : decode b_MD_copy 25 = .ok (.goto (-22), 3) := by decide +kernel
theorem d_MD_copy_28 : decode b_MD_copy 28 = .ok (.return_, 1) := by decide +kernel
abbrev rm_MD_copy : Room := { frames := 0, cells := 0, slots := 0, locals := 0 }
def fx_MD_copy_b3 (o1 : Nat) (o3 : Nat) : Nat → Int32 → Int32 → Int32 → xh_T → Option (Unit × xh_T)
  | 0, _, _, _, _ => none
  | n + 1, a1, a3, a4, X => if 33 ≤ a4 then
  some ((), X)
  else xh_o (a1 + a4) (sp_len o1) (xh_o (a3 + a4) (sp_len o3) (xh_n (xh_i X o3 ((a3 + a4) : Int32).toNatClampNeg (X.1 o1 ((a1 + a4)).toNatClampNeg)) (fun X1 : xh_T =>
  xh_n (a4 + 1) (fun v2 : Int32 =>
  fx_MD_copy_b3 o1 o3 n a1 a3 v2 X1))))
set_option maxRecDepth 100000 in
set_option maxHeartbeats 4000000 in
theorem jb_MD_copy_b3 {p : Program} {l : Launch} {e : Env} {s : State} {m : MethodId} {args : Array Value} {below : List Frame} {meth : Method} {c : Code} {D : va_G} {G : xh_G} {o1 : Nat} {o3 : Nat} (hz : xh_C p s m args c b_MD_copy 5 "SpendScriptModel" D G (xh_A G s.heap.size)) (hr : meth.sig.returnType = none) (hlk : meth.locks = false) (ho1 : sp_ia o1 = true) (ho3 : sp_ia o3 = true) : ∀ (n : Nat) (a1 : Int32) (a3 : Int32) (a4 : Int32) (X : xh_T), xh_J p l e rm_MD_copy s m args below meth c 0 0 D G (xh_A G s.heap.size) 5 (fun r X' => MQ below (xh_Qv D G (xh_A G s.heap.size) r X') args s 0 0 (xh_A G s.heap.size)) 3 [(0, .ref (G.1 o1)), (1, .int a1), (2, .ref (G.1 o3)), (3, .int a3), (4, .int a4)] [] X (fx_MD_copy_b3 o1 o3 n a1 a3 a4 X) := by
  intro n
  induction n with
  | zero => intro a1 a3 a4 X; exact jr_none
  | succ n ih =>
    intro a1 a3 a4 X
    rw [fx_MD_copy_b3]
    refine jr_iload hz d_MD_copy_3 4 rfl ?_
    refine jr_bipush (v := 33) hz d_MD_copy_5 (by decide) ?_
    refine jr_icmp_ge (tgt := 28) hz d_MD_copy_7 (by decide) ?_ ?_
    · exact jr_vret hz hr hlk d_MD_copy_28
    · refine jr_aload_n hz d_MD_copy_10 rfl 2 rfl ?_
      refine jr_iload_n hz d_MD_copy_11 rfl 3 rfl ?_
      refine jr_iload hz d_MD_copy_12 4 rfl ?_
      refine jr_iadd hz d_MD_copy_14 ?_
      refine jr_aload_n hz d_MD_copy_15 rfl 0 rfl ?_
      refine jr_iload_n hz d_MD_copy_16 rfl 1 rfl ?_
      refine jr_iload hz d_MD_copy_17 4 rfl ?_
      refine jr_iadd hz d_MD_copy_19 ?_
      refine jr_iald (n := (sp_len o1)) hz (sp_ia_of ho1).1 (sp_ia_of ho1).2 d_MD_copy_20 ?_
      refine jr_iast (n := (sp_len o3)) hz (sp_ia_of ho3).1 (sp_ia_of ho3).2 d_MD_copy_21 (fun X1 => ?_)
      refine jr_iinc (lf := [(0, .ref (G.1 o1)), (1, .int a1), (2, .ref (G.1 o3)), (3, .int a3)]) (w := 1) hz d_MD_copy_22 4 rfl (by decide) (by decide) rfl (fun v2 => ?_)
      refine jr_goto (tgt := 3) hz d_MD_copy_25 (by decide) ?_
      refine jr_sub (ls' := [(0, .ref (G.1 o1)), (1, .int a1), (2, .ref (G.1 o3)), (3, .int a3), (4, .int v2)]) [1, 2, 3, 4, 0] rfl ?_
      exact ih a1 a3 v2 X1
def fx_MD_copy (o1 : Nat) (p2 : Int32) (o3 : Nat) (p4 : Int32) (X : xh_T) : Option (Unit × xh_T) :=
  xh_k (sp_ia o1) (
  xh_k (sp_ia o3) (
  xh_n 0 (fun v1 : Int32 =>
  fx_MD_copy_b3 o1 o3 sp_fuel p2 p4 v1 X)))
set_option maxRecDepth 100000 in
set_option maxHeartbeats 4000000 in
theorem cx_MD_copy (l : Launch) (D : va_G) (G : xh_G) (hD : xh_D G) (o1 : Nat) (p2 : Int32) (o3 : Nat) (p4 : Int32) (X : xh_T) : xh_M xh_Qv l D G y_MD_copy b_MD_copy 5 none rm_MD_copy [.ref (G.1 o1), .int p2, .ref (G.1 o3), .int p4] X (fx_MD_copy o1 p2 o3 p4 X) := by
  refine xh_enter (ls := [(0, .ref (G.1 o1)), (1, .int p2), (2, .ref (G.1 o3)), (3, .int p4)]) hD (by decide +kernel) (Nat.le_of_ble_eq_true rfl) rfl ?_
  intro p e s m args below meth c hz hr hlk
  unfold fx_MD_copy
  refine jr_k (fun ho1 => ?_)
  refine jr_k (fun ho3 => ?_)
  refine jr_iconst (v := 0) hz d_MD_copy_0 (by decide) ?_
  refine jr_istore (lf := [(0, .ref (G.1 o1)), (1, .int p2), (2, .ref (G.1 o3)), (3, .int p4)]) hz d_MD_copy_1 (by decide) rfl (fun v1 => ?_)
  refine jr_sub (ls' := [(0, .ref (G.1 o1)), (1, .int p2), (2, .ref (G.1 o3)), (3, .int p4), (4, .int v1)]) [1, 2, 3, 4, 0] rfl ?_
  exact jb_MD_copy_b3 hz hr hlk ho1 ho3 sp_fuel p2 p4 v1 X
theorem d_MD_again_0 : decode b_MD_again 0 = .ok (.aload_n 0, 1) := by decide +kernel
theorem d_MD_again_1 : decode b_MD_again 1 = .ok (.getfield 16, 3) := by decide +kernel
theorem d_MD_again_4 : decode b_MD_again 4 = .ok (.aload_n 0, 1) := by decide +kernel
theorem d_MD_again_5 : decode b_MD_again 5 = .ok (.iload_n 1, 1) := by decide +kernel
theorem d_MD_again_6 : decode b_MD_again 6 = .ok (.invokevirtual 59, 3) := by decide +kernel
theorem d_MD_again_9 : decode b_MD_again 9 = .ok (.aload_n 0, 1) := by decide +kernel
theorem d_MD_again_10 : decode b_MD_again 10 = .ok (.getfield 16, 3) := by decide +kernel
theorem d_MD_again_13 : decode b_MD_again 13 = .ok (.bipush 33, 2) := by decide +kernel
theorem d_MD_again_15 : decode b_MD_again 15 = .ok (.aload_n 0, 1) := by decide +kernel
theorem d_MD_again_16 : decode b_MD_again 16 = .ok (.getfield 56, 3) := by decide +kernel
theorem d_MD_again_19 : decode b_MD_again 19 = .ok (.imul, 1) := by decide +kernel
theorem d_MD_again_20 : decode b_MD_again 20 = .ok (.invokestatic 70, 3) := by decide +kernel
theorem d_MD_again_23 : decode b_MD_again 23 = .ok (.aload_n 0, 1) := by decide +kernel
theorem d_MD_again_24 : decode b_MD_again 24 = .ok (.aload_n 0, 1) := by decide +kernel
theorem d_MD_again_25 : decode b_MD_again 25 = .ok (.getfield 56, 3) := by decide +kernel
theorem d_MD_again_28 : decode b_MD_again 28 = .ok (.iconst 1, 1) := by decide +kernel
theorem d_MD_again_29 : decode b_MD_again 29 = .ok (.iadd, 1) := by decide +kernel
theorem d_MD_again_30 : decode b_MD_again 30 = .ok (.putfield 56, 3) := by decide +kernel
theorem d_MD_again_33 : decode b_MD_again 33 = .ok (.return_, 1) := by decide +kernel
theorem ws_MD_70 : xh_S "SpendScriptModel" 70 y_MD_copy b_MD_copy 5 none 4 := ⟨(sp_tb (List.mem_of_getElem? (i := 733) (by decide +kernel))), (sp_tb (List.mem_of_getElem? (i := 8) (by decide +kernel))), (sp_tb (List.mem_of_getElem? (i := 731) (by decide +kernel))), ⟨by decide +kernel, by decide +kernel, by decide +kernel⟩, (sp_tb (List.mem_of_getElem? (i := 732) (by decide +kernel)))⟩
theorem wp_MD_56 : xh_Fp "SpendScriptModel" 56 7 5 := ⟨R_MD, F_MD, 19, t_MD, rfl, by decide, iw_MD, (sp_tb (List.mem_of_getElem? (i := 542) (by decide +kernel))), tk_MD, nk_MD, rfl, rfl⟩
abbrev rm_MD_again : Room := { frames := 1, cells := 0, slots := 0, locals := 24 }
def fx_MD_again (p1 : Int32) (X : xh_T) : Option (Unit × xh_T) :=
  xh_b (fx_MD_row p1 X) (fun (r1 : Int32) (X1 : xh_T) =>
  xh_b (fx_MD_copy 209 r1 209 (33 * X1.1 206 5) X1) (fun (_ : Unit) (X2 : xh_T) =>
  xh_n (xh_i X2 206 5 (X2.1 206 5 + 1)) (fun X3 : xh_T =>
  some ((), X3))))
set_option maxRecDepth 100000 in
set_option maxHeartbeats 4000000 in
theorem cx_MD_again (l : Launch) (D : va_G) (G : xh_G) (hD : xh_D G) (p1 : Int32) (X : xh_T) : xh_M xh_Qv l D G y_MD_again b_MD_again 2 none rm_MD_again [.ref (G.1 206), .int p1] X (fx_MD_again p1 X) := by
  refine xh_enter (ls := [(0, .ref (G.1 206)), (1, .int p1)]) hD (by decide +kernel) (Nat.le_of_ble_eq_true rfl) rfl ?_
  intro p e s m args below meth c hz hr hlk
  unfold fx_MD_again
  refine jr_aload_n hz d_MD_again_0 rfl 0 rfl ?_
  refine jr_getr (j := 2) (t := 209) hz lq_206 ly_206 rfl wf_MD_16 d_MD_again_1 ?_
  refine jr_aload_n hz d_MD_again_4 rfl 0 rfl ?_
  refine jr_iload_n hz d_MD_again_5 rfl 1 rfl ?_
  refine jr_callVi (As := [.int p1]) (a := 206) (ci := 7) (st := [.ref (G.1 209)]) hz (cx_MD_row l D G hz.2.2.2.2.2.2.1 p1 X) (fun _ _ => ⟨lq_206, _, ly_206⟩) wv_MD_59 ⟨rfl, rfl, Nat.le_of_ble_eq_true rfl, Nat.le_of_ble_eq_true rfl⟩ ⟨Nat.zero_le _, Nat.zero_le _⟩ rfl rfl (Nat.le_of_ble_eq_true rfl) d_MD_again_6 (fun r1 X1 => ?_)
  refine jr_aload_n hz d_MD_again_9 rfl 0 rfl ?_
  refine jr_getr (j := 2) (t := 209) hz lq_206 ly_206 rfl wf_MD_16 d_MD_again_10 ?_
  refine jr_bipush (v := 33) hz d_MD_again_13 (by decide) ?_
  refine jr_aload_n hz d_MD_again_15 rfl 0 rfl ?_
  refine jr_geti (j := 5) hz lq_206 ly_206 rfl wf_MD_56 d_MD_again_16 ?_
  refine jr_imul hz d_MD_again_19 ?_
  refine jr_callSv (As := [.ref (G.1 209), .int r1, .ref (G.1 209), .int (33 * X1.1 206 5)]) (st := []) hz (cx_MD_copy l D G hz.2.2.2.2.2.2.1 209 r1 209 (33 * X1.1 206 5) X1) ws_MD_70 ⟨rfl, rfl, Nat.le_of_ble_eq_true rfl, Nat.le_of_ble_eq_true rfl⟩ ⟨Nat.zero_le _, Nat.zero_le _⟩ rfl rfl (Nat.le_of_ble_eq_true rfl) d_MD_again_20 (fun _ X2 => ?_)
  refine jr_aload_n hz d_MD_again_23 rfl 0 rfl ?_
  refine jr_aload_n hz d_MD_again_24 rfl 0 rfl ?_
  refine jr_geti (j := 5) hz lq_206 ly_206 rfl wf_MD_56 d_MD_again_25 ?_
  refine jr_iconst (v := 1) hz d_MD_again_28 (by decide) ?_
  refine jr_iadd hz d_MD_again_29 ?_
  refine jr_puti hz lq_206 ly_206 rfl wp_MD_56 d_MD_again_30 (fun X3 => ?_)
  exact jr_vret hz hr hlk d_MD_again_33
theorem d_MD_remove_0 : decode b_MD_remove 0 = .ok (.aload_n 0, 1) := by decide +kernel
theorem d_MD_remove_1 : decode b_MD_remove 1 = .ok (.getfield 56, 3) := by decide +kernel
theorem d_MD_remove_4 : decode b_MD_remove 4 = .ok (.iconst 1, 1) := by decide +kernel
theorem d_MD_remove_5 : decode b_MD_remove 5 = .ok (.isub, 1) := by decide +kernel
theorem d_MD_remove_6 : decode b_MD_remove 6 = .ok (.iload_n 1, 1) := by decide +kernel
theorem d_MD_remove_7 : decode b_MD_remove 7 = .ok (.isub, 1) := by decide +kernel
theorem d_MD_remove_8 : decode b_MD_remove 8 = .ok (.istore_n 2, 1) := by decide +kernel
theorem d_MD_remove_9 : decode b_MD_remove 9 = .ok (.iload_n 2, 1) := by decide +kernel
theorem d_MD_remove_10 : decode b_MD_remove 10 = .ok (.aload_n 0, 1) := by decide +kernel
theorem d_MD_remove_11 : decode b_MD_remove 11 = .ok (.getfield 56, 3) := by decide +kernel
theorem d_MD_remove_14 : decode b_MD_remove 14 = .ok (.iconst 1, 1) := by decide +kernel
theorem d_MD_remove_15 : decode b_MD_remove 15 = .ok (.isub, 1) := by decide +kernel
theorem d_MD_remove_16 : decode b_MD_remove 16 = .ok (.if_icmp .ge 31, 3) := by decide +kernel
theorem d_MD_remove_19 : decode b_MD_remove 19 = .ok (.aload_n 0, 1) := by decide +kernel
theorem d_MD_remove_20 : decode b_MD_remove 20 = .ok (.getfield 16, 3) := by decide +kernel
theorem d_MD_remove_23 : decode b_MD_remove 23 = .ok (.bipush 33, 2) := by decide +kernel
theorem d_MD_remove_25 : decode b_MD_remove 25 = .ok (.iload_n 2, 1) := by decide +kernel
theorem d_MD_remove_26 : decode b_MD_remove 26 = .ok (.imul, 1) := by decide +kernel
theorem d_MD_remove_27 : decode b_MD_remove 27 = .ok (.bipush 33, 2) := by decide +kernel
theorem d_MD_remove_29 : decode b_MD_remove 29 = .ok (.iadd, 1) := by decide +kernel
theorem d_MD_remove_30 : decode b_MD_remove 30 = .ok (.aload_n 0, 1) := by decide +kernel
theorem d_MD_remove_31 : decode b_MD_remove 31 = .ok (.getfield 16, 3) := by decide +kernel
theorem d_MD_remove_34 : decode b_MD_remove 34 = .ok (.bipush 33, 2) := by decide +kernel
theorem d_MD_remove_36 : decode b_MD_remove 36 = .ok (.iload_n 2, 1) := by decide +kernel
theorem d_MD_remove_37 : decode b_MD_remove 37 = .ok (.imul, 1) := by decide +kernel
theorem d_MD_remove_38 : decode b_MD_remove 38 = .ok (.invokestatic 70, 3) := by decide +kernel
theorem d_MD_remove_41 : decode b_MD_remove 41 = .ok (.iinc 2 1, 3) := by decide +kernel
theorem d_MD_remove_44 : decode b_MD_remove 44 = .ok (.goto (-35), 3) := by decide +kernel
theorem d_MD_remove_47 : decode b_MD_remove 47 = .ok (.aload_n 0, 1) := by decide +kernel
theorem d_MD_remove_48 : decode b_MD_remove 48 = .ok (.aload_n 0, 1) := by decide +kernel
theorem d_MD_remove_49 : decode b_MD_remove 49 = .ok (.getfield 56, 3) := by decide +kernel
theorem d_MD_remove_52 : decode b_MD_remove 52 = .ok (.iconst 1, 1) := by decide +kernel
theorem d_MD_remove_53 : decode b_MD_remove 53 = .ok (.isub, 1) := by decide +kernel
theorem d_MD_remove_54 : decode b_MD_remove 54 = .ok (.putfield 56, 3) := by decide +kernel
theorem d_MD_remove_57 : decode b_MD_remove 57 = .ok (.return_, 1) := by decide +kernel
abbrev rm_MD_remove : Room := { frames := 1, cells := 0, slots := 0, locals := 24 }
def fx_MD_remove_b9 : Nat → Int32 → xh_T → Option (Unit × xh_T)
  | 0, _, _ => none
  | n + 1, a2, X => if (X.1 206 5 - 1) ≤ a2 then
  xh_n (xh_i X 206 5 (X.1 206 5 - 1)) (fun X1 : xh_T =>
  some ((), X1))
  else xh_b (fx_MD_copy 209 ((33 * a2) + 33) 209 (33 * a2) X) (fun (_ : Unit) (X2 : xh_T) =>
  xh_n (a2 + 1) (fun v6 : Int32 =>
  fx_MD_remove_b9 n v6 X2))
set_option maxRecDepth 100000 in
set_option maxHeartbeats 4000000 in
theorem jb_MD_remove_b9 {p : Program} {l : Launch} {e : Env} {s : State} {m : MethodId} {args : Array Value} {below : List Frame} {meth : Method} {c : Code} {D : va_G} {G : xh_G} (hz : xh_C p s m args c b_MD_remove 3 "SpendScriptModel" D G (xh_A G s.heap.size)) (hr : meth.sig.returnType = none) (hlk : meth.locks = false) : ∀ (n : Nat) (a2 : Int32) (X : xh_T), xh_J p l e rm_MD_remove s m args below meth c 0 0 D G (xh_A G s.heap.size) 3 (fun r X' => MQ below (xh_Qv D G (xh_A G s.heap.size) r X') args s 0 0 (xh_A G s.heap.size)) 9 [(0, .ref (G.1 206)), (2, .int a2)] [] X (fx_MD_remove_b9 n a2 X) := by
  intro n
  induction n with
  | zero => intro a2 X; exact jr_none
  | succ n ih =>
    intro a2 X
    rw [fx_MD_remove_b9]
    refine jr_iload_n hz d_MD_remove_9 rfl 1 rfl ?_
    refine jr_aload_n hz d_MD_remove_10 rfl 0 rfl ?_
    refine jr_geti (j := 5) hz lq_206 ly_206 rfl wf_MD_56 d_MD_remove_11 ?_
    refine jr_iconst (v := 1) hz d_MD_remove_14 (by decide) ?_
    refine jr_isub hz d_MD_remove_15 ?_
    refine jr_icmp_ge (tgt := 47) hz d_MD_remove_16 (by decide) ?_ ?_
    · refine jr_aload_n hz d_MD_remove_47 rfl 0 rfl ?_
      refine jr_aload_n hz d_MD_remove_48 rfl 0 rfl ?_
      refine jr_geti (j := 5) hz lq_206 ly_206 rfl wf_MD_56 d_MD_remove_49 ?_
      refine jr_iconst (v := 1) hz d_MD_remove_52 (by decide) ?_
      refine jr_isub hz d_MD_remove_53 ?_
      refine jr_puti hz lq_206 ly_206 rfl wp_MD_56 d_MD_remove_54 (fun X1 => ?_)
      exact jr_vret hz hr hlk d_MD_remove_57
    · refine jr_aload_n hz d_MD_remove_19 rfl 0 rfl ?_
      refine jr_getr (j := 2) (t := 209) hz lq_206 ly_206 rfl wf_MD_16 d_MD_remove_20 ?_
      refine jr_bipush (v := 33) hz d_MD_remove_23 (by decide) ?_
      refine jr_iload_n hz d_MD_remove_25 rfl 1 rfl ?_
      refine jr_imul hz d_MD_remove_26 ?_
      refine jr_bipush (v := 33) hz d_MD_remove_27 (by decide) ?_
      refine jr_iadd hz d_MD_remove_29 ?_
      refine jr_aload_n hz d_MD_remove_30 rfl 0 rfl ?_
      refine jr_getr (j := 2) (t := 209) hz lq_206 ly_206 rfl wf_MD_16 d_MD_remove_31 ?_
      refine jr_bipush (v := 33) hz d_MD_remove_34 (by decide) ?_
      refine jr_iload_n hz d_MD_remove_36 rfl 1 rfl ?_
      refine jr_imul hz d_MD_remove_37 ?_
      refine jr_callSv (As := [.ref (G.1 209), .int ((33 * a2) + 33), .ref (G.1 209), .int (33 * a2)]) (st := []) hz (cx_MD_copy l D G hz.2.2.2.2.2.2.1 209 ((33 * a2) + 33) 209 (33 * a2) X) ws_MD_70 ⟨rfl, rfl, Nat.le_of_ble_eq_true rfl, Nat.le_of_ble_eq_true rfl⟩ ⟨Nat.zero_le _, Nat.zero_le _⟩ rfl rfl (Nat.le_of_ble_eq_true rfl) d_MD_remove_38 (fun _ X2 => ?_)
      refine jr_iinc (lf := [(0, .ref (G.1 206))]) (w := 1) hz d_MD_remove_41 1 rfl (by decide) (by decide) rfl (fun v6 => ?_)
      refine jr_goto (tgt := 9) hz d_MD_remove_44 (by decide) ?_
      refine jr_sub (ls' := [(0, .ref (G.1 206)), (2, .int v6)]) [1, 0] rfl ?_
      exact ih v6 X2
def fx_MD_remove (p1 : Int32) (X : xh_T) : Option (Unit × xh_T) :=
  xh_n ((X.1 206 5 - 1) - p1) (fun v1 : Int32 =>
  fx_MD_remove_b9 sp_fuel v1 X)
set_option maxRecDepth 100000 in
set_option maxHeartbeats 4000000 in
theorem cx_MD_remove (l : Launch) (D : va_G) (G : xh_G) (hD : xh_D G) (p1 : Int32) (X : xh_T) : xh_M xh_Qv l D G y_MD_remove b_MD_remove 3 none rm_MD_remove [.ref (G.1 206), .int p1] X (fx_MD_remove p1 X) := by
  refine xh_enter (ls := [(0, .ref (G.1 206)), (1, .int p1)]) hD (by decide +kernel) (Nat.le_of_ble_eq_true rfl) rfl ?_
  intro p e s m args below meth c hz hr hlk
  unfold fx_MD_remove
  refine jr_aload_n hz d_MD_remove_0 rfl 0 rfl ?_
  refine jr_geti (j := 5) hz lq_206 ly_206 rfl wf_MD_56 d_MD_remove_1 ?_
  refine jr_iconst (v := 1) hz d_MD_remove_4 (by decide) ?_
  refine jr_isub hz d_MD_remove_5 ?_
  refine jr_iload_n hz d_MD_remove_6 rfl 1 rfl ?_
  refine jr_isub hz d_MD_remove_7 ?_
  refine jr_istore_n (lf := [(0, .ref (G.1 206)), (1, .int p1)]) hz d_MD_remove_8 rfl (by decide) rfl (fun v1 => ?_)
  refine jr_sub (ls' := [(0, .ref (G.1 206)), (2, .int v1)]) [1, 0] rfl ?_
  exact jb_MD_remove_b9 hz hr hlk sp_fuel v1 X
theorem d_MD_pop_0 : decode b_MD_pop 0 = .ok (.aload_n 0, 1) := by decide +kernel
theorem d_MD_pop_1 : decode b_MD_pop 1 = .ok (.aload_n 0, 1) := by decide +kernel
theorem d_MD_pop_2 : decode b_MD_pop 2 = .ok (.getfield 56, 3) := by decide +kernel
theorem d_MD_pop_5 : decode b_MD_pop 5 = .ok (.iload_n 1, 1) := by decide +kernel
theorem d_MD_pop_6 : decode b_MD_pop 6 = .ok (.isub, 1) := by decide +kernel
theorem d_MD_pop_7 : decode b_MD_pop 7 = .ok (.putfield 56, 3) := by decide +kernel
theorem d_MD_pop_10 : decode b_MD_pop 10 = .ok (.return_, 1) := by decide +kernel
abbrev rm_MD_pop : Room := { frames := 0, cells := 0, slots := 0, locals := 0 }
def fx_MD_pop (p1 : Int32) (X : xh_T) : Option (Unit × xh_T) :=
  xh_n (xh_i X 206 5 (X.1 206 5 - p1)) (fun X1 : xh_T =>
  some ((), X1))
set_option maxRecDepth 100000 in
set_option maxHeartbeats 4000000 in
theorem cx_MD_pop (l : Launch) (D : va_G) (G : xh_G) (hD : xh_D G) (p1 : Int32) (X : xh_T) : xh_M xh_Qv l D G y_MD_pop b_MD_pop 2 none rm_MD_pop [.ref (G.1 206), .int p1] X (fx_MD_pop p1 X) := by
  refine xh_enter (ls := [(0, .ref (G.1 206)), (1, .int p1)]) hD (by decide +kernel) (Nat.le_of_ble_eq_true rfl) rfl ?_
  intro p e s m args below meth c hz hr hlk
  unfold fx_MD_pop
  refine jr_aload_n hz d_MD_pop_0 rfl 0 rfl ?_
  refine jr_aload_n hz d_MD_pop_1 rfl 0 rfl ?_
  refine jr_geti (j := 5) hz lq_206 ly_206 rfl wf_MD_56 d_MD_pop_2 ?_
  refine jr_iload_n hz d_MD_pop_5 rfl 1 rfl ?_
  refine jr_isub hz d_MD_pop_6 ?_
  refine jr_puti hz lq_206 ly_206 rfl wp_MD_56 d_MD_pop_7 (fun X1 => ?_)
  exact jr_vret hz hr hlk d_MD_pop_10
theorem d_MD_pushNumber_0 : decode b_MD_pushNumber 0 = .ok (.bipush 33, 2) := by decide +kernel
theorem d_MD_pushNumber_2 : decode b_MD_pushNumber 2 = .ok (.aload_n 0, 1) := by decide +kernel
theorem d_MD_pushNumber_3 : decode b_MD_pushNumber 3 = .ok (.getfield 56, 3) := by decide +kernel
theorem d_MD_pushNumber_6 : decode b_MD_pushNumber 6 = .ok (.imul, 1) := by decide +kernel
theorem d_MD_pushNumber_7 : decode b_MD_pushNumber 7 = .ok (.istore_n 3, 1) := by decide +kernel
theorem d_MD_pushNumber_8 : decode b_MD_pushNumber 8 = .ok (.aload_n 0, 1) := by decide +kernel
theorem d_MD_pushNumber_9 : decode b_MD_pushNumber 9 = .ok (.aload_n 0, 1) := by decide +kernel
theorem d_MD_pushNumber_10 : decode b_MD_pushNumber 10 = .ok (.getfield 56, 3) := by decide +kernel
theorem d_MD_pushNumber_13 : decode b_MD_pushNumber 13 = .ok (.iconst 1, 1) := by decide +kernel
theorem d_MD_pushNumber_14 : decode b_MD_pushNumber 14 = .ok (.iadd, 1) := by decide +kernel
theorem d_MD_pushNumber_15 : decode b_MD_pushNumber 15 = .ok (.putfield 56, 3) := by decide +kernel
theorem d_MD_pushNumber_18 : decode b_MD_pushNumber 18 = .ok (.lload_n 1, 1) := by decide +kernel
theorem d_MD_pushNumber_19 : decode b_MD_pushNumber 19 = .ok (.lconst 0, 1) := by decide +kernel
theorem d_MD_pushNumber_20 : decode b_MD_pushNumber 20 = .ok (.lcmp, 1) := by decide +kernel
theorem d_MD_pushNumber_21 : decode b_MD_pushNumber 21 = .ok (.ifCond .ge 8, 3) := by decide +kernel
theorem d_MD_pushNumber_24 : decode b_MD_pushNumber 24 = .ok (.lload_n 1, 1) := by decide +kernel
theorem d_MD_pushNumber_25 : decode b_MD_pushNumber 25 = .ok (.lneg, 1) := by decide +kernel
theorem d_MD_pushNumber_26 : decode b_MD_pushNumber 26 = .ok (.goto 4, 3) := by decide +kernel
theorem d_MD_pushNumber_29 : decode b_MD_pushNumber 29 = .ok (.lload_n 1, 1) := by decide +kernel
theorem d_MD_pushNumber_30 : decode b_MD_pushNumber 30 = .ok (.lstore 4, 2) := by decide +kernel
theorem d_MD_pushNumber_32 : decode b_MD_pushNumber 32 = .ok (.iconst 0, 1) := by decide +kernel
theorem d_MD_pushNumber_33 : decode b_MD_pushNumber 33 = .ok (.istore 6, 2) := by decide +kernel
theorem d_MD_pushNumber_35 : decode b_MD_pushNumber 35 = .ok (.iconst 0, 1) := by decide +kernel
theorem d_MD_pushNumber_36 : decode b_MD_pushNumber 36 = .ok (.istore 7, 2) := by decide +kernel
theorem d_MD_pushNumber_38 : decode b_MD_pushNumber 38 = .ok (.iload 7, 2) := by decide +kernel
theorem d_MD_pushNumber_40 : decode b_MD_pushNumber 40 = .ok (.iconst 5, 1) := by decide +kernel
theorem d_MD_pushNumber_41 : decode b_MD_pushNumber 41 = .ok (.if_icmp .ge 45, 3) := by decide +kernel
theorem d_MD_pushNumber_44 : decode b_MD_pushNumber 44 = .ok (.lload 4, 2) := by decide +kernel
theorem d_MD_pushNumber_46 : decode b_MD_pushNumber 46 = .ok (.lconst 0, 1) := by decide +kernel
theorem d_MD_pushNumber_47 : decode b_MD_pushNumber 47 = .ok (.lcmp, 1) := by decide +kernel
theorem d_MD_pushNumber_48 : decode b_MD_pushNumber 48 = .ok (.ifCond .le 32, 3) := by decide +kernel
theorem d_MD_pushNumber_51 : decode b_MD_pushNumber 51 = .ok (.iload 6, 2) := by decide +kernel
theorem d_MD_pushNumber_53 : decode b_MD_pushNumber 53 = .ok (.iconst 1, 1) := by decide +kernel
theorem d_MD_pushNumber_54 : decode b_MD_pushNumber 54 = .ok (.iadd, 1) := by decide +kernel
theorem d_MD_pushNumber_55 : decode b_MD_pushNumber 55 = .ok (.istore 6, 2) := by decide +kernel
theorem d_MD_pushNumber_57 : decode b_MD_pushNumber 57 = .ok (.aload_n 0, 1) := by decide +kernel
theorem d_MD_pushNumber_58 : decode b_MD_pushNumber 58 = .ok (.getfield 16, 3) := by decide +kernel
theorem d_MD_pushNumber_61 : decode b_MD_pushNumber 61 = .ok (.iload_n 3, 1) := by decide +kernel
theorem d_MD_pushNumber_62 : decode b_MD_pushNumber 62 = .ok (.iload 6, 2) := by decide +kernel
theorem d_MD_pushNumber_64 : decode b_MD_pushNumber 64 = .ok (.iadd, 1) := by decide +kernel
theorem d_MD_pushNumber_65 : decode b_MD_pushNumber 65 = .ok (.lload 4, 2) := by decide +kernel
theorem d_MD_pushNumber_67 : decode b_MD_pushNumber 67 = .ok (.ldc2_w 74, 3) := by decide +kernel
theorem d_MD_pushNumber_70 : decode b_MD_pushNumber 70 = .ok (.land, 1) := by decide +kernel
theorem d_MD_pushNumber_71 : decode b_MD_pushNumber 71 = .ok (.l2i, 1) := by decide +kernel
theorem d_MD_pushNumber_72 : decode b_MD_pushNumber 72 = .ok (.iastore, 1) := by decide +kernel
theorem d_MD_pushNumber_73 : decode b_MD_pushNumber 73 = .ok (.lload 4, 2) := by decide +kernel
theorem d_MD_pushNumber_75 : decode b_MD_pushNumber 75 = .ok (.bipush 8, 2) := by decide +kernel
theorem d_MD_pushNumber_77 : decode b_MD_pushNumber 77 = .ok (.lshr, 1) := by decide +kernel
theorem d_MD_pushNumber_78 : decode b_MD_pushNumber 78 = .ok (.lstore 4, 2) := by decide +kernel
theorem d_MD_pushNumber_80 : decode b_MD_pushNumber 80 = .ok (.iinc 7 1, 3) := by decide +kernel
theorem d_MD_pushNumber_83 : decode b_MD_pushNumber 83 = .ok (.goto (-45), 3) := by decide +kernel
theorem d_MD_pushNumber_86 : decode b_MD_pushNumber 86 = .ok (.iload 6, 2) := by decide +kernel
theorem d_MD_pushNumber_88 : decode b_MD_pushNumber 88 = .ok (.ifCond .le 33, 3) := by decide +kernel
theorem d_MD_pushNumber_91 : decode b_MD_pushNumber 91 = .ok (.aload_n 0, 1) := by decide +kernel
theorem d_MD_pushNumber_92 : decode b_MD_pushNumber 92 = .ok (.getfield 16, 3) := by decide +kernel
theorem d_MD_pushNumber_95 : decode b_MD_pushNumber 95 = .ok (.iload_n 3, 1) := by decide +kernel
theorem d_MD_pushNumber_96 : decode b_MD_pushNumber 96 = .ok (.iload 6, 2) := by decide +kernel
theorem d_MD_pushNumber_98 : decode b_MD_pushNumber 98 = .ok (.iadd, 1) := by decide +kernel
theorem d_MD_pushNumber_99 : decode b_MD_pushNumber 99 = .ok (.iaload, 1) := by decide +kernel
theorem d_MD_pushNumber_100 : decode b_MD_pushNumber 100 = .ok (.bipush 127, 2) := by decide +kernel
theorem d_MD_pushNumber_102 : decode b_MD_pushNumber 102 = .ok (.if_icmp .le 19, 3) := by decide +kernel
theorem d_MD_pushNumber_105 : decode b_MD_pushNumber 105 = .ok (.iload 6, 2) := by decide +kernel
theorem d_MD_pushNumber_107 : decode b_MD_pushNumber 107 = .ok (.iconst 1, 1) := by decide +kernel
theorem d_MD_pushNumber_108 : decode b_MD_pushNumber 108 = .ok (.iadd, 1) := by decide +kernel
theorem d_MD_pushNumber_109 : decode b_MD_pushNumber 109 = .ok (.istore 6, 2) := by decide +kernel
theorem d_MD_pushNumber_111 : decode b_MD_pushNumber 111 = .ok (.aload_n 0, 1) := by decide +kernel
theorem d_MD_pushNumber_112 : decode b_MD_pushNumber 112 = .ok (.getfield 16, 3) := by decide +kernel
theorem d_MD_pushNumber_115 : decode b_MD_pushNumber 115 = .ok (.iload_n 3, 1) := by decide +kernel
theorem d_MD_pushNumber_116 : decode b_MD_pushNumber 116 = .ok (.iload 6, 2) := by decide +kernel
theorem d_MD_pushNumber_118 : decode b_MD_pushNumber 118 = .ok (.iadd, 1) := by decide +kernel
theorem d_MD_pushNumber_119 : decode b_MD_pushNumber 119 = .ok (.iconst 0, 1) := by decide +kernel
theorem d_MD_pushNumber_120 : decode b_MD_pushNumber 120 = .ok (.iastore, 1) := by decide +kernel
theorem d_MD_pushNumber_121 : decode b_MD_pushNumber 121 = .ok (.lload_n 1, 1) := by decide +kernel
theorem d_MD_pushNumber_122 : decode b_MD_pushNumber 122 = .ok (.lconst 0, 1) := by decide +kernel
theorem d_MD_pushNumber_123 : decode b_MD_pushNumber 123 = .ok (.lcmp, 1) := by decide +kernel
theorem d_MD_pushNumber_124 : decode b_MD_pushNumber 124 = .ok (.ifCond .ge 25, 3) := by decide +kernel
theorem d_MD_pushNumber_127 : decode b_MD_pushNumber 127 = .ok (.aload_n 0, 1) := by decide +kernel
theorem d_MD_pushNumber_128 : decode b_MD_pushNumber 128 = .ok (.getfield 16, 3) := by decide +kernel
theorem d_MD_pushNumber_131 : decode b_MD_pushNumber 131 = .ok (.iload_n 3, 1) := by decide +kernel
theorem d_MD_pushNumber_132 : decode b_MD_pushNumber 132 = .ok (.iload 6, 2) := by decide +kernel
theorem d_MD_pushNumber_134 : decode b_MD_pushNumber 134 = .ok (.iadd, 1) := by decide +kernel
theorem d_MD_pushNumber_135 : decode b_MD_pushNumber 135 = .ok (.aload_n 0, 1) := by decide +kernel
theorem d_MD_pushNumber_136 : decode b_MD_pushNumber 136 = .ok (.getfield 16, 3) := by decide +kernel
theorem d_MD_pushNumber_139 : decode b_MD_pushNumber 139 = .ok (.iload_n 3, 1) := by decide +kernel
theorem d_MD_pushNumber_140 : decode b_MD_pushNumber 140 = .ok (.iload 6, 2) := by decide +kernel
theorem d_MD_pushNumber_142 : decode b_MD_pushNumber 142 = .ok (.iadd, 1) := by decide +kernel
theorem d_MD_pushNumber_143 : decode b_MD_pushNumber 143 = .ok (.iaload, 1) := by decide +kernel
theorem d_MD_pushNumber_144 : decode b_MD_pushNumber 144 = .ok (.sipush 128, 3) := by decide +kernel
theorem d_MD_pushNumber_147 : decode b_MD_pushNumber 147 = .ok (.iadd, 1) := by decide +kernel
theorem d_MD_pushNumber_148 : decode b_MD_pushNumber 148 = .ok (.iastore, 1) := by decide +kernel
theorem d_MD_pushNumber_149 : decode b_MD_pushNumber 149 = .ok (.aload_n 0, 1) := by decide +kernel
theorem d_MD_pushNumber_150 : decode b_MD_pushNumber 150 = .ok (.getfield 16, 3) := by decide +kernel
theorem d_MD_pushNumber_153 : decode b_MD_pushNumber 153 = .ok (.iload_n 3, 1) := by decide +kernel
theorem d_MD_pushNumber_154 : decode b_MD_pushNumber 154 = .ok (.iload 6, 2) := by decide +kernel
theorem d_MD_pushNumber_156 : decode b_MD_pushNumber 156 = .ok (.iastore, 1) := by decide +kernel
theorem d_MD_pushNumber_157 : decode b_MD_pushNumber 157 = .ok (.return_, 1) := by decide +kernel
theorem wk_MD_74 : Cond.constantLong "SpendScriptModel" 74 255 ∈ sp_ws := (sp_tb (List.mem_of_getElem? (i := 643) (by decide +kernel)))
abbrev rm_MD_pushNumber : Room := { frames := 0, cells := 0, slots := 0, locals := 0 }
def fx_MD_pushNumber_b149 (a3 : Int32) (a6 : Int32) (X : xh_T) : Option (Unit × xh_T) :=
  xh_o a3 1089 (xh_n (xh_i X 209 (a3 : Int32).toNatClampNeg a6) (fun X5 : xh_T =>
  some ((), X5)))
set_option maxRecDepth 100000 in
set_option maxHeartbeats 4000000 in
theorem jb_MD_pushNumber_b149 {p : Program} {l : Launch} {e : Env} {s : State} {m : MethodId} {args : Array Value} {below : List Frame} {meth : Method} {c : Code} {D : va_G} {G : xh_G} (hz : xh_C p s m args c b_MD_pushNumber 8 "SpendScriptModel" D G (xh_A G s.heap.size)) (hr : meth.sig.returnType = none) (hlk : meth.locks = false) (a3 : Int32) (a6 : Int32) (X : xh_T) : xh_J p l e rm_MD_pushNumber s m args below meth c 0 0 D G (xh_A G s.heap.size) 8 (fun r X' => MQ below (xh_Qv D G (xh_A G s.heap.size) r X') args s 0 0 (xh_A G s.heap.size)) 149 [(0, .ref (G.1 206)), (3, .int a3), (6, .int a6)] [] X (fx_MD_pushNumber_b149 a3 a6 X) := by
  unfold fx_MD_pushNumber_b149
  refine jr_aload_n hz d_MD_pushNumber_149 rfl 0 rfl ?_
  refine jr_getr (j := 2) (t := 209) hz lq_206 ly_206 rfl wf_MD_16 d_MD_pushNumber_150 ?_
  refine jr_iload_n hz d_MD_pushNumber_153 rfl 1 rfl ?_
  refine jr_iload hz d_MD_pushNumber_154 2 rfl ?_
  refine jr_iast (n := 1089) hz lq_209 ly_209 d_MD_pushNumber_156 (fun X5 => ?_)
  exact jr_vret hz hr hlk d_MD_pushNumber_157
def fx_MD_pushNumber_b121 (a1 : Int64) (a3 : Int32) (a6 : Int32) (X : xh_T) : Option (Unit × xh_T) :=
  if 0 ≤ (lg_cmp a1 0) then
  fx_MD_pushNumber_b149 a3 a6 X
  else xh_o (a3 + a6) 1089 (xh_o (a3 + a6) 1089 (xh_n (xh_i X 209 ((a3 + a6) : Int32).toNatClampNeg ((X.1 209 ((a3 + a6)).toNatClampNeg) + 128)) (fun X4 : xh_T =>
  fx_MD_pushNumber_b149 a3 a6 X4)))
set_option maxRecDepth 100000 in
set_option maxHeartbeats 4000000 in
theorem jb_MD_pushNumber_b121 {p : Program} {l : Launch} {e : Env} {s : State} {m : MethodId} {args : Array Value} {below : List Frame} {meth : Method} {c : Code} {D : va_G} {G : xh_G} (hz : xh_C p s m args c b_MD_pushNumber 8 "SpendScriptModel" D G (xh_A G s.heap.size)) (hr : meth.sig.returnType = none) (hlk : meth.locks = false) (a1 : Int64) (a3 : Int32) (a6 : Int32) (X : xh_T) : xh_J p l e rm_MD_pushNumber s m args below meth c 0 0 D G (xh_A G s.heap.size) 8 (fun r X' => MQ below (xh_Qv D G (xh_A G s.heap.size) r X') args s 0 0 (xh_A G s.heap.size)) 121 [(0, .ref (G.1 206)), (1, .long a1), (3, .int a3), (6, .int a6)] [] X (fx_MD_pushNumber_b121 a1 a3 a6 X) := by
  unfold fx_MD_pushNumber_b121
  refine jr_lload_n hz d_MD_pushNumber_121 rfl 1 rfl ?_
  refine jr_lconst (v := 0) hz d_MD_pushNumber_122 (by decide) ?_
  refine jr_lcmp hz d_MD_pushNumber_123 ?_
  refine jr_if_ge (tgt := 149) hz d_MD_pushNumber_124 (by decide) ?_ ?_
  · refine jr_sub (ls' := [(0, .ref (G.1 206)), (3, .int a3), (6, .int a6)]) [0, 2, 3] rfl ?_
    exact jb_MD_pushNumber_b149 hz hr hlk a3 a6 X
  · refine jr_aload_n hz d_MD_pushNumber_127 rfl 0 rfl ?_
    refine jr_getr (j := 2) (t := 209) hz lq_206 ly_206 rfl wf_MD_16 d_MD_pushNumber_128 ?_
    refine jr_iload_n hz d_MD_pushNumber_131 rfl 2 rfl ?_
    refine jr_iload hz d_MD_pushNumber_132 3 rfl ?_
    refine jr_iadd hz d_MD_pushNumber_134 ?_
    refine jr_aload_n hz d_MD_pushNumber_135 rfl 0 rfl ?_
    refine jr_getr (j := 2) (t := 209) hz lq_206 ly_206 rfl wf_MD_16 d_MD_pushNumber_136 ?_
    refine jr_iload_n hz d_MD_pushNumber_139 rfl 2 rfl ?_
    refine jr_iload hz d_MD_pushNumber_140 3 rfl ?_
    refine jr_iadd hz d_MD_pushNumber_142 ?_
    refine jr_iald (n := 1089) hz lq_209 ly_209 d_MD_pushNumber_143 ?_
    refine jr_sipush (v := 128) hz d_MD_pushNumber_144 (by decide) ?_
    refine jr_iadd hz d_MD_pushNumber_147 ?_
    refine jr_iast (n := 1089) hz lq_209 ly_209 d_MD_pushNumber_148 (fun X4 => ?_)
    refine jr_sub (ls' := [(0, .ref (G.1 206)), (3, .int a3), (6, .int a6)]) [0, 2, 3] rfl ?_
    exact jb_MD_pushNumber_b149 hz hr hlk a3 a6 X4
def fx_MD_pushNumber_b38 : Nat → Int64 → Int32 → Int64 → Int32 → Int32 → xh_T → Option (Unit × xh_T)
  | 0, _, _, _, _, _, _ => none
  | n + 1, a1, a3, a4, a6, a7, X => if 5 ≤ a7 then
  if a6 ≤ 0 then
  fx_MD_pushNumber_b121 a1 a3 a6 X
  else xh_o (a3 + a6) 1089 (if (X.1 209 ((a3 + a6)).toNatClampNeg) ≤ 127 then
  fx_MD_pushNumber_b121 a1 a3 a6 X
  else xh_n (a6 + 1) (fun v5 : Int32 =>
  xh_o (a3 + v5) 1089 (xh_n (xh_i X 209 ((a3 + v5) : Int32).toNatClampNeg 0) (fun X2 : xh_T =>
  fx_MD_pushNumber_b121 a1 a3 v5 X2))))
  else if (lg_cmp a4 0) ≤ 0 then
  xh_n (a7 + 1) (fun v6 : Int32 =>
  fx_MD_pushNumber_b38 n a1 a3 a4 a6 v6 X)
  else xh_n (a6 + 1) (fun v7 : Int32 =>
  xh_o (a3 + v7) 1089 (xh_n (xh_i X 209 ((a3 + v7) : Int32).toNatClampNeg (((a4 &&& 255) : Int64).toInt32)) (fun X3 : xh_T =>
  xh_n (a4 >>> ((8 : Int32).toInt64 &&& 63)) (fun v8 : Int64 =>
  xh_n (a7 + 1) (fun v9 : Int32 =>
  fx_MD_pushNumber_b38 n a1 a3 v8 v7 v9 X3)))))
set_option maxRecDepth 100000 in
set_option maxHeartbeats 4000000 in
theorem jb_MD_pushNumber_b38 {p : Program} {l : Launch} {e : Env} {s : State} {m : MethodId} {args : Array Value} {below : List Frame} {meth : Method} {c : Code} {D : va_G} {G : xh_G} (hz : xh_C p s m args c b_MD_pushNumber 8 "SpendScriptModel" D G (xh_A G s.heap.size)) (hr : meth.sig.returnType = none) (hlk : meth.locks = false) : ∀ (n : Nat) (a1 : Int64) (a3 : Int32) (a4 : Int64) (a6 : Int32) (a7 : Int32) (X : xh_T), xh_J p l e rm_MD_pushNumber s m args below meth c 0 0 D G (xh_A G s.heap.size) 8 (fun r X' => MQ below (xh_Qv D G (xh_A G s.heap.size) r X') args s 0 0 (xh_A G s.heap.size)) 38 [(0, .ref (G.1 206)), (1, .long a1), (3, .int a3), (4, .long a4), (6, .int a6), (7, .int a7)] [] X (fx_MD_pushNumber_b38 n a1 a3 a4 a6 a7 X) := by
  intro n
  induction n with
  | zero => intro a1 a3 a4 a6 a7 X; exact jr_none
  | succ n ih =>
    intro a1 a3 a4 a6 a7 X
    rw [fx_MD_pushNumber_b38]
    refine jr_iload hz d_MD_pushNumber_38 5 rfl ?_
    refine jr_iconst (v := 5) hz d_MD_pushNumber_40 (by decide) ?_
    refine jr_icmp_ge (tgt := 86) hz d_MD_pushNumber_41 (by decide) ?_ ?_
    · refine jr_iload hz d_MD_pushNumber_86 4 rfl ?_
      refine jr_if_le (tgt := 121) hz d_MD_pushNumber_88 (by decide) ?_ ?_
      · refine jr_sub (ls' := [(0, .ref (G.1 206)), (1, .long a1), (3, .int a3), (6, .int a6)]) [0, 1, 2, 4] rfl ?_
        exact jb_MD_pushNumber_b121 hz hr hlk a1 a3 a6 X
      · refine jr_aload_n hz d_MD_pushNumber_91 rfl 0 rfl ?_
        refine jr_getr (j := 2) (t := 209) hz lq_206 ly_206 rfl wf_MD_16 d_MD_pushNumber_92 ?_
        refine jr_iload_n hz d_MD_pushNumber_95 rfl 2 rfl ?_
        refine jr_iload hz d_MD_pushNumber_96 4 rfl ?_
        refine jr_iadd hz d_MD_pushNumber_98 ?_
        refine jr_iald (n := 1089) hz lq_209 ly_209 d_MD_pushNumber_99 ?_
        refine jr_bipush (v := 127) hz d_MD_pushNumber_100 (by decide) ?_
        refine jr_icmp_le (tgt := 121) hz d_MD_pushNumber_102 (by decide) ?_ ?_
        · refine jr_sub (ls' := [(0, .ref (G.1 206)), (1, .long a1), (3, .int a3), (6, .int a6)]) [0, 1, 2, 4] rfl ?_
          exact jb_MD_pushNumber_b121 hz hr hlk a1 a3 a6 X
        · refine jr_iload hz d_MD_pushNumber_105 4 rfl ?_
          refine jr_iconst (v := 1) hz d_MD_pushNumber_107 (by decide) ?_
          refine jr_iadd hz d_MD_pushNumber_108 ?_
          refine jr_istore (lf := [(0, .ref (G.1 206)), (1, .long a1), (3, .int a3), (4, .long a4), (7, .int a7)]) hz d_MD_pushNumber_109 (by decide) rfl (fun v5 => ?_)
          refine jr_aload_n hz d_MD_pushNumber_111 rfl 1 rfl ?_
          refine jr_getr (j := 2) (t := 209) hz lq_206 ly_206 rfl wf_MD_16 d_MD_pushNumber_112 ?_
          refine jr_iload_n hz d_MD_pushNumber_115 rfl 3 rfl ?_
          refine jr_iload hz d_MD_pushNumber_116 0 rfl ?_
          refine jr_iadd hz d_MD_pushNumber_118 ?_
          refine jr_iconst (v := 0) hz d_MD_pushNumber_119 (by decide) ?_
          refine jr_iast (n := 1089) hz lq_209 ly_209 d_MD_pushNumber_120 (fun X2 => ?_)
          refine jr_sub (ls' := [(0, .ref (G.1 206)), (1, .long a1), (3, .int a3), (6, .int v5)]) [1, 2, 3, 0] rfl ?_
          exact jb_MD_pushNumber_b121 hz hr hlk a1 a3 v5 X2
    · refine jr_lload hz d_MD_pushNumber_44 3 rfl ?_
      refine jr_lconst (v := 0) hz d_MD_pushNumber_46 (by decide) ?_
      refine jr_lcmp hz d_MD_pushNumber_47 ?_
      refine jr_if_le (tgt := 80) hz d_MD_pushNumber_48 (by decide) ?_ ?_
      · refine jr_iinc (lf := [(0, .ref (G.1 206)), (1, .long a1), (3, .int a3), (4, .long a4), (6, .int a6)]) (w := 1) hz d_MD_pushNumber_80 5 rfl (by decide) (by decide) rfl (fun v6 => ?_)
        refine jr_goto (tgt := 38) hz d_MD_pushNumber_83 (by decide) ?_
        refine jr_sub (ls' := [(0, .ref (G.1 206)), (1, .long a1), (3, .int a3), (4, .long a4), (6, .int a6), (7, .int v6)]) [1, 2, 3, 4, 5, 0] rfl ?_
        exact ih a1 a3 a4 a6 v6 X
      · refine jr_iload hz d_MD_pushNumber_51 4 rfl ?_
        refine jr_iconst (v := 1) hz d_MD_pushNumber_53 (by decide) ?_
        refine jr_iadd hz d_MD_pushNumber_54 ?_
        refine jr_istore (lf := [(0, .ref (G.1 206)), (1, .long a1), (3, .int a3), (4, .long a4), (7, .int a7)]) hz d_MD_pushNumber_55 (by decide) rfl (fun v7 => ?_)
        refine jr_aload_n hz d_MD_pushNumber_57 rfl 1 rfl ?_
        refine jr_getr (j := 2) (t := 209) hz lq_206 ly_206 rfl wf_MD_16 d_MD_pushNumber_58 ?_
        refine jr_iload_n hz d_MD_pushNumber_61 rfl 3 rfl ?_
        refine jr_iload hz d_MD_pushNumber_62 0 rfl ?_
        refine jr_iadd hz d_MD_pushNumber_64 ?_
        refine jr_lload hz d_MD_pushNumber_65 4 rfl ?_
        refine jr_ldc2 (v := 255) hz wk_MD_74 d_MD_pushNumber_67 ?_
        refine jr_land hz d_MD_pushNumber_70 ?_
        refine jr_l2i hz d_MD_pushNumber_71 ?_
        refine jr_iast (n := 1089) hz lq_209 ly_209 d_MD_pushNumber_72 (fun X3 => ?_)
        refine jr_lload hz d_MD_pushNumber_73 4 rfl ?_
        refine jr_bipush (v := 8) hz d_MD_pushNumber_75 (by decide) ?_
        refine jr_lshr hz d_MD_pushNumber_77 ?_
        refine jr_lstore (lf := [(6, .int v7), (0, .ref (G.1 206)), (1, .long a1), (3, .int a3), (7, .int a7)]) hz d_MD_pushNumber_78 (by decide) rfl (fun v8 => ?_)
        refine jr_iinc (lf := [(4, .long v8), (6, .int v7), (0, .ref (G.1 206)), (1, .long a1), (3, .int a3)]) (w := 1) hz d_MD_pushNumber_80 5 rfl (by decide) (by decide) rfl (fun v9 => ?_)
        refine jr_goto (tgt := 38) hz d_MD_pushNumber_83 (by decide) ?_
        refine jr_sub (ls' := [(0, .ref (G.1 206)), (1, .long a1), (3, .int a3), (4, .long v8), (6, .int v7), (7, .int v9)]) [3, 4, 5, 1, 2, 0] rfl ?_
        exact ih a1 a3 v8 v7 v9 X3
def fx_MD_pushNumber_b30 (a1 : Int64) (a3 : Int32) (s0 : Int64) (X : xh_T) : Option (Unit × xh_T) :=
  xh_n s0 (fun v2 : Int64 =>
  xh_n 0 (fun v3 : Int32 =>
  xh_n 0 (fun v4 : Int32 =>
  fx_MD_pushNumber_b38 sp_fuel a1 a3 v2 v3 v4 X)))
set_option maxRecDepth 100000 in
set_option maxHeartbeats 4000000 in
theorem jb_MD_pushNumber_b30 {p : Program} {l : Launch} {e : Env} {s : State} {m : MethodId} {args : Array Value} {below : List Frame} {meth : Method} {c : Code} {D : va_G} {G : xh_G} (hz : xh_C p s m args c b_MD_pushNumber 8 "SpendScriptModel" D G (xh_A G s.heap.size)) (hr : meth.sig.returnType = none) (hlk : meth.locks = false) (a1 : Int64) (a3 : Int32) (s0 : Int64) (X : xh_T) : xh_J p l e rm_MD_pushNumber s m args below meth c 0 0 D G (xh_A G s.heap.size) 8 (fun r X' => MQ below (xh_Qv D G (xh_A G s.heap.size) r X') args s 0 0 (xh_A G s.heap.size)) 30 [(0, .ref (G.1 206)), (1, .long a1), (3, .int a3)] [.long s0] X (fx_MD_pushNumber_b30 a1 a3 s0 X) := by
  unfold fx_MD_pushNumber_b30
  refine jr_lstore (lf := [(0, .ref (G.1 206)), (1, .long a1), (3, .int a3)]) hz d_MD_pushNumber_30 (by decide) rfl (fun v2 => ?_)
  refine jr_iconst (v := 0) hz d_MD_pushNumber_32 (by decide) ?_
  refine jr_istore (lf := [(4, .long v2), (0, .ref (G.1 206)), (1, .long a1), (3, .int a3)]) hz d_MD_pushNumber_33 (by decide) rfl (fun v3 => ?_)
  refine jr_iconst (v := 0) hz d_MD_pushNumber_35 (by decide) ?_
  refine jr_istore (lf := [(6, .int v3), (4, .long v2), (0, .ref (G.1 206)), (1, .long a1), (3, .int a3)]) hz d_MD_pushNumber_36 (by decide) rfl (fun v4 => ?_)
  refine jr_sub (ls' := [(0, .ref (G.1 206)), (1, .long a1), (3, .int a3), (4, .long v2), (6, .int v3), (7, .int v4)]) [3, 4, 5, 2, 1, 0] rfl ?_
  exact jb_MD_pushNumber_b38 hz hr hlk sp_fuel a1 a3 v2 v3 v4 X
def fx_MD_pushNumber (p1 : Int64) (X : xh_T) : Option (Unit × xh_T) :=
  xh_n (33 * X.1 206 5) (fun v1 : Int32 =>
  xh_n (xh_i X 206 5 (X.1 206 5 + 1)) (fun X1 : xh_T =>
  if 0 ≤ (lg_cmp p1 0) then
  fx_MD_pushNumber_b30 p1 v1 p1 X1
  else fx_MD_pushNumber_b30 p1 v1 (-p1) X1))
set_option maxRecDepth 100000 in
set_option maxHeartbeats 4000000 in
theorem cx_MD_pushNumber (l : Launch) (D : va_G) (G : xh_G) (hD : xh_D G) (p1 : Int64) (X : xh_T) : xh_M xh_Qv l D G y_MD_pushNumber b_MD_pushNumber 8 none rm_MD_pushNumber [.ref (G.1 206), .long p1] X (fx_MD_pushNumber p1 X) := by
  refine xh_enter (ls := [(0, .ref (G.1 206)), (1, .long p1)]) hD (by decide +kernel) (Nat.le_of_ble_eq_true rfl) rfl ?_
  intro p e s m args below meth c hz hr hlk
  unfold fx_MD_pushNumber
  refine jr_bipush (v := 33) hz d_MD_pushNumber_0 (by decide) ?_
  refine jr_aload_n hz d_MD_pushNumber_2 rfl 0 rfl ?_
  refine jr_geti (j := 5) hz lq_206 ly_206 rfl wf_MD_56 d_MD_pushNumber_3 ?_
  refine jr_imul hz d_MD_pushNumber_6 ?_
  refine jr_istore_n (lf := [(0, .ref (G.1 206)), (1, .long p1)]) hz d_MD_pushNumber_7 rfl (by decide) rfl (fun v1 => ?_)
  refine jr_aload_n hz d_MD_pushNumber_8 rfl 1 rfl ?_
  refine jr_aload_n hz d_MD_pushNumber_9 rfl 1 rfl ?_
  refine jr_geti (j := 5) hz lq_206 ly_206 rfl wf_MD_56 d_MD_pushNumber_10 ?_
  refine jr_iconst (v := 1) hz d_MD_pushNumber_13 (by decide) ?_
  refine jr_iadd hz d_MD_pushNumber_14 ?_
  refine jr_puti hz lq_206 ly_206 rfl wp_MD_56 d_MD_pushNumber_15 (fun X1 => ?_)
  refine jr_lload_n hz d_MD_pushNumber_18 rfl 2 rfl ?_
  refine jr_lconst (v := 0) hz d_MD_pushNumber_19 (by decide) ?_
  refine jr_lcmp hz d_MD_pushNumber_20 ?_
  refine jr_if_ge (tgt := 29) hz d_MD_pushNumber_21 (by decide) ?_ ?_
  · refine jr_lload_n hz d_MD_pushNumber_29 rfl 2 rfl ?_
    refine jr_sub (ls' := [(0, .ref (G.1 206)), (1, .long p1), (3, .int v1)]) [1, 2, 0] rfl ?_
    exact jb_MD_pushNumber_b30 hz hr hlk p1 v1 p1 X1
  · refine jr_lload_n hz d_MD_pushNumber_24 rfl 2 rfl ?_
    refine jr_lneg hz d_MD_pushNumber_25 ?_
    refine jr_goto (tgt := 30) hz d_MD_pushNumber_26 (by decide) ?_
    refine jr_sub (ls' := [(0, .ref (G.1 206)), (1, .long p1), (3, .int v1)]) [1, 2, 0] rfl ?_
    exact jb_MD_pushNumber_b30 hz hr hlk p1 v1 (-p1) X1
theorem d_MD_full_0 : decode b_MD_full 0 = .ok (.aload_n 0, 1) := by decide +kernel
theorem d_MD_full_1 : decode b_MD_full 1 = .ok (.getfield 56, 3) := by decide +kernel
theorem d_MD_full_4 : decode b_MD_full 4 = .ok (.aload_n 0, 1) := by decide +kernel
theorem d_MD_full_5 : decode b_MD_full 5 = .ok (.getfield 76, 3) := by decide +kernel
theorem d_MD_full_8 : decode b_MD_full 8 = .ok (.iadd, 1) := by decide +kernel
theorem d_MD_full_9 : decode b_MD_full 9 = .ok (.iload_n 1, 1) := by decide +kernel
theorem d_MD_full_10 : decode b_MD_full 10 = .ok (.iadd, 1) := by decide +kernel
theorem d_MD_full_11 : decode b_MD_full 11 = .ok (.bipush 30, 2) := by decide +kernel
theorem d_MD_full_13 : decode b_MD_full 13 = .ok (.if_icmp .le 7, 3) := by decide +kernel
theorem d_MD_full_16 : decode b_MD_full 16 = .ok (.iconst 1, 1) := by decide +kernel
theorem d_MD_full_17 : decode b_MD_full 17 = .ok (.goto 4, 3) := by decide +kernel
theorem d_MD_full_20 : decode b_MD_full 20 = .ok (.iconst 0, 1) := by decide +kernel
theorem d_MD_full_21 : decode b_MD_full 21 = .ok (.ireturn, 1) := by decide +kernel
theorem wf_MD_76 : xh_F "SpendScriptModel" 76 7 6 := ⟨R_MD, F_MD, 19, rfl, by decide, iw_MD, (sp_tb (List.mem_of_getElem? (i := 543) (by decide +kernel)))⟩
abbrev rm_MD_full : Room := { frames := 0, cells := 0, slots := 0, locals := 0 }
def fx_MD_full (p1 : Int32) (X : xh_T) : Option (Int32 × xh_T) :=
  if ((X.1 206 5 + X.1 206 6) + p1) ≤ 30 then
  some (0, X)
  else some (1, X)
set_option maxRecDepth 100000 in
set_option maxHeartbeats 4000000 in
theorem cx_MD_full (l : Launch) (D : va_G) (G : xh_G) (hD : xh_D G) (p1 : Int32) (X : xh_T) : xh_M xh_Qi l D G y_MD_full b_MD_full 2 (some .boolean) rm_MD_full [.ref (G.1 206), .int p1] X (fx_MD_full p1 X) := by
  refine xh_enter (ls := [(0, .ref (G.1 206)), (1, .int p1)]) hD (by decide +kernel) (Nat.le_of_ble_eq_true rfl) rfl ?_
  intro p e s m args below meth c hz hr hlk
  unfold fx_MD_full
  refine jr_aload_n hz d_MD_full_0 rfl 0 rfl ?_
  refine jr_geti (j := 5) hz lq_206 ly_206 rfl wf_MD_56 d_MD_full_1 ?_
  refine jr_aload_n hz d_MD_full_4 rfl 0 rfl ?_
  refine jr_geti (j := 6) hz lq_206 ly_206 rfl wf_MD_76 d_MD_full_5 ?_
  refine jr_iadd hz d_MD_full_8 ?_
  refine jr_iload_n hz d_MD_full_9 rfl 1 rfl ?_
  refine jr_iadd hz d_MD_full_10 ?_
  refine jr_bipush (v := 30) hz d_MD_full_11 (by decide) ?_
  refine jr_icmp_le (tgt := 20) hz d_MD_full_13 (by decide) ?_ ?_
  · refine jr_iconst (v := 0) hz d_MD_full_20 (by decide) ?_
    exact jr_zret hz hr hlk (by decide) d_MD_full_21
  · refine jr_iconst (v := 1) hz d_MD_full_16 (by decide) ?_
    refine jr_goto (tgt := 21) hz d_MD_full_17 (by decide) ?_
    exact jr_zret hz hr hlk (by decide) d_MD_full_21
theorem d_MD_valueInto_0 : decode b_MD_valueInto 0 = .ok (.aload_n 0, 1) := by decide +kernel
theorem d_MD_valueInto_1 : decode b_MD_valueInto 1 = .ok (.iload_n 1, 1) := by decide +kernel
theorem d_MD_valueInto_2 : decode b_MD_valueInto 2 = .ok (.invokevirtual 63, 3) := by decide +kernel
theorem d_MD_valueInto_5 : decode b_MD_valueInto 5 = .ok (.istore_n 3, 1) := by decide +kernel
theorem d_MD_valueInto_6 : decode b_MD_valueInto 6 = .ok (.iload_n 3, 1) := by decide +kernel
theorem d_MD_valueInto_7 : decode b_MD_valueInto 7 = .ok (.iconst 4, 1) := by decide +kernel
theorem d_MD_valueInto_8 : decode b_MD_valueInto 8 = .ok (.if_icmp .le 6, 3) := by decide +kernel
theorem d_MD_valueInto_11 : decode b_MD_valueInto 11 = .ok (.bipush 12, 2) := by decide +kernel
theorem d_MD_valueInto_13 : decode b_MD_valueInto 13 = .ok (.ireturn, 1) := by decide +kernel
theorem d_MD_valueInto_14 : decode b_MD_valueInto 14 = .ok (.lconst 0, 1) := by decide +kernel
theorem d_MD_valueInto_15 : decode b_MD_valueInto 15 = .ok (.lstore 4, 2) := by decide +kernel
theorem d_MD_valueInto_17 : decode b_MD_valueInto 17 = .ok (.iload_n 3, 1) := by decide +kernel
theorem d_MD_valueInto_18 : decode b_MD_valueInto 18 = .ok (.iconst 1, 1) := by decide +kernel
theorem d_MD_valueInto_19 : decode b_MD_valueInto 19 = .ok (.isub, 1) := by decide +kernel
theorem d_MD_valueInto_20 : decode b_MD_valueInto 20 = .ok (.istore 6, 2) := by decide +kernel
theorem d_MD_valueInto_22 : decode b_MD_valueInto 22 = .ok (.iload 6, 2) := by decide +kernel
theorem d_MD_valueInto_24 : decode b_MD_valueInto 24 = .ok (.ifCond .lt 47, 3) := by decide +kernel
theorem d_MD_valueInto_27 : decode b_MD_valueInto 27 = .ok (.lload 4, 2) := by decide +kernel
theorem d_MD_valueInto_29 : decode b_MD_valueInto 29 = .ok (.ldc2_w 82, 3) := by decide +kernel
theorem d_MD_valueInto_32 : decode b_MD_valueInto 32 = .ok (.lmul, 1) := by decide +kernel
theorem d_MD_valueInto_33 : decode b_MD_valueInto 33 = .ok (.iload 6, 2) := by decide +kernel
theorem d_MD_valueInto_35 : decode b_MD_valueInto 35 = .ok (.iload_n 3, 1) := by decide +kernel
theorem d_MD_valueInto_36 : decode b_MD_valueInto 36 = .ok (.iconst 1, 1) := by decide +kernel
theorem d_MD_valueInto_37 : decode b_MD_valueInto 37 = .ok (.isub, 1) := by decide +kernel
theorem d_MD_valueInto_38 : decode b_MD_valueInto 38 = .ok (.if_icmp .ne 16, 3) := by decide +kernel
theorem d_MD_valueInto_41 : decode b_MD_valueInto 41 = .ok (.aload_n 0, 1) := by decide +kernel
theorem d_MD_valueInto_42 : decode b_MD_valueInto 42 = .ok (.iload_n 1, 1) := by decide +kernel
theorem d_MD_valueInto_43 : decode b_MD_valueInto 43 = .ok (.iload 6, 2) := by decide +kernel
theorem d_MD_valueInto_45 : decode b_MD_valueInto 45 = .ok (.invokevirtual 66, 3) := by decide +kernel
theorem d_MD_valueInto_48 : decode b_MD_valueInto 48 = .ok (.bipush 127, 2) := by decide +kernel
theorem d_MD_valueInto_50 : decode b_MD_valueInto 50 = .ok (.iand, 1) := by decide +kernel
theorem d_MD_valueInto_51 : decode b_MD_valueInto 51 = .ok (.goto 10, 3) := by decide +kernel
theorem d_MD_valueInto_54 : decode b_MD_valueInto 54 = .ok (.aload_n 0, 1) := by decide +kernel
theorem d_MD_valueInto_55 : decode b_MD_valueInto 55 = .ok (.iload_n 1, 1) := by decide +kernel
theorem d_MD_valueInto_56 : decode b_MD_valueInto 56 = .ok (.iload 6, 2) := by decide +kernel
theorem d_MD_valueInto_58 : decode b_MD_valueInto 58 = .ok (.invokevirtual 66, 3) := by decide +kernel
theorem d_MD_valueInto_61 : decode b_MD_valueInto 61 = .ok (.i2l, 1) := by decide +kernel
theorem d_MD_valueInto_62 : decode b_MD_valueInto 62 = .ok (.ladd, 1) := by decide +kernel
theorem d_MD_valueInto_63 : decode b_MD_valueInto 63 = .ok (.lstore 4, 2) := by decide +kernel
theorem d_MD_valueInto_65 : decode b_MD_valueInto 65 = .ok (.iinc 6 (-1), 3) := by decide +kernel
theorem d_MD_valueInto_68 : decode b_MD_valueInto 68 = .ok (.goto (-46), 3) := by decide +kernel
theorem d_MD_valueInto_71 : decode b_MD_valueInto 71 = .ok (.aload_n 0, 1) := by decide +kernel
theorem d_MD_valueInto_72 : decode b_MD_valueInto 72 = .ok (.getfield 35, 3) := by decide +kernel
theorem d_MD_valueInto_75 : decode b_MD_valueInto 75 = .ok (.iload_n 2, 1) := by decide +kernel
theorem d_MD_valueInto_76 : decode b_MD_valueInto 76 = .ok (.iload_n 3, 1) := by decide +kernel
theorem d_MD_valueInto_77 : decode b_MD_valueInto 77 = .ok (.ifCond .le 22, 3) := by decide +kernel
theorem d_MD_valueInto_80 : decode b_MD_valueInto 80 = .ok (.aload_n 0, 1) := by decide +kernel
theorem d_MD_valueInto_81 : decode b_MD_valueInto 81 = .ok (.iload_n 1, 1) := by decide +kernel
theorem d_MD_valueInto_82 : decode b_MD_valueInto 82 = .ok (.iload_n 3, 1) := by decide +kernel
theorem d_MD_valueInto_83 : decode b_MD_valueInto 83 = .ok (.iconst 1, 1) := by decide +kernel
theorem d_MD_valueInto_84 : decode b_MD_valueInto 84 = .ok (.isub, 1) := by decide +kernel
theorem d_MD_valueInto_85 : decode b_MD_valueInto 85 = .ok (.invokevirtual 66, 3) := by decide +kernel
theorem d_MD_valueInto_88 : decode b_MD_valueInto 88 = .ok (.bipush 127, 2) := by decide +kernel
theorem d_MD_valueInto_90 : decode b_MD_valueInto 90 = .ok (.if_icmp .le 9, 3) := by decide +kernel
theorem d_MD_valueInto_93 : decode b_MD_valueInto 93 = .ok (.lload 4, 2) := by decide +kernel
theorem d_MD_valueInto_95 : decode b_MD_valueInto 95 = .ok (.lneg, 1) := by decide +kernel
theorem d_MD_valueInto_96 : decode b_MD_valueInto 96 = .ok (.goto 5, 3) := by decide +kernel
theorem d_MD_valueInto_99 : decode b_MD_valueInto 99 = .ok (.lload 4, 2) := by decide +kernel
theorem d_MD_valueInto_101 : decode b_MD_valueInto 101 = .ok (.lastore, 1) := by decide +kernel
theorem d_MD_valueInto_102 : decode b_MD_valueInto 102 = .ok (.iconst 0, 1) := by decide +kernel
theorem d_MD_valueInto_103 : decode b_MD_valueInto 103 = .ok (.ireturn, 1) := by decide +kernel
theorem wf_MD_35 : xh_F "SpendScriptModel" 35 7 18 := ⟨R_MD, F_MD, 19, rfl, by decide, iw_MD, (sp_tb (List.mem_of_getElem? (i := 555) (by decide +kernel)))⟩
theorem wk_MD_82 : Cond.constantLong "SpendScriptModel" 82 256 ∈ sp_ws := (sp_tb (List.mem_of_getElem? (i := 687) (by decide +kernel)))
abbrev rm_MD_valueInto : Room := { frames := 2, cells := 0, slots := 0, locals := 43 }
def fx_MD_valueInto_b61 (lp22 : Int32 → Int32 → Int32 → Int64 → Int32 → xh_T → Option (Int32 × xh_T)) (a1 : Int32) (a2 : Int32) (a3 : Int32) (a6 : Int32) (s0 : Int32) (s1 : Int64) (X : xh_T) : Option (Int32 × xh_T) :=
  xh_n (s1 + ((s0 : Int32).toInt64)) (fun v20 : Int64 =>
  xh_n (a6 + (-1)) (fun v21 : Int32 =>
  lp22 a1 a2 a3 v20 v21 X))
set_option maxRecDepth 100000 in
set_option maxHeartbeats 4000000 in
theorem jb_MD_valueInto_b61 {p : Program} {l : Launch} {e : Env} {s : State} {m : MethodId} {args : Array Value} {below : List Frame} {meth : Method} {c : Code} {D : va_G} {G : xh_G} (hz : xh_C p s m args c b_MD_valueInto 7 "SpendScriptModel" D G (xh_A G s.heap.size)) (hr : meth.sig.returnType = (some .int)) (hlk : meth.locks = false) (lp22 : Int32 → Int32 → Int32 → Int64 → Int32 → xh_T → Option (Int32 × xh_T)) (hlp22 : ∀ (a1 : Int32) (a2 : Int32) (a3 : Int32) (a4 : Int64) (a6 : Int32) (X : xh_T), xh_J p l e rm_MD_valueInto s m args below meth c 0 0 D G (xh_A G s.heap.size) 7 (fun r X' => MQ below (xh_Qi D G (xh_A G s.heap.size) r X') args s 0 0 (xh_A G s.heap.size)) 22 [(0, .ref (G.1 206)), (1, .int a1), (2, .int a2), (3, .int a3), (4, .long a4), (6, .int a6)] [] X (lp22 a1 a2 a3 a4 a6 X)) (a1 : Int32) (a2 : Int32) (a3 : Int32) (a6 : Int32) (s0 : Int32) (s1 : Int64) (X : xh_T) : xh_J p l e rm_MD_valueInto s m args below meth c 0 0 D G (xh_A G s.heap.size) 7 (fun r X' => MQ below (xh_Qi D G (xh_A G s.heap.size) r X') args s 0 0 (xh_A G s.heap.size)) 61 [(0, .ref (G.1 206)), (1, .int a1), (2, .int a2), (3, .int a3), (6, .int a6)] [.int s0, .long s1] X (fx_MD_valueInto_b61 lp22 a1 a2 a3 a6 s0 s1 X) := by
  unfold fx_MD_valueInto_b61
  refine jr_i2l hz d_MD_valueInto_61 ?_
  refine jr_ladd hz d_MD_valueInto_62 ?_
  refine jr_lstore (lf := [(0, .ref (G.1 206)), (1, .int a1), (2, .int a2), (3, .int a3), (6, .int a6)]) hz d_MD_valueInto_63 (by decide) rfl (fun v20 => ?_)
  refine jr_iinc (lf := [(4, .long v20), (0, .ref (G.1 206)), (1, .int a1), (2, .int a2), (3, .int a3)]) (w := (-1)) hz d_MD_valueInto_65 5 rfl (by decide) (by decide) rfl (fun v21 => ?_)
  refine jr_goto (tgt := 22) hz d_MD_valueInto_68 (by decide) ?_
  refine jr_sub (ls' := [(0, .ref (G.1 206)), (1, .int a1), (2, .int a2), (3, .int a3), (4, .long v20), (6, .int v21)]) [2, 3, 4, 5, 1, 0] rfl ?_
  exact hlp22 a1 a2 a3 v20 v21 X
def fx_MD_valueInto_b22 : Nat → Int32 → Int32 → Int32 → Int64 → Int32 → xh_T → Option (Int32 × xh_T)
  | 0, _, _, _, _, _, _ => none
  | n + 1, a1, a2, a3, a4, a6, X => if a6 < 0 then
  if a3 ≤ 0 then
  xh_o a2 3 (xh_n (xh_l X 215 (a2 : Int32).toNatClampNeg a4) (fun X2 : xh_T =>
  some (0, X2)))
  else xh_b (fx_MD_at a1 (a3 - 1) X) (fun (r8 : Int32) (X3 : xh_T) =>
  if r8 ≤ 127 then
  xh_o a2 3 (xh_n (xh_l X3 215 (a2 : Int32).toNatClampNeg a4) (fun X4 : xh_T =>
  some (0, X4)))
  else xh_o a2 3 (xh_n (xh_l X3 215 (a2 : Int32).toNatClampNeg (-a4)) (fun X5 : xh_T =>
  some (0, X5))))
  else if a6 = (a3 - 1) then
  xh_b (fx_MD_at a1 a6 X) (fun (r16 : Int32) (X7 : xh_T) =>
  fx_MD_valueInto_b61 (fun z0 z1 z2 z3 z4 Z => fx_MD_valueInto_b22 n z0 z1 z2 z3 z4 Z) a1 a2 a3 a6 (r16 &&& 127) (a4 * 256) X7)
  else xh_b (fx_MD_at a1 a6 X) (fun (r12 : Int32) (X6 : xh_T) =>
  fx_MD_valueInto_b61 (fun z0 z1 z2 z3 z4 Z => fx_MD_valueInto_b22 n z0 z1 z2 z3 z4 Z) a1 a2 a3 a6 r12 (a4 * 256) X6)
set_option maxRecDepth 100000 in
set_option maxHeartbeats 4000000 in
theorem jb_MD_valueInto_b22 {p : Program} {l : Launch} {e : Env} {s : State} {m : MethodId} {args : Array Value} {below : List Frame} {meth : Method} {c : Code} {D : va_G} {G : xh_G} (hz : xh_C p s m args c b_MD_valueInto 7 "SpendScriptModel" D G (xh_A G s.heap.size)) (hr : meth.sig.returnType = (some .int)) (hlk : meth.locks = false) : ∀ (n : Nat) (a1 : Int32) (a2 : Int32) (a3 : Int32) (a4 : Int64) (a6 : Int32) (X : xh_T), xh_J p l e rm_MD_valueInto s m args below meth c 0 0 D G (xh_A G s.heap.size) 7 (fun r X' => MQ below (xh_Qi D G (xh_A G s.heap.size) r X') args s 0 0 (xh_A G s.heap.size)) 22 [(0, .ref (G.1 206)), (1, .int a1), (2, .int a2), (3, .int a3), (4, .long a4), (6, .int a6)] [] X (fx_MD_valueInto_b22 n a1 a2 a3 a4 a6 X) := by
  intro n
  induction n with
  | zero => intro a1 a2 a3 a4 a6 X; exact jr_none
  | succ n ih =>
    intro a1 a2 a3 a4 a6 X
    rw [fx_MD_valueInto_b22]
    refine jr_iload hz d_MD_valueInto_22 5 rfl ?_
    refine jr_if_lt (tgt := 71) hz d_MD_valueInto_24 (by decide) ?_ ?_
    · refine jr_aload_n hz d_MD_valueInto_71 rfl 0 rfl ?_
      refine jr_getr (j := 18) (t := 215) hz lq_206 ly_206 rfl wf_MD_35 d_MD_valueInto_72 ?_
      refine jr_iload_n hz d_MD_valueInto_75 rfl 2 rfl ?_
      refine jr_iload_n hz d_MD_valueInto_76 rfl 3 rfl ?_
      refine jr_if_le (tgt := 99) hz d_MD_valueInto_77 (by decide) ?_ ?_
      · refine jr_lload hz d_MD_valueInto_99 4 rfl ?_
        refine jr_last (n := 3) hz lq_215 ly_215 d_MD_valueInto_101 (fun X2 => ?_)
        refine jr_iconst (v := 0) hz d_MD_valueInto_102 (by decide) ?_
        exact jr_iret hz hr hlk d_MD_valueInto_103
      · refine jr_aload_n hz d_MD_valueInto_80 rfl 0 rfl ?_
        refine jr_iload_n hz d_MD_valueInto_81 rfl 1 rfl ?_
        refine jr_iload_n hz d_MD_valueInto_82 rfl 3 rfl ?_
        refine jr_iconst (v := 1) hz d_MD_valueInto_83 (by decide) ?_
        refine jr_isub hz d_MD_valueInto_84 ?_
        refine jr_callVi (As := [.int a1, .int (a3 - 1)]) (a := 206) (ci := 7) (st := [.int a2, .ref (G.1 215)]) hz (cx_MD_at l D G hz.2.2.2.2.2.2.1 a1 (a3 - 1) X) (fun _ _ => ⟨lq_206, _, ly_206⟩) wv_MD_66 ⟨rfl, rfl, Nat.le_of_ble_eq_true rfl, Nat.le_of_ble_eq_true rfl⟩ ⟨Nat.zero_le _, Nat.zero_le _⟩ rfl rfl (Nat.le_of_ble_eq_true rfl) d_MD_valueInto_85 (fun r8 X3 => ?_)
        refine jr_bipush (v := 127) hz d_MD_valueInto_88 (by decide) ?_
        refine jr_icmp_le (tgt := 99) hz d_MD_valueInto_90 (by decide) ?_ ?_
        · refine jr_lload hz d_MD_valueInto_99 4 rfl ?_
          refine jr_last (n := 3) hz lq_215 ly_215 d_MD_valueInto_101 (fun X4 => ?_)
          refine jr_iconst (v := 0) hz d_MD_valueInto_102 (by decide) ?_
          exact jr_iret hz hr hlk d_MD_valueInto_103
        · refine jr_lload hz d_MD_valueInto_93 4 rfl ?_
          refine jr_lneg hz d_MD_valueInto_95 ?_
          refine jr_goto (tgt := 101) hz d_MD_valueInto_96 (by decide) ?_
          refine jr_last (n := 3) hz lq_215 ly_215 d_MD_valueInto_101 (fun X5 => ?_)
          refine jr_iconst (v := 0) hz d_MD_valueInto_102 (by decide) ?_
          exact jr_iret hz hr hlk d_MD_valueInto_103
    · refine jr_lload hz d_MD_valueInto_27 4 rfl ?_
      refine jr_ldc2 (v := 256) hz wk_MD_82 d_MD_valueInto_29 ?_
      refine jr_lmul hz d_MD_valueInto_32 ?_
      refine jr_iload hz d_MD_valueInto_33 5 rfl ?_
      refine jr_iload_n hz d_MD_valueInto_35 rfl 3 rfl ?_
      refine jr_iconst (v := 1) hz d_MD_valueInto_36 (by decide) ?_
      refine jr_isub hz d_MD_valueInto_37 ?_
      refine jr_icmp_ne (tgt := 54) hz d_MD_valueInto_38 (by decide) ?_ ?_
      · refine jr_aload_n hz d_MD_valueInto_54 rfl 0 rfl ?_
        refine jr_iload_n hz d_MD_valueInto_55 rfl 1 rfl ?_
        refine jr_iload hz d_MD_valueInto_56 5 rfl ?_
        refine jr_callVi (As := [.int a1, .int a6]) (a := 206) (ci := 7) (st := [.long (a4 * 256)]) hz (cx_MD_at l D G hz.2.2.2.2.2.2.1 a1 a6 X) (fun _ _ => ⟨lq_206, _, ly_206⟩) wv_MD_66 ⟨rfl, rfl, Nat.le_of_ble_eq_true rfl, Nat.le_of_ble_eq_true rfl⟩ ⟨Nat.zero_le _, Nat.zero_le _⟩ rfl rfl (Nat.le_of_ble_eq_true rfl) d_MD_valueInto_58 (fun r12 X6 => ?_)
        refine jr_sub (ls' := [(0, .ref (G.1 206)), (1, .int a1), (2, .int a2), (3, .int a3), (6, .int a6)]) [0, 1, 2, 3, 5] rfl ?_
        exact jb_MD_valueInto_b61 hz hr hlk (fun z0 z1 z2 z3 z4 Z => fx_MD_valueInto_b22 n z0 z1 z2 z3 z4 Z) (fun z0 z1 z2 z3 z4 Z => ih z0 z1 z2 z3 z4 Z) a1 a2 a3 a6 r12 (a4 * 256) X6
      · refine jr_aload_n hz d_MD_valueInto_41 rfl 0 rfl ?_
        refine jr_iload_n hz d_MD_valueInto_42 rfl 1 rfl ?_
        refine jr_iload hz d_MD_valueInto_43 5 rfl ?_
        refine jr_callVi (As := [.int a1, .int a6]) (a := 206) (ci := 7) (st := [.long (a4 * 256)]) hz (cx_MD_at l D G hz.2.2.2.2.2.2.1 a1 a6 X) (fun _ _ => ⟨lq_206, _, ly_206⟩) wv_MD_66 ⟨rfl, rfl, Nat.le_of_ble_eq_true rfl, Nat.le_of_ble_eq_true rfl⟩ ⟨Nat.zero_le _, Nat.zero_le _⟩ rfl rfl (Nat.le_of_ble_eq_true rfl) d_MD_valueInto_45 (fun r16 X7 => ?_)
        refine jr_bipush (v := 127) hz d_MD_valueInto_48 (by decide) ?_
        refine jr_iand hz d_MD_valueInto_50 ?_
        refine jr_goto (tgt := 61) hz d_MD_valueInto_51 (by decide) ?_
        refine jr_sub (ls' := [(0, .ref (G.1 206)), (1, .int a1), (2, .int a2), (3, .int a3), (6, .int a6)]) [0, 1, 2, 3, 5] rfl ?_
        exact jb_MD_valueInto_b61 hz hr hlk (fun z0 z1 z2 z3 z4 Z => fx_MD_valueInto_b22 n z0 z1 z2 z3 z4 Z) (fun z0 z1 z2 z3 z4 Z => ih z0 z1 z2 z3 z4 Z) a1 a2 a3 a6 (r16 &&& 127) (a4 * 256) X7
def fx_MD_valueInto (p1 : Int32) (p2 : Int32) (X : xh_T) : Option (Int32 × xh_T) :=
  xh_b (fx_MD_size p1 X) (fun (r1 : Int32) (X1 : xh_T) =>
  xh_n r1 (fun v5 : Int32 =>
  if v5 ≤ 4 then
  xh_n 0 (fun v6 : Int64 =>
  xh_n (v5 - 1) (fun v7 : Int32 =>
  fx_MD_valueInto_b22 sp_fuel p1 p2 v5 v6 v7 X1))
  else some (12, X1)))
set_option maxRecDepth 100000 in
set_option maxHeartbeats 4000000 in
theorem cx_MD_valueInto (l : Launch) (D : va_G) (G : xh_G) (hD : xh_D G) (p1 : Int32) (p2 : Int32) (X : xh_T) : xh_M xh_Qi l D G y_MD_valueInto b_MD_valueInto 7 (some .int) rm_MD_valueInto [.ref (G.1 206), .int p1, .int p2] X (fx_MD_valueInto p1 p2 X) := by
  refine xh_enter (ls := [(0, .ref (G.1 206)), (1, .int p1), (2, .int p2)]) hD (by decide +kernel) (Nat.le_of_ble_eq_true rfl) rfl ?_
  intro p e s m args below meth c hz hr hlk
  unfold fx_MD_valueInto
  refine jr_aload_n hz d_MD_valueInto_0 rfl 0 rfl ?_
  refine jr_iload_n hz d_MD_valueInto_1 rfl 1 rfl ?_
  refine jr_callVi (As := [.int p1]) (a := 206) (ci := 7) (st := []) hz (cx_MD_size l D G hz.2.2.2.2.2.2.1 p1 X) (fun _ _ => ⟨lq_206, _, ly_206⟩) wv_MD_63 ⟨rfl, rfl, Nat.le_of_ble_eq_true rfl, Nat.le_of_ble_eq_true rfl⟩ ⟨Nat.zero_le _, Nat.zero_le _⟩ rfl rfl (Nat.le_of_ble_eq_true rfl) d_MD_valueInto_2 (fun r1 X1 => ?_)
  refine jr_istore_n (lf := [(0, .ref (G.1 206)), (1, .int p1), (2, .int p2)]) hz d_MD_valueInto_5 rfl (by decide) rfl (fun v5 => ?_)
  refine jr_iload_n hz d_MD_valueInto_6 rfl 0 rfl ?_
  refine jr_iconst (v := 4) hz d_MD_valueInto_7 (by decide) ?_
  refine jr_icmp_le (tgt := 14) hz d_MD_valueInto_8 (by decide) ?_ ?_
  · refine jr_lconst (v := 0) hz d_MD_valueInto_14 (by decide) ?_
    refine jr_lstore (lf := [(3, .int v5), (0, .ref (G.1 206)), (1, .int p1), (2, .int p2)]) hz d_MD_valueInto_15 (by decide) rfl (fun v6 => ?_)
    refine jr_iload_n hz d_MD_valueInto_17 rfl 1 rfl ?_
    refine jr_iconst (v := 1) hz d_MD_valueInto_18 (by decide) ?_
    refine jr_isub hz d_MD_valueInto_19 ?_
    refine jr_istore (lf := [(4, .long v6), (3, .int v5), (0, .ref (G.1 206)), (1, .int p1), (2, .int p2)]) hz d_MD_valueInto_20 (by decide) rfl (fun v7 => ?_)
    refine jr_sub (ls' := [(0, .ref (G.1 206)), (1, .int p1), (2, .int p2), (3, .int v5), (4, .long v6), (6, .int v7)]) [3, 4, 5, 2, 1, 0] rfl ?_
    exact jb_MD_valueInto_b22 hz hr hlk sp_fuel p1 p2 v5 v6 v7 X1
  · refine jr_bipush (v := 12) hz d_MD_valueInto_11 (by decide) ?_
    exact jr_iret hz hr hlk d_MD_valueInto_13

/-! printed by wip/whole/gen_walks.py -/
theorem d_ST_add_0 : decode b_ST_add 0 = .ok (.aload_n 0, 1) := by decide +kernel
theorem d_ST_add_1 : decode b_ST_add 1 = .ok (.getfield 16, 3) := by decide +kernel
theorem d_ST_add_4 : decode b_ST_add 4 = .ok (.bipush 8, 2) := by decide +kernel
theorem d_ST_add_6 : decode b_ST_add 6 = .ok (.if_icmp .lt 5, 3) := by decide +kernel
theorem d_ST_add_9 : decode b_ST_add 9 = .ok (.iconst 0, 1) := by decide +kernel
theorem d_ST_add_10 : decode b_ST_add 10 = .ok (.ireturn, 1) := by decide +kernel
theorem d_ST_add_11 : decode b_ST_add 11 = .ok (.aload_n 0, 1) := by decide +kernel
theorem d_ST_add_12 : decode b_ST_add 12 = .ok (.getfield 9, 3) := by decide +kernel
theorem d_ST_add_15 : decode b_ST_add 15 = .ok (.aload_n 0, 1) := by decide +kernel
theorem d_ST_add_16 : decode b_ST_add 16 = .ok (.getfield 16, 3) := by decide +kernel
theorem d_ST_add_19 : decode b_ST_add 19 = .ok (.iload_n 1, 1) := by decide +kernel
theorem d_ST_add_20 : decode b_ST_add 20 = .ok (.iastore, 1) := by decide +kernel
theorem d_ST_add_21 : decode b_ST_add 21 = .ok (.aload_n 0, 1) := by decide +kernel
theorem d_ST_add_22 : decode b_ST_add 22 = .ok (.getfield 13, 3) := by decide +kernel
theorem d_ST_add_25 : decode b_ST_add 25 = .ok (.aload_n 0, 1) := by decide +kernel
theorem d_ST_add_26 : decode b_ST_add 26 = .ok (.getfield 16, 3) := by decide +kernel
theorem d_ST_add_29 : decode b_ST_add 29 = .ok (.iload_n 2, 1) := by decide +kernel
theorem d_ST_add_30 : decode b_ST_add 30 = .ok (.iastore, 1) := by decide +kernel
theorem d_ST_add_31 : decode b_ST_add 31 = .ok (.aload_n 0, 1) := by decide +kernel
theorem d_ST_add_32 : decode b_ST_add 32 = .ok (.dup, 1) := by decide +kernel
theorem d_ST_add_33 : decode b_ST_add 33 = .ok (.getfield 16, 3) := by decide +kernel
theorem d_ST_add_36 : decode b_ST_add 36 = .ok (.iconst 1, 1) := by decide +kernel
theorem d_ST_add_37 : decode b_ST_add 37 = .ok (.iadd, 1) := by decide +kernel
theorem d_ST_add_38 : decode b_ST_add 38 = .ok (.putfield 16, 3) := by decide +kernel
theorem d_ST_add_41 : decode b_ST_add 41 = .ok (.iconst 1, 1) := by decide +kernel
theorem d_ST_add_42 : decode b_ST_add 42 = .ok (.ireturn, 1) := by decide +kernel
theorem wf_ST_16 : xh_F "SpendScript$SignatureTable" 16 2 2 := ⟨R_ST, F_ST, 3, rfl, by decide, iw_ST, (sp_tb (List.mem_of_getElem? (i := 41) (by decide +kernel)))⟩
theorem wf_ST_9 : xh_F "SpendScript$SignatureTable" 9 2 0 := ⟨R_ST, F_ST, 3, rfl, by decide, iw_ST, (sp_tb (List.mem_of_getElem? (i := 39) (by decide +kernel)))⟩
theorem wf_ST_13 : xh_F "SpendScript$SignatureTable" 13 2 1 := ⟨R_ST, F_ST, 3, rfl, by decide, iw_ST, (sp_tb (List.mem_of_getElem? (i := 40) (by decide +kernel)))⟩
theorem wp_ST_16 : xh_Fp "SpendScript$SignatureTable" 16 2 2 := ⟨R_ST, F_ST, 3, t_ST, rfl, by decide, iw_ST, (sp_tb (List.mem_of_getElem? (i := 41) (by decide +kernel))), tk_ST, nk_ST, rfl, rfl⟩
abbrev rm_ST_add : Room := { frames := 0, cells := 0, slots := 0, locals := 0 }
def fx_ST_add (p1 : Int32) (p2 : Int32) (X : xh_T) : Option (Int32 × xh_T) :=
  if X.1 7 2 < 8 then
  xh_o (X.1 7 2) 8 (xh_n (xh_i X 8 (X.1 7 2 : Int32).toNatClampNeg p1) (fun X1 : xh_T =>
  xh_o (X1.1 7 2) 8 (xh_n (xh_i X1 9 (X1.1 7 2 : Int32).toNatClampNeg p2) (fun X2 : xh_T =>
  xh_n (xh_i X2 7 2 (X2.1 7 2 + 1)) (fun X3 : xh_T =>
  some (1, X3))))))
  else some (0, X)
set_option maxRecDepth 100000 in
set_option maxHeartbeats 4000000 in
theorem cx_ST_add (l : Launch) (D : va_G) (G : xh_G) (hD : xh_D G) (p1 : Int32) (p2 : Int32) (X : xh_T) : xh_M xh_Qi l D G y_ST_add b_ST_add 3 (some .boolean) rm_ST_add [.ref (G.1 7), .int p1, .int p2] X (fx_ST_add p1 p2 X) := by
  refine xh_enter (ls := [(0, .ref (G.1 7)), (1, .int p1), (2, .int p2)]) hD (by decide +kernel) (Nat.le_of_ble_eq_true rfl) rfl ?_
  intro p e s m args below meth c hz hr hlk
  unfold fx_ST_add
  refine jr_aload_n hz d_ST_add_0 rfl 0 rfl ?_
  refine jr_geti (j := 2) hz lq_7 ly_7 rfl wf_ST_16 d_ST_add_1 ?_
  refine jr_bipush (v := 8) hz d_ST_add_4 (by decide) ?_
  refine jr_icmp_lt (tgt := 11) hz d_ST_add_6 (by decide) ?_ ?_
  · refine jr_aload_n hz d_ST_add_11 rfl 0 rfl ?_
    refine jr_getr (j := 0) (t := 8) hz lq_7 ly_7 rfl wf_ST_9 d_ST_add_12 ?_
    refine jr_aload_n hz d_ST_add_15 rfl 0 rfl ?_
    refine jr_geti (j := 2) hz lq_7 ly_7 rfl wf_ST_16 d_ST_add_16 ?_
    refine jr_iload_n hz d_ST_add_19 rfl 1 rfl ?_
    refine jr_iast (n := 8) hz lq_8 ly_8 d_ST_add_20 (fun X1 => ?_)
    refine jr_aload_n hz d_ST_add_21 rfl 0 rfl ?_
    refine jr_getr (j := 1) (t := 9) hz lq_7 ly_7 rfl wf_ST_13 d_ST_add_22 ?_
    refine jr_aload_n hz d_ST_add_25 rfl 0 rfl ?_
    refine jr_geti (j := 2) hz lq_7 ly_7 rfl wf_ST_16 d_ST_add_26 ?_
    refine jr_iload_n hz d_ST_add_29 rfl 2 rfl ?_
    refine jr_iast (n := 8) hz lq_9 ly_9 d_ST_add_30 (fun X2 => ?_)
    refine jr_aload_n hz d_ST_add_31 rfl 0 rfl ?_
    refine jr_dup hz d_ST_add_32 rfl ?_
    refine jr_geti (j := 2) hz lq_7 ly_7 rfl wf_ST_16 d_ST_add_33 ?_
    refine jr_iconst (v := 1) hz d_ST_add_36 (by decide) ?_
    refine jr_iadd hz d_ST_add_37 ?_
    refine jr_puti hz lq_7 ly_7 rfl wp_ST_16 d_ST_add_38 (fun X3 => ?_)
    refine jr_iconst (v := 1) hz d_ST_add_41 (by decide) ?_
    exact jr_zret hz hr hlk (by decide) d_ST_add_42
  · refine jr_iconst (v := 0) hz d_ST_add_9 (by decide) ?_
    exact jr_zret hz hr hlk (by decide) d_ST_add_10
theorem d_ST_isValid_0 : decode b_ST_isValid 0 = .ok (.aload_n 1, 1) := by decide +kernel
theorem d_ST_isValid_1 : decode b_ST_isValid 1 = .ok (.invokevirtual 20, 3) := by decide +kernel
theorem d_ST_isValid_4 : decode b_ST_isValid 4 = .ok (.ifCond .ne 5, 3) := by decide +kernel
theorem d_ST_isValid_7 : decode b_ST_isValid 7 = .ok (.iconst 0, 1) := by decide +kernel
theorem d_ST_isValid_8 : decode b_ST_isValid 8 = .ok (.ireturn, 1) := by decide +kernel
theorem d_ST_isValid_9 : decode b_ST_isValid 9 = .ok (.aload_n 1, 1) := by decide +kernel
theorem d_ST_isValid_10 : decode b_ST_isValid 10 = .ok (.iconst 0, 1) := by decide +kernel
theorem d_ST_isValid_11 : decode b_ST_isValid 11 = .ok (.aload_n 1, 1) := by decide +kernel
theorem d_ST_isValid_12 : decode b_ST_isValid 12 = .ok (.invokevirtual 26, 3) := by decide +kernel
theorem d_ST_isValid_15 : decode b_ST_isValid 15 = .ok (.invokevirtual 30, 3) := by decide +kernel
theorem d_ST_isValid_18 : decode b_ST_isValid 18 = .ok (.istore_n 3, 1) := by decide +kernel
theorem d_ST_isValid_19 : decode b_ST_isValid 19 = .ok (.aload_n 2, 1) := by decide +kernel
theorem d_ST_isValid_20 : decode b_ST_isValid 20 = .ok (.iconst 0, 1) := by decide +kernel
theorem d_ST_isValid_21 : decode b_ST_isValid 21 = .ok (.aload_n 2, 1) := by decide +kernel
theorem d_ST_isValid_22 : decode b_ST_isValid 22 = .ok (.invokevirtual 26, 3) := by decide +kernel
theorem d_ST_isValid_25 : decode b_ST_isValid 25 = .ok (.invokevirtual 30, 3) := by decide +kernel
theorem d_ST_isValid_28 : decode b_ST_isValid 28 = .ok (.istore 4, 2) := by decide +kernel
theorem d_ST_isValid_30 : decode b_ST_isValid 30 = .ok (.iconst 0, 1) := by decide +kernel
theorem d_ST_isValid_31 : decode b_ST_isValid 31 = .ok (.istore 5, 2) := by decide +kernel
theorem d_ST_isValid_33 : decode b_ST_isValid 33 = .ok (.iload 5, 2) := by decide +kernel
theorem d_ST_isValid_35 : decode b_ST_isValid 35 = .ok (.aload_n 0, 1) := by decide +kernel
theorem d_ST_isValid_36 : decode b_ST_isValid 36 = .ok (.getfield 16, 3) := by decide +kernel
theorem d_ST_isValid_39 : decode b_ST_isValid 39 = .ok (.if_icmp .ge 34, 3) := by decide +kernel
theorem d_ST_isValid_42 : decode b_ST_isValid 42 = .ok (.aload_n 0, 1) := by decide +kernel
theorem d_ST_isValid_43 : decode b_ST_isValid 43 = .ok (.getfield 9, 3) := by decide +kernel
theorem d_ST_isValid_46 : decode b_ST_isValid 46 = .ok (.iload 5, 2) := by decide +kernel
theorem d_ST_isValid_48 : decode b_ST_isValid 48 = .ok (.iaload, 1) := by decide +kernel
theorem d_ST_isValid_49 : decode b_ST_isValid 49 = .ok (.iload_n 3, 1) := by decide +kernel
theorem d_ST_isValid_50 : decode b_ST_isValid 50 = .ok (.if_icmp .ne 17, 3) := by decide +kernel
theorem d_ST_isValid_53 : decode b_ST_isValid 53 = .ok (.aload_n 0, 1) := by decide +kernel
theorem d_ST_isValid_54 : decode b_ST_isValid 54 = .ok (.getfield 13, 3) := by decide +kernel
theorem d_ST_isValid_57 : decode b_ST_isValid 57 = .ok (.iload 5, 2) := by decide +kernel
theorem d_ST_isValid_59 : decode b_ST_isValid 59 = .ok (.iaload, 1) := by decide +kernel
theorem d_ST_isValid_60 : decode b_ST_isValid 60 = .ok (.iload 4, 2) := by decide +kernel
theorem d_ST_isValid_62 : decode b_ST_isValid 62 = .ok (.if_icmp .ne 5, 3) := by decide +kernel
theorem d_ST_isValid_65 : decode b_ST_isValid 65 = .ok (.iconst 1, 1) := by decide +kernel
theorem d_ST_isValid_66 : decode b_ST_isValid 66 = .ok (.ireturn, 1) := by decide +kernel
theorem d_ST_isValid_67 : decode b_ST_isValid 67 = .ok (.iinc 5 1, 3) := by decide +kernel
theorem d_ST_isValid_70 : decode b_ST_isValid 70 = .ok (.goto (-37), 3) := by decide +kernel
theorem d_ST_isValid_73 : decode b_ST_isValid 73 = .ok (.iconst 0, 1) := by decide +kernel
theorem d_ST_isValid_74 : decode b_ST_isValid 74 = .ok (.ireturn, 1) := by decide +kernel
theorem wv_ST_20 : xh_V "SpendScript$SignatureTable" 20 0 y_BS_isWellFormedSignature b_BS_isWellFormedSignature 1 (some .boolean) 0 := ⟨(sp_tb (List.mem_of_getElem? (i := 424) (by decide +kernel))), (sp_tb (List.mem_of_getElem? (i := 2) (by decide +kernel))), (sp_tb (List.mem_of_getElem? (i := 421) (by decide +kernel))), ⟨by decide +kernel, by decide +kernel, by decide +kernel⟩, (sp_tb (List.mem_of_getElem? (i := 422) (by decide +kernel))), (sp_tb (List.mem_of_getElem? (i := 423) (by decide +kernel))), F_BS, 2, rfl⟩
theorem wv_ST_26 : xh_V "SpendScript$SignatureTable" 26 0 y_BS_size b_BS_size 1 (some .int) 0 := ⟨(sp_tb (List.mem_of_getElem? (i := 181) (by decide +kernel))), (sp_tb (List.mem_of_getElem? (i := 2) (by decide +kernel))), (sp_tb (List.mem_of_getElem? (i := 425) (by decide +kernel))), ⟨by decide +kernel, by decide +kernel, by decide +kernel⟩, (sp_tb (List.mem_of_getElem? (i := 179) (by decide +kernel))), (sp_tb (List.mem_of_getElem? (i := 180) (by decide +kernel))), F_BS, 2, rfl⟩
theorem wv_ST_30 : xh_V "SpendScript$SignatureTable" 30 0 y_BS_hash b_BS_hash 5 (some .int) 2 := ⟨(sp_tb (List.mem_of_getElem? (i := 209) (by decide +kernel))), (sp_tb (List.mem_of_getElem? (i := 2) (by decide +kernel))), (sp_tb (List.mem_of_getElem? (i := 426) (by decide +kernel))), ⟨by decide +kernel, by decide +kernel, by decide +kernel⟩, (sp_tb (List.mem_of_getElem? (i := 207) (by decide +kernel))), (sp_tb (List.mem_of_getElem? (i := 208) (by decide +kernel))), F_BS, 2, rfl⟩
abbrev rm_ST_isValid : Room := { frames := 1, cells := 0, slots := 0, locals := 24 }
def fx_ST_isValid_b33 (o1 : Nat) (o2 : Nat) : Nat → Int32 → Int32 → Int32 → xh_T → Option (Int32 × xh_T)
  | 0, _, _, _, _ => none
  | n + 1, a3, a4, a5, X => if X.1 7 2 ≤ a5 then
  some (0, X)
  else xh_o a5 8 (if (X.1 8 a5.toNatClampNeg) = a3 then
  xh_o a5 8 (if (X.1 9 a5.toNatClampNeg) = a4 then
  some (1, X)
  else xh_n (a5 + 1) (fun v25 : Int32 =>
  fx_ST_isValid_b33 o1 o2 n a3 a4 v25 X))
  else xh_n (a5 + 1) (fun v24 : Int32 =>
  fx_ST_isValid_b33 o1 o2 n a3 a4 v24 X))
set_option maxRecDepth 100000 in
set_option maxHeartbeats 4000000 in
theorem jb_ST_isValid_b33 {p : Program} {l : Launch} {e : Env} {s : State} {m : MethodId} {args : Array Value} {below : List Frame} {meth : Method} {c : Code} {D : va_G} {G : xh_G} {o1 : Nat} {o2 : Nat} (hz : xh_C p s m args c b_ST_isValid 6 "SpendScript$SignatureTable" D G (xh_A G s.heap.size)) (hr : meth.sig.returnType = (some .boolean)) (hlk : meth.locks = false) (ho1 : sp_bs o1 = true) (ho2 : sp_bs o2 = true) : ∀ (n : Nat) (a3 : Int32) (a4 : Int32) (a5 : Int32) (X : xh_T), xh_J p l e rm_ST_isValid s m args below meth c 0 0 D G (xh_A G s.heap.size) 6 (fun r X' => MQ below (xh_Qi D G (xh_A G s.heap.size) r X') args s 0 0 (xh_A G s.heap.size)) 33 [(0, .ref (G.1 7)), (3, .int a3), (4, .int a4), (5, .int a5)] [] X (fx_ST_isValid_b33 o1 o2 n a3 a4 a5 X) := by
  intro n
  induction n with
  | zero => intro a3 a4 a5 X; exact jr_none
  | succ n ih =>
    intro a3 a4 a5 X
    rw [fx_ST_isValid_b33]
    refine jr_iload hz d_ST_isValid_33 3 rfl ?_
    refine jr_aload_n hz d_ST_isValid_35 rfl 0 rfl ?_
    refine jr_geti (j := 2) hz lq_7 ly_7 rfl wf_ST_16 d_ST_isValid_36 ?_
    refine jr_icmp_ge (tgt := 73) hz d_ST_isValid_39 (by decide) ?_ ?_
    · refine jr_iconst (v := 0) hz d_ST_isValid_73 (by decide) ?_
      exact jr_zret hz hr hlk (by decide) d_ST_isValid_74
    · refine jr_aload_n hz d_ST_isValid_42 rfl 0 rfl ?_
      refine jr_getr (j := 0) (t := 8) hz lq_7 ly_7 rfl wf_ST_9 d_ST_isValid_43 ?_
      refine jr_iload hz d_ST_isValid_46 3 rfl ?_
      refine jr_iald (n := 8) hz lq_8 ly_8 d_ST_isValid_48 ?_
      refine jr_iload_n hz d_ST_isValid_49 rfl 1 rfl ?_
      refine jr_icmp_ne (tgt := 67) hz d_ST_isValid_50 (by decide) ?_ ?_
      · refine jr_iinc (lf := [(0, .ref (G.1 7)), (3, .int a3), (4, .int a4)]) (w := 1) hz d_ST_isValid_67 3 rfl (by decide) (by decide) rfl (fun v24 => ?_)
        refine jr_goto (tgt := 33) hz d_ST_isValid_70 (by decide) ?_
        refine jr_sub (ls' := [(0, .ref (G.1 7)), (3, .int a3), (4, .int a4), (5, .int v24)]) [1, 2, 3, 0] rfl ?_
        exact ih a3 a4 v24 X
      · refine jr_aload_n hz d_ST_isValid_53 rfl 0 rfl ?_
        refine jr_getr (j := 1) (t := 9) hz lq_7 ly_7 rfl wf_ST_13 d_ST_isValid_54 ?_
        refine jr_iload hz d_ST_isValid_57 3 rfl ?_
        refine jr_iald (n := 8) hz lq_9 ly_9 d_ST_isValid_59 ?_
        refine jr_iload hz d_ST_isValid_60 2 rfl ?_
        refine jr_icmp_ne (tgt := 67) hz d_ST_isValid_62 (by decide) ?_ ?_
        · refine jr_iinc (lf := [(0, .ref (G.1 7)), (3, .int a3), (4, .int a4)]) (w := 1) hz d_ST_isValid_67 3 rfl (by decide) (by decide) rfl (fun v25 => ?_)
          refine jr_goto (tgt := 33) hz d_ST_isValid_70 (by decide) ?_
          refine jr_sub (ls' := [(0, .ref (G.1 7)), (3, .int a3), (4, .int a4), (5, .int v25)]) [1, 2, 3, 0] rfl ?_
          exact ih a3 a4 v25 X
        · refine jr_iconst (v := 1) hz d_ST_isValid_65 (by decide) ?_
          exact jr_zret hz hr hlk (by decide) d_ST_isValid_66
def fx_ST_isValid (o1 : Nat) (o2 : Nat) (X : xh_T) : Option (Int32 × xh_T) :=
  xh_k (sp_bs o1) (
  xh_k (sp_bs o2) (
  xh_b (fx_BS_isWellFormedSignature o1 X) (fun (r2 : Int32) (X1 : xh_T) =>
  if r2 = 0 then
  some (0, X1)
  else xh_b (fx_BS_size o1 X1) (fun (r5 : Int32) (X2 : xh_T) =>
  xh_b (fx_BS_hash o1 0 r5 X2) (fun (r9 : Int32) (X3 : xh_T) =>
  xh_n r9 (fun v13 : Int32 =>
  xh_b (fx_BS_size o2 X3) (fun (r14 : Int32) (X4 : xh_T) =>
  xh_b (fx_BS_hash o2 0 r14 X4) (fun (r18 : Int32) (X5 : xh_T) =>
  xh_n r18 (fun v22 : Int32 =>
  xh_n 0 (fun v23 : Int32 =>
  fx_ST_isValid_b33 o1 o2 sp_fuel v13 v22 v23 X5))))))))))
set_option maxRecDepth 100000 in
set_option maxHeartbeats 4000000 in
theorem cx_ST_isValid (l : Launch) (D : va_G) (G : xh_G) (hD : xh_D G) (o1 : Nat) (o2 : Nat) (X : xh_T) : xh_M xh_Qi l D G y_ST_isValid b_ST_isValid 6 (some .boolean) rm_ST_isValid [.ref (G.1 7), .ref (G.1 o1), .ref (G.1 o2)] X (fx_ST_isValid o1 o2 X) := by
  refine xh_enter (ls := [(0, .ref (G.1 7)), (1, .ref (G.1 o1)), (2, .ref (G.1 o2))]) hD (by decide +kernel) (Nat.le_of_ble_eq_true rfl) rfl ?_
  intro p e s m args below meth c hz hr hlk
  unfold fx_ST_isValid
  refine jr_k (fun ho1 => ?_)
  refine jr_k (fun ho2 => ?_)
  refine jr_aload_n hz d_ST_isValid_0 rfl 1 rfl ?_
  refine jr_callVi (As := []) (a := o1) (ci := 0) (st := []) hz (cx_BS_isWellFormedSignature l D G hz.2.2.2.2.2.2.1 o1 X) (fun z h => sp_bs_v (xh_k_t h)) wv_ST_20 ⟨rfl, rfl, Nat.le_of_ble_eq_true rfl, Nat.le_of_ble_eq_true rfl⟩ ⟨Nat.zero_le _, Nat.zero_le _⟩ rfl rfl (Nat.le_of_ble_eq_true rfl) d_ST_isValid_1 (fun r2 X1 => ?_)
  refine jr_if_ne (tgt := 9) hz d_ST_isValid_4 (by decide) ?_ ?_
  · refine jr_aload_n hz d_ST_isValid_9 rfl 1 rfl ?_
    refine jr_iconst (v := 0) hz d_ST_isValid_10 (by decide) ?_
    refine jr_aload_n hz d_ST_isValid_11 rfl 1 rfl ?_
    refine jr_callVi (As := []) (a := o1) (ci := 0) (st := [.int 0, .ref (G.1 o1)]) hz (cx_BS_size l D G hz.2.2.2.2.2.2.1 o1 X1) (fun z h => sp_bs_v (xh_k_t h)) wv_ST_26 ⟨rfl, rfl, Nat.le_of_ble_eq_true rfl, Nat.le_of_ble_eq_true rfl⟩ ⟨Nat.zero_le _, Nat.zero_le _⟩ rfl rfl (Nat.le_of_ble_eq_true rfl) d_ST_isValid_12 (fun r5 X2 => ?_)
    refine jr_callVi (As := [.int 0, .int r5]) (a := o1) (ci := 0) (st := []) hz (cx_BS_hash l D G hz.2.2.2.2.2.2.1 o1 0 r5 X2) (fun z h => sp_bs_v (xh_k_t h)) wv_ST_30 ⟨rfl, rfl, Nat.le_of_ble_eq_true rfl, Nat.le_of_ble_eq_true rfl⟩ ⟨Nat.zero_le _, Nat.zero_le _⟩ rfl rfl (Nat.le_of_ble_eq_true rfl) d_ST_isValid_15 (fun r9 X3 => ?_)
    refine jr_istore_n (lf := [(0, .ref (G.1 7)), (1, .ref (G.1 o1)), (2, .ref (G.1 o2))]) hz d_ST_isValid_18 rfl (by decide) rfl (fun v13 => ?_)
    refine jr_aload_n hz d_ST_isValid_19 rfl 3 rfl ?_
    refine jr_iconst (v := 0) hz d_ST_isValid_20 (by decide) ?_
    refine jr_aload_n hz d_ST_isValid_21 rfl 3 rfl ?_
    refine jr_callVi (As := []) (a := o2) (ci := 0) (st := [.int 0, .ref (G.1 o2)]) hz (cx_BS_size l D G hz.2.2.2.2.2.2.1 o2 X3) (fun z h => sp_bs_v (xh_k_t h)) wv_ST_26 ⟨rfl, rfl, Nat.le_of_ble_eq_true rfl, Nat.le_of_ble_eq_true rfl⟩ ⟨Nat.zero_le _, Nat.zero_le _⟩ rfl rfl (Nat.le_of_ble_eq_true rfl) d_ST_isValid_22 (fun r14 X4 => ?_)
    refine jr_callVi (As := [.int 0, .int r14]) (a := o2) (ci := 0) (st := []) hz (cx_BS_hash l D G hz.2.2.2.2.2.2.1 o2 0 r14 X4) (fun z h => sp_bs_v (xh_k_t h)) wv_ST_30 ⟨rfl, rfl, Nat.le_of_ble_eq_true rfl, Nat.le_of_ble_eq_true rfl⟩ ⟨Nat.zero_le _, Nat.zero_le _⟩ rfl rfl (Nat.le_of_ble_eq_true rfl) d_ST_isValid_25 (fun r18 X5 => ?_)
    refine jr_istore (lf := [(3, .int v13), (0, .ref (G.1 7)), (1, .ref (G.1 o1)), (2, .ref (G.1 o2))]) hz d_ST_isValid_28 (by decide) rfl (fun v22 => ?_)
    refine jr_iconst (v := 0) hz d_ST_isValid_30 (by decide) ?_
    refine jr_istore (lf := [(4, .int v22), (3, .int v13), (0, .ref (G.1 7)), (1, .ref (G.1 o1)), (2, .ref (G.1 o2))]) hz d_ST_isValid_31 (by decide) rfl (fun v23 => ?_)
    refine jr_sub (ls' := [(0, .ref (G.1 7)), (3, .int v13), (4, .int v22), (5, .int v23)]) [3, 2, 1, 0] rfl ?_
    exact jb_ST_isValid_b33 hz hr hlk ho1 ho2 sp_fuel v13 v22 v23 X5
  · refine jr_iconst (v := 0) hz d_ST_isValid_7 (by decide) ?_
    exact jr_zret hz hr hlk (by decide) d_ST_isValid_8

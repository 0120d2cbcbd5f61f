/-! printed by wip/whole/gen_walks.py -/
theorem d_MD_calculate_0 : decode b_MD_calculate 0 = .ok (.iload_n 1, 1) := by decide +kernel
theorem d_MD_calculate_1 : decode b_MD_calculate 1 = .ok (.sipush 146, 3) := by decide +kernel
theorem d_MD_calculate_4 : decode b_MD_calculate 4 = .ok (.if_icmp .gt 7, 3) := by decide +kernel
theorem d_MD_calculate_7 : decode b_MD_calculate 7 = .ok (.iconst 1, 1) := by decide +kernel
theorem d_MD_calculate_8 : decode b_MD_calculate 8 = .ok (.goto 15, 3) := by decide +kernel
theorem d_MD_calculate_11 : decode b_MD_calculate 11 = .ok (.iload_n 1, 1) := by decide +kernel
theorem d_MD_calculate_12 : decode b_MD_calculate 12 = .ok (.sipush 165, 3) := by decide +kernel
theorem d_MD_calculate_15 : decode b_MD_calculate 15 = .ok (.if_icmp .ne 7, 3) := by decide +kernel
theorem d_MD_calculate_18 : decode b_MD_calculate 18 = .ok (.iconst 3, 1) := by decide +kernel
theorem d_MD_calculate_19 : decode b_MD_calculate 19 = .ok (.goto 4, 3) := by decide +kernel
theorem d_MD_calculate_22 : decode b_MD_calculate 22 = .ok (.iconst 2, 1) := by decide +kernel
theorem d_MD_calculate_23 : decode b_MD_calculate 23 = .ok (.istore_n 2, 1) := by decide +kernel
theorem d_MD_calculate_24 : decode b_MD_calculate 24 = .ok (.iconst 0, 1) := by decide +kernel
theorem d_MD_calculate_25 : decode b_MD_calculate 25 = .ok (.istore_n 3, 1) := by decide +kernel
theorem d_MD_calculate_26 : decode b_MD_calculate 26 = .ok (.iload_n 3, 1) := by decide +kernel
theorem d_MD_calculate_27 : decode b_MD_calculate 27 = .ok (.iload_n 2, 1) := by decide +kernel
theorem d_MD_calculate_28 : decode b_MD_calculate 28 = .ok (.if_icmp .ge 24, 3) := by decide +kernel
theorem d_MD_calculate_31 : decode b_MD_calculate 31 = .ok (.aload_n 0, 1) := by decide +kernel
theorem d_MD_calculate_32 : decode b_MD_calculate 32 = .ok (.iload_n 3, 1) := by decide +kernel
theorem d_MD_calculate_33 : decode b_MD_calculate 33 = .ok (.invokevirtual 157, 3) := by decide +kernel
theorem d_MD_calculate_36 : decode b_MD_calculate 36 = .ok (.istore 4, 2) := by decide +kernel
theorem d_MD_calculate_38 : decode b_MD_calculate 38 = .ok (.iload 4, 2) := by decide +kernel
theorem d_MD_calculate_40 : decode b_MD_calculate 40 = .ok (.ifCond .le 6, 3) := by decide +kernel
theorem d_MD_calculate_43 : decode b_MD_calculate 43 = .ok (.iload 4, 2) := by decide +kernel
theorem d_MD_calculate_45 : decode b_MD_calculate 45 = .ok (.ireturn, 1) := by decide +kernel
theorem d_MD_calculate_46 : decode b_MD_calculate 46 = .ok (.iinc 3 1, 3) := by decide +kernel
theorem d_MD_calculate_49 : decode b_MD_calculate 49 = .ok (.goto (-23), 3) := by decide +kernel
theorem d_MD_calculate_52 : decode b_MD_calculate 52 = .ok (.aload_n 0, 1) := by decide +kernel
theorem d_MD_calculate_53 : decode b_MD_calculate 53 = .ok (.getfield 35, 3) := by decide +kernel
theorem d_MD_calculate_56 : decode b_MD_calculate 56 = .ok (.iconst 0, 1) := by decide +kernel
theorem d_MD_calculate_57 : decode b_MD_calculate 57 = .ok (.laload, 1) := by decide +kernel
theorem d_MD_calculate_58 : decode b_MD_calculate 58 = .ok (.lstore_n 3, 1) := by decide +kernel
theorem d_MD_calculate_59 : decode b_MD_calculate 59 = .ok (.aload_n 0, 1) := by decide +kernel
theorem d_MD_calculate_60 : decode b_MD_calculate 60 = .ok (.getfield 35, 3) := by decide +kernel
theorem d_MD_calculate_63 : decode b_MD_calculate 63 = .ok (.iconst 1, 1) := by decide +kernel
theorem d_MD_calculate_64 : decode b_MD_calculate 64 = .ok (.laload, 1) := by decide +kernel
theorem d_MD_calculate_65 : decode b_MD_calculate 65 = .ok (.lstore 5, 2) := by decide +kernel
theorem d_MD_calculate_67 : decode b_MD_calculate 67 = .ok (.iload_n 1, 1) := by decide +kernel
theorem d_MD_calculate_68 : decode b_MD_calculate 68 = .ok (.sipush 157, 3) := by decide +kernel
theorem d_MD_calculate_71 : decode b_MD_calculate 71 = .ok (.if_icmp .ne 13, 3) := by decide +kernel
theorem d_MD_calculate_74 : decode b_MD_calculate 74 = .ok (.lload_n 3, 1) := by decide +kernel
theorem d_MD_calculate_75 : decode b_MD_calculate 75 = .ok (.lload 5, 2) := by decide +kernel
theorem d_MD_calculate_77 : decode b_MD_calculate 77 = .ok (.lcmp, 1) := by decide +kernel
theorem d_MD_calculate_78 : decode b_MD_calculate 78 = .ok (.ifCond .eq 6, 3) := by decide +kernel
theorem d_MD_calculate_81 : decode b_MD_calculate 81 = .ok (.bipush 9, 2) := by decide +kernel
theorem d_MD_calculate_83 : decode b_MD_calculate 83 = .ok (.ireturn, 1) := by decide +kernel
theorem d_MD_calculate_84 : decode b_MD_calculate 84 = .ok (.aload_n 0, 1) := by decide +kernel
theorem d_MD_calculate_85 : decode b_MD_calculate 85 = .ok (.iload_n 2, 1) := by decide +kernel
theorem d_MD_calculate_86 : decode b_MD_calculate 86 = .ok (.invokevirtual 138, 3) := by decide +kernel
theorem d_MD_calculate_89 : decode b_MD_calculate 89 = .ok (.iload_n 1, 1) := by decide +kernel
theorem d_MD_calculate_90 : decode b_MD_calculate 90 = .ok (.sipush 157, 3) := by decide +kernel
theorem d_MD_calculate_93 : decode b_MD_calculate 93 = .ok (.if_icmp .eq 20, 3) := by decide +kernel
theorem d_MD_calculate_96 : decode b_MD_calculate 96 = .ok (.aload_n 0, 1) := by decide +kernel
theorem d_MD_calculate_97 : decode b_MD_calculate 97 = .ok (.iload_n 1, 1) := by decide +kernel
theorem d_MD_calculate_98 : decode b_MD_calculate 98 = .ok (.lload_n 3, 1) := by decide +kernel
theorem d_MD_calculate_99 : decode b_MD_calculate 99 = .ok (.lload 5, 2) := by decide +kernel
theorem d_MD_calculate_101 : decode b_MD_calculate 101 = .ok (.aload_n 0, 1) := by decide +kernel
theorem d_MD_calculate_102 : decode b_MD_calculate 102 = .ok (.getfield 35, 3) := by decide +kernel
theorem d_MD_calculate_105 : decode b_MD_calculate 105 = .ok (.iconst 2, 1) := by decide +kernel
theorem d_MD_calculate_106 : decode b_MD_calculate 106 = .ok (.laload, 1) := by decide +kernel
theorem d_MD_calculate_107 : decode b_MD_calculate 107 = .ok (.invokestatic 173, 3) := by decide +kernel
theorem d_MD_calculate_110 : decode b_MD_calculate 110 = .ok (.invokevirtual 112, 3) := by decide +kernel
theorem d_MD_calculate_113 : decode b_MD_calculate 113 = .ok (.iconst 0, 1) := by decide +kernel
theorem d_MD_calculate_114 : decode b_MD_calculate 114 = .ok (.ireturn, 1) := by decide +kernel
theorem wv_MD_157 : xh_V "SpendScriptModel" 157 7 y_MD_take b_MD_take 2 (some .int) 1 := ⟨(sp_tb (List.mem_of_getElem? (i := 682) (by decide +kernel))), (sp_tb (List.mem_of_getElem? (i := 8) (by decide +kernel))), (sp_tb (List.mem_of_getElem? (i := 679) (by decide +kernel))), ⟨by decide +kernel, by decide +kernel, by decide +kernel⟩, (sp_tb (List.mem_of_getElem? (i := 681) (by decide +kernel))), (sp_pv (q := (y_MD_take, 19)) (List.mem_of_getElem? (i := 36) (by decide +kernel))), F_MD, 19, rfl⟩
theorem ws_MD_173 : xh_S "SpendScriptModel" 173 y_MD_value b_MD_value 8 (some .long) 4 := ⟨(sp_tb (List.mem_of_getElem? (i := 690) (by decide +kernel))), (sp_tb (List.mem_of_getElem? (i := 8) (by decide +kernel))), (sp_tb (List.mem_of_getElem? (i := 688) (by decide +kernel))), ⟨by decide +kernel, by decide +kernel, by decide +kernel⟩, (sp_tb (List.mem_of_getElem? (i := 689) (by decide +kernel)))⟩
abbrev rm_MD_calculate : Room := { frames := 4, cells := 0, slots := 0, locals := 90 }
def fx_MD_calculate_b84 (a1 : Int32) (a2 : Int32) (a3 : Int64) (a5 : Int64) (X : xh_T) : Option (Int32 × xh_T) :=
  xh_b (fx_MD_pop a2 X) (fun (_ : Unit) (X2 : xh_T) =>
  if a1 = 157 then
  some (0, X2)
  else xh_o 2 3 (xh_b (fx_MD_value a1 a3 a5 (X2.2.2 215 (2 : Int32).toNatClampNeg) X2) (fun (r17 : Int64) (X3 : xh_T) =>
  xh_b (fx_MD_pushNumber r17 X3) (fun (_ : Unit) (X4 : xh_T) =>
  some (0, X4)))))
set_option maxRecDepth 100000 in
set_option maxHeartbeats 4000000 in
theorem jb_MD_calculate_b84 {p : Program} {l : Launch} {e : Env} {s : State} {m : MethodId} {args : Array Value} {below : List Frame} {meth : Method} {c : Code} {D : va_G} {G : xh_G} (hz : xh_C p s m args c b_MD_calculate 7 "SpendScriptModel" D G (xh_A G s.heap.size)) (hr : meth.sig.returnType = (some .int)) (hlk : meth.locks = false) (a1 : Int32) (a2 : Int32) (a3 : Int64) (a5 : Int64) (X : xh_T) : xh_J p l e rm_MD_calculate s m args below meth c 0 0 D G (xh_A G s.heap.size) 7 (fun r X' => MQ below (xh_Qi D G (xh_A G s.heap.size) r X') args s 0 0 (xh_A G s.heap.size)) 84 [(0, .ref (G.1 206)), (1, .int a1), (2, .int a2), (3, .long a3), (5, .long a5)] [] X (fx_MD_calculate_b84 a1 a2 a3 a5 X) := by
  unfold fx_MD_calculate_b84
  refine jr_aload_n hz d_MD_calculate_84 rfl 0 rfl ?_
  refine jr_iload_n hz d_MD_calculate_85 rfl 2 rfl ?_
  refine jr_callVv (As := [.int a2]) (a := 206) (ci := 7) (st := []) hz (cx_MD_pop l D G hz.2.2.2.2.2.2.1 a2 X) (fun _ _ => ⟨lq_206, _, ly_206⟩) wv_MD_138 ⟨rfl, rfl, Nat.le_of_ble_eq_true rfl, Nat.le_of_ble_eq_true rfl⟩ ⟨Nat.zero_le _, Nat.zero_le _⟩ rfl rfl (Nat.le_of_ble_eq_true rfl) d_MD_calculate_86 (fun _ X2 => ?_)
  refine jr_iload_n hz d_MD_calculate_89 rfl 1 rfl ?_
  refine jr_sipush (v := 157) hz d_MD_calculate_90 (by decide) ?_
  refine jr_icmp_eq (tgt := 113) hz d_MD_calculate_93 (by decide) ?_ ?_
  · refine jr_iconst (v := 0) hz d_MD_calculate_113 (by decide) ?_
    exact jr_iret hz hr hlk d_MD_calculate_114
  · refine jr_aload_n hz d_MD_calculate_96 rfl 0 rfl ?_
    refine jr_iload_n hz d_MD_calculate_97 rfl 1 rfl ?_
    refine jr_lload_n hz d_MD_calculate_98 rfl 3 rfl ?_
    refine jr_lload hz d_MD_calculate_99 4 rfl ?_
    refine jr_aload_n hz d_MD_calculate_101 rfl 0 rfl ?_
    refine jr_getr (j := 18) (t := 215) hz lq_206 ly_206 rfl wf_MD_35 d_MD_calculate_102 ?_
    refine jr_iconst (v := 2) hz d_MD_calculate_105 (by decide) ?_
    refine jr_lald (n := 3) hz lq_215 ly_215 d_MD_calculate_106 ?_
    refine jr_callSl (As := [.int a1, .long a3, .long a5, .long (X2.2.2 215 (2 : Int32).toNatClampNeg)]) (st := [.ref (G.1 206)]) hz (cx_MD_value l D G hz.2.2.2.2.2.2.1 a1 a3 a5 (X2.2.2 215 (2 : Int32).toNatClampNeg) X2) ws_MD_173 ⟨rfl, rfl, Nat.le_of_ble_eq_true rfl, Nat.le_of_ble_eq_true rfl⟩ ⟨Nat.zero_le _, Nat.zero_le _⟩ rfl rfl (Nat.le_of_ble_eq_true rfl) d_MD_calculate_107 (fun r17 X3 => ?_)
    refine jr_callVv (As := [.long r17]) (a := 206) (ci := 7) (st := []) hz (cx_MD_pushNumber l D G hz.2.2.2.2.2.2.1 r17 X3) (fun _ _ => ⟨lq_206, _, ly_206⟩) wv_MD_112 ⟨rfl, rfl, Nat.le_of_ble_eq_true rfl, Nat.le_of_ble_eq_true rfl⟩ ⟨Nat.zero_le _, Nat.zero_le _⟩ rfl rfl (Nat.le_of_ble_eq_true rfl) d_MD_calculate_110 (fun _ X4 => ?_)
    refine jr_iconst (v := 0) hz d_MD_calculate_113 (by decide) ?_
    exact jr_iret hz hr hlk d_MD_calculate_114
def fx_MD_calculate_b26 : Nat → Int32 → Int32 → Int32 → xh_T → Option (Int32 × xh_T)
  | 0, _, _, _, _ => none
  | n + 1, a1, a2, a3, X => if a2 ≤ a3 then
  xh_o 0 3 (xh_n (X.2.2 215 (0 : Int32).toNatClampNeg) (fun v3 : Int64 =>
  xh_o 1 3 (xh_n (X.2.2 215 (1 : Int32).toNatClampNeg) (fun v4 : Int64 =>
  if a1 = 157 then
  if (lg_cmp v3 v4) = 0 then
  fx_MD_calculate_b84 a1 a2 v3 v4 X
  else some (9, X)
  else fx_MD_calculate_b84 a1 a2 v3 v4 X))))
  else xh_b (fx_MD_take a3 X) (fun (r5 : Int32) (X1 : xh_T) =>
  xh_n r5 (fun v9 : Int32 =>
  if v9 ≤ 0 then
  xh_n (a3 + 1) (fun v10 : Int32 =>
  fx_MD_calculate_b26 n a1 a2 v10 X1)
  else some (v9, X1)))
set_option maxRecDepth 100000 in
set_option maxHeartbeats 4000000 in
theorem jb_MD_calculate_b26 {p : Program} {l : Launch} {e : Env} {s : State} {m : MethodId} {args : Array Value} {below : List Frame} {meth : Method} {c : Code} {D : va_G} {G : xh_G} (hz : xh_C p s m args c b_MD_calculate 7 "SpendScriptModel" D G (xh_A G s.heap.size)) (hr : meth.sig.returnType = (some .int)) (hlk : meth.locks = false) : ∀ (n : Nat) (a1 : Int32) (a2 : Int32) (a3 : Int32) (X : xh_T), xh_J p l e rm_MD_calculate s m args below meth c 0 0 D G (xh_A G s.heap.size) 7 (fun r X' => MQ below (xh_Qi D G (xh_A G s.heap.size) r X') args s 0 0 (xh_A G s.heap.size)) 26 [(0, .ref (G.1 206)), (1, .int a1), (2, .int a2), (3, .int a3)] [] X (fx_MD_calculate_b26 n a1 a2 a3 X) := by
  intro n
  induction n with
  | zero => intro a1 a2 a3 X; exact jr_none
  | succ n ih =>
    intro a1 a2 a3 X
    rw [fx_MD_calculate_b26]
    refine jr_iload_n hz d_MD_calculate_26 rfl 3 rfl ?_
    refine jr_iload_n hz d_MD_calculate_27 rfl 2 rfl ?_
    refine jr_icmp_ge (tgt := 52) hz d_MD_calculate_28 (by decide) ?_ ?_
    · refine jr_aload_n hz d_MD_calculate_52 rfl 0 rfl ?_
      refine jr_getr (j := 18) (t := 215) hz lq_206 ly_206 rfl wf_MD_35 d_MD_calculate_53 ?_
      refine jr_iconst (v := 0) hz d_MD_calculate_56 (by decide) ?_
      refine jr_lald (n := 3) hz lq_215 ly_215 d_MD_calculate_57 ?_
      refine jr_lstore_n (lf := [(0, .ref (G.1 206)), (1, .int a1), (2, .int a2)]) hz d_MD_calculate_58 rfl (by decide) rfl (fun v3 => ?_)
      refine jr_aload_n hz d_MD_calculate_59 rfl 1 rfl ?_
      refine jr_getr (j := 18) (t := 215) hz lq_206 ly_206 rfl wf_MD_35 d_MD_calculate_60 ?_
      refine jr_iconst (v := 1) hz d_MD_calculate_63 (by decide) ?_
      refine jr_lald (n := 3) hz lq_215 ly_215 d_MD_calculate_64 ?_
      refine jr_lstore (lf := [(3, .long v3), (0, .ref (G.1 206)), (1, .int a1), (2, .int a2)]) hz d_MD_calculate_65 (by decide) rfl (fun v4 => ?_)
      refine jr_iload_n hz d_MD_calculate_67 rfl 3 rfl ?_
      refine jr_sipush (v := 157) hz d_MD_calculate_68 (by decide) ?_
      refine jr_icmp_ne (tgt := 84) hz d_MD_calculate_71 (by decide) ?_ ?_
      · refine jr_sub (ls' := [(0, .ref (G.1 206)), (1, .int a1), (2, .int a2), (3, .long v3), (5, .long v4)]) [2, 3, 4, 1, 0] rfl ?_
        exact jb_MD_calculate_b84 hz hr hlk a1 a2 v3 v4 X
      · refine jr_lload_n hz d_MD_calculate_74 rfl 1 rfl ?_
        refine jr_lload hz d_MD_calculate_75 0 rfl ?_
        refine jr_lcmp hz d_MD_calculate_77 ?_
        refine jr_if_eq (tgt := 84) hz d_MD_calculate_78 (by decide) ?_ ?_
        · refine jr_sub (ls' := [(0, .ref (G.1 206)), (1, .int a1), (2, .int a2), (3, .long v3), (5, .long v4)]) [2, 3, 4, 1, 0] rfl ?_
          exact jb_MD_calculate_b84 hz hr hlk a1 a2 v3 v4 X
        · refine jr_bipush (v := 9) hz d_MD_calculate_81 (by decide) ?_
          exact jr_iret hz hr hlk d_MD_calculate_83
    · refine jr_aload_n hz d_MD_calculate_31 rfl 0 rfl ?_
      refine jr_iload_n hz d_MD_calculate_32 rfl 3 rfl ?_
      refine jr_callVi (As := [.int a3]) (a := 206) (ci := 7) (st := []) hz (cx_MD_take l D G hz.2.2.2.2.2.2.1 a3 X) (fun _ _ => ⟨lq_206, _, ly_206⟩) wv_MD_157 ⟨rfl, rfl, Nat.le_of_ble_eq_true rfl, Nat.le_of_ble_eq_true rfl⟩ ⟨Nat.zero_le _, Nat.zero_le _⟩ rfl rfl (Nat.le_of_ble_eq_true rfl) d_MD_calculate_33 (fun r5 X1 => ?_)
      refine jr_istore (lf := [(0, .ref (G.1 206)), (1, .int a1), (2, .int a2), (3, .int a3)]) hz d_MD_calculate_36 (by decide) rfl (fun v9 => ?_)
      refine jr_iload hz d_MD_calculate_38 0 rfl ?_
      refine jr_if_le (tgt := 46) hz d_MD_calculate_40 (by decide) ?_ ?_
      · refine jr_iinc (lf := [(4, .int v9), (0, .ref (G.1 206)), (1, .int a1), (2, .int a2)]) (w := 1) hz d_MD_calculate_46 4 rfl (by decide) (by decide) rfl (fun v10 => ?_)
        refine jr_goto (tgt := 26) hz d_MD_calculate_49 (by decide) ?_
        refine jr_sub (ls' := [(0, .ref (G.1 206)), (1, .int a1), (2, .int a2), (3, .int v10)]) [2, 3, 4, 0] rfl ?_
        exact ih a1 a2 v10 X1
      · refine jr_iload hz d_MD_calculate_43 0 rfl ?_
        exact jr_iret hz hr hlk d_MD_calculate_45
def fx_MD_calculate_b23 (a1 : Int32) (s0 : Int32) (X : xh_T) : Option (Int32 × xh_T) :=
  xh_n s0 (fun v1 : Int32 =>
  xh_n 0 (fun v2 : Int32 =>
  fx_MD_calculate_b26 sp_fuel a1 v1 v2 X))
set_option maxRecDepth 100000 in
set_option maxHeartbeats 4000000 in
theorem jb_MD_calculate_b23 {p : Program} {l : Launch} {e : Env} {s : State} {m : MethodId} {args : Array Value} {below : List Frame} {meth : Method} {c : Code} {D : va_G} {G : xh_G} (hz : xh_C p s m args c b_MD_calculate 7 "SpendScriptModel" D G (xh_A G s.heap.size)) (hr : meth.sig.returnType = (some .int)) (hlk : meth.locks = false) (a1 : Int32) (s0 : Int32) (X : xh_T) : xh_J p l e rm_MD_calculate s m args below meth c 0 0 D G (xh_A G s.heap.size) 7 (fun r X' => MQ below (xh_Qi D G (xh_A G s.heap.size) r X') args s 0 0 (xh_A G s.heap.size)) 23 [(0, .ref (G.1 206)), (1, .int a1)] [.int s0] X (fx_MD_calculate_b23 a1 s0 X) := by
  unfold fx_MD_calculate_b23
  refine jr_istore_n (lf := [(0, .ref (G.1 206)), (1, .int a1)]) hz d_MD_calculate_23 rfl (by decide) rfl (fun v1 => ?_)
  refine jr_iconst (v := 0) hz d_MD_calculate_24 (by decide) ?_
  refine jr_istore_n (lf := [(2, .int v1), (0, .ref (G.1 206)), (1, .int a1)]) hz d_MD_calculate_25 rfl (by decide) rfl (fun v2 => ?_)
  refine jr_sub (ls' := [(0, .ref (G.1 206)), (1, .int a1), (2, .int v1), (3, .int v2)]) [2, 3, 1, 0] rfl ?_
  exact jb_MD_calculate_b26 hz hr hlk sp_fuel a1 v1 v2 X
def fx_MD_calculate (p1 : Int32) (X : xh_T) : Option (Int32 × xh_T) :=
  if 146 < p1 then
  if p1 = 165 then
  fx_MD_calculate_b23 p1 3 X
  else fx_MD_calculate_b23 p1 2 X
  else fx_MD_calculate_b23 p1 1 X
set_option maxRecDepth 100000 in
set_option maxHeartbeats 4000000 in
theorem cx_MD_calculate (l : Launch) (D : va_G) (G : xh_G) (hD : xh_D G) (p1 : Int32) (X : xh_T) : xh_M xh_Qi l D G y_MD_calculate b_MD_calculate 7 (some .int) rm_MD_calculate [.ref (G.1 206), .int p1] X (fx_MD_calculate p1 X) := by
  refine xh_enter (ls := [(0, .ref (G.1 206)), (1, .int p1)]) hD (by decide +kernel) (Nat.le_of_ble_eq_true rfl) rfl ?_
  intro p e s m args below meth c hz hr hlk
  unfold fx_MD_calculate
  refine jr_iload_n hz d_MD_calculate_0 rfl 1 rfl ?_
  refine jr_sipush (v := 146) hz d_MD_calculate_1 (by decide) ?_
  refine jr_icmp_gt (tgt := 11) hz d_MD_calculate_4 (by decide) ?_ ?_
  · refine jr_iload_n hz d_MD_calculate_11 rfl 1 rfl ?_
    refine jr_sipush (v := 165) hz d_MD_calculate_12 (by decide) ?_
    refine jr_icmp_ne (tgt := 22) hz d_MD_calculate_15 (by decide) ?_ ?_
    · refine jr_iconst (v := 2) hz d_MD_calculate_22 (by decide) ?_
      refine jr_sub (ls' := [(0, .ref (G.1 206)), (1, .int p1)]) [0, 1] rfl ?_
      exact jb_MD_calculate_b23 hz hr hlk p1 2 X
    · refine jr_iconst (v := 3) hz d_MD_calculate_18 (by decide) ?_
      refine jr_goto (tgt := 23) hz d_MD_calculate_19 (by decide) ?_
      refine jr_sub (ls' := [(0, .ref (G.1 206)), (1, .int p1)]) [0, 1] rfl ?_
      exact jb_MD_calculate_b23 hz hr hlk p1 3 X
  · refine jr_iconst (v := 1) hz d_MD_calculate_7 (by decide) ?_
    refine jr_goto (tgt := 23) hz d_MD_calculate_8 (by decide) ?_
    refine jr_sub (ls' := [(0, .ref (G.1 206)), (1, .int p1)]) [0, 1] rfl ?_
    exact jb_MD_calculate_b23 hz hr hlk p1 1 X
theorem d_MD_many_0 : decode b_MD_many 0 = .ok (.aload_n 0, 1) := by decide +kernel
theorem d_MD_many_1 : decode b_MD_many 1 = .ok (.iconst 0, 1) := by decide +kernel
theorem d_MD_many_2 : decode b_MD_many 2 = .ok (.invokevirtual 157, 3) := by decide +kernel
theorem d_MD_many_5 : decode b_MD_many 5 = .ok (.istore_n 1, 1) := by decide +kernel
theorem d_MD_many_6 : decode b_MD_many 6 = .ok (.iload_n 1, 1) := by decide +kernel
theorem d_MD_many_7 : decode b_MD_many 7 = .ok (.ifCond .le 5, 3) := by decide +kernel
theorem d_MD_many_10 : decode b_MD_many 10 = .ok (.iload_n 1, 1) := by decide +kernel
theorem d_MD_many_11 : decode b_MD_many 11 = .ok (.ireturn, 1) := by decide +kernel
theorem d_MD_many_12 : decode b_MD_many 12 = .ok (.aload_n 0, 1) := by decide +kernel
theorem d_MD_many_13 : decode b_MD_many 13 = .ok (.getfield 35, 3) := by decide +kernel
theorem d_MD_many_16 : decode b_MD_many 16 = .ok (.iconst 0, 1) := by decide +kernel
theorem d_MD_many_17 : decode b_MD_many 17 = .ok (.laload, 1) := by decide +kernel
theorem d_MD_many_18 : decode b_MD_many 18 = .ok (.lconst 0, 1) := by decide +kernel
theorem d_MD_many_19 : decode b_MD_many 19 = .ok (.lcmp, 1) := by decide +kernel
theorem d_MD_many_20 : decode b_MD_many 20 = .ok (.ifCond .lt 16, 3) := by decide +kernel
theorem d_MD_many_23 : decode b_MD_many 23 = .ok (.aload_n 0, 1) := by decide +kernel
theorem d_MD_many_24 : decode b_MD_many 24 = .ok (.getfield 35, 3) := by decide +kernel
theorem d_MD_many_27 : decode b_MD_many 27 = .ok (.iconst 0, 1) := by decide +kernel
theorem d_MD_many_28 : decode b_MD_many 28 = .ok (.laload, 1) := by decide +kernel
theorem d_MD_many_29 : decode b_MD_many 29 = .ok (.ldc2_w 171, 3) := by decide +kernel
theorem d_MD_many_32 : decode b_MD_many 32 = .ok (.lcmp, 1) := by decide +kernel
theorem d_MD_many_33 : decode b_MD_many 33 = .ok (.ifCond .le 6, 3) := by decide +kernel
theorem d_MD_many_36 : decode b_MD_many 36 = .ok (.bipush 13, 2) := by decide +kernel
theorem d_MD_many_38 : decode b_MD_many 38 = .ok (.ireturn, 1) := by decide +kernel
theorem d_MD_many_39 : decode b_MD_many 39 = .ok (.aload_n 0, 1) := by decide +kernel
theorem d_MD_many_40 : decode b_MD_many 40 = .ok (.getfield 35, 3) := by decide +kernel
theorem d_MD_many_43 : decode b_MD_many 43 = .ok (.iconst 0, 1) := by decide +kernel
theorem d_MD_many_44 : decode b_MD_many 44 = .ok (.laload, 1) := by decide +kernel
theorem d_MD_many_45 : decode b_MD_many 45 = .ok (.l2i, 1) := by decide +kernel
theorem d_MD_many_46 : decode b_MD_many 46 = .ok (.istore_n 2, 1) := by decide +kernel
theorem d_MD_many_47 : decode b_MD_many 47 = .ok (.aload_n 0, 1) := by decide +kernel
theorem d_MD_many_48 : decode b_MD_many 48 = .ok (.getfield 56, 3) := by decide +kernel
theorem d_MD_many_51 : decode b_MD_many 51 = .ok (.iconst 2, 1) := by decide +kernel
theorem d_MD_many_52 : decode b_MD_many 52 = .ok (.iload_n 2, 1) := by decide +kernel
theorem d_MD_many_53 : decode b_MD_many 53 = .ok (.iadd, 1) := by decide +kernel
theorem d_MD_many_54 : decode b_MD_many 54 = .ok (.if_icmp .ge 6, 3) := by decide +kernel
theorem d_MD_many_57 : decode b_MD_many 57 = .ok (.bipush 11, 2) := by decide +kernel
theorem d_MD_many_59 : decode b_MD_many 59 = .ok (.ireturn, 1) := by decide +kernel
theorem d_MD_many_60 : decode b_MD_many 60 = .ok (.aload_n 0, 1) := by decide +kernel
theorem d_MD_many_61 : decode b_MD_many 61 = .ok (.iconst 1, 1) := by decide +kernel
theorem d_MD_many_62 : decode b_MD_many 62 = .ok (.iload_n 2, 1) := by decide +kernel
theorem d_MD_many_63 : decode b_MD_many 63 = .ok (.iadd, 1) := by decide +kernel
theorem d_MD_many_64 : decode b_MD_many 64 = .ok (.iconst 0, 1) := by decide +kernel
theorem d_MD_many_65 : decode b_MD_many 65 = .ok (.invokevirtual 79, 3) := by decide +kernel
theorem d_MD_many_68 : decode b_MD_many 68 = .ok (.istore_n 1, 1) := by decide +kernel
theorem d_MD_many_69 : decode b_MD_many 69 = .ok (.iload_n 1, 1) := by decide +kernel
theorem d_MD_many_70 : decode b_MD_many 70 = .ok (.ifCond .le 5, 3) := by decide +kernel
theorem d_MD_many_73 : decode b_MD_many 73 = .ok (.iload_n 1, 1) := by decide +kernel
theorem d_MD_many_74 : decode b_MD_many 74 = .ok (.ireturn, 1) := by decide +kernel
theorem d_MD_many_75 : decode b_MD_many 75 = .ok (.aload_n 0, 1) := by decide +kernel
theorem d_MD_many_76 : decode b_MD_many 76 = .ok (.getfield 35, 3) := by decide +kernel
theorem d_MD_many_79 : decode b_MD_many 79 = .ok (.iconst 0, 1) := by decide +kernel
theorem d_MD_many_80 : decode b_MD_many 80 = .ok (.laload, 1) := by decide +kernel
theorem d_MD_many_81 : decode b_MD_many 81 = .ok (.lconst 0, 1) := by decide +kernel
theorem d_MD_many_82 : decode b_MD_many 82 = .ok (.lcmp, 1) := by decide +kernel
theorem d_MD_many_83 : decode b_MD_many 83 = .ok (.ifCond .lt 15, 3) := by decide +kernel
theorem d_MD_many_86 : decode b_MD_many 86 = .ok (.aload_n 0, 1) := by decide +kernel
theorem d_MD_many_87 : decode b_MD_many 87 = .ok (.getfield 35, 3) := by decide +kernel
theorem d_MD_many_90 : decode b_MD_many 90 = .ok (.iconst 0, 1) := by decide +kernel
theorem d_MD_many_91 : decode b_MD_many 91 = .ok (.laload, 1) := by decide +kernel
theorem d_MD_many_92 : decode b_MD_many 92 = .ok (.iload_n 2, 1) := by decide +kernel
theorem d_MD_many_93 : decode b_MD_many 93 = .ok (.i2l, 1) := by decide +kernel
theorem d_MD_many_94 : decode b_MD_many 94 = .ok (.lcmp, 1) := by decide +kernel
theorem d_MD_many_95 : decode b_MD_many 95 = .ok (.ifCond .le 6, 3) := by decide +kernel
theorem d_MD_many_98 : decode b_MD_many 98 = .ok (.bipush 13, 2) := by decide +kernel
theorem d_MD_many_100 : decode b_MD_many 100 = .ok (.ireturn, 1) := by decide +kernel
theorem d_MD_many_101 : decode b_MD_many 101 = .ok (.aload_n 0, 1) := by decide +kernel
theorem d_MD_many_102 : decode b_MD_many 102 = .ok (.getfield 35, 3) := by decide +kernel
theorem d_MD_many_105 : decode b_MD_many 105 = .ok (.iconst 0, 1) := by decide +kernel
theorem d_MD_many_106 : decode b_MD_many 106 = .ok (.laload, 1) := by decide +kernel
theorem d_MD_many_107 : decode b_MD_many 107 = .ok (.l2i, 1) := by decide +kernel
theorem d_MD_many_108 : decode b_MD_many 108 = .ok (.istore_n 3, 1) := by decide +kernel
theorem d_MD_many_109 : decode b_MD_many 109 = .ok (.aload_n 0, 1) := by decide +kernel
theorem d_MD_many_110 : decode b_MD_many 110 = .ok (.getfield 56, 3) := by decide +kernel
theorem d_MD_many_113 : decode b_MD_many 113 = .ok (.iconst 3, 1) := by decide +kernel
theorem d_MD_many_114 : decode b_MD_many 114 = .ok (.iload_n 2, 1) := by decide +kernel
theorem d_MD_many_115 : decode b_MD_many 115 = .ok (.iadd, 1) := by decide +kernel
theorem d_MD_many_116 : decode b_MD_many 116 = .ok (.iload_n 3, 1) := by decide +kernel
theorem d_MD_many_117 : decode b_MD_many 117 = .ok (.iadd, 1) := by decide +kernel
theorem d_MD_many_118 : decode b_MD_many 118 = .ok (.if_icmp .ge 6, 3) := by decide +kernel
theorem d_MD_many_121 : decode b_MD_many 121 = .ok (.bipush 11, 2) := by decide +kernel
theorem d_MD_many_123 : decode b_MD_many 123 = .ok (.ireturn, 1) := by decide +kernel
theorem d_MD_many_124 : decode b_MD_many 124 = .ok (.iconst 1, 1) := by decide +kernel
theorem d_MD_many_125 : decode b_MD_many 125 = .ok (.istore 4, 2) := by decide +kernel
theorem d_MD_many_127 : decode b_MD_many 127 = .ok (.iconst 1, 1) := by decide +kernel
theorem d_MD_many_128 : decode b_MD_many 128 = .ok (.istore 5, 2) := by decide +kernel
theorem d_MD_many_130 : decode b_MD_many 130 = .ok (.iconst 0, 1) := by decide +kernel
theorem d_MD_many_131 : decode b_MD_many 131 = .ok (.istore 6, 2) := by decide +kernel
theorem d_MD_many_133 : decode b_MD_many 133 = .ok (.iload 6, 2) := by decide +kernel
theorem d_MD_many_135 : decode b_MD_many 135 = .ok (.iload_n 3, 1) := by decide +kernel
theorem d_MD_many_136 : decode b_MD_many 136 = .ok (.if_icmp .ge 54, 3) := by decide +kernel
theorem d_MD_many_139 : decode b_MD_many 139 = .ok (.iload 4, 2) := by decide +kernel
theorem d_MD_many_141 : decode b_MD_many 141 = .ok (.iload_n 2, 1) := by decide +kernel
theorem d_MD_many_142 : decode b_MD_many 142 = .ok (.if_icmp .gt 27, 3) := by decide +kernel
theorem d_MD_many_145 : decode b_MD_many 145 = .ok (.aload_n 0, 1) := by decide +kernel
theorem d_MD_many_146 : decode b_MD_many 146 = .ok (.iconst 2, 1) := by decide +kernel
theorem d_MD_many_147 : decode b_MD_many 147 = .ok (.iload_n 2, 1) := by decide +kernel
theorem d_MD_many_148 : decode b_MD_many 148 = .ok (.iadd, 1) := by decide +kernel
theorem d_MD_many_149 : decode b_MD_many 149 = .ok (.iload 6, 2) := by decide +kernel
theorem d_MD_many_151 : decode b_MD_many 151 = .ok (.iadd, 1) := by decide +kernel
theorem d_MD_many_152 : decode b_MD_many 152 = .ok (.iload 4, 2) := by decide +kernel
theorem d_MD_many_154 : decode b_MD_many 154 = .ok (.invokevirtual 168, 3) := by decide +kernel
theorem d_MD_many_157 : decode b_MD_many 157 = .ok (.ifCond .ne 12, 3) := by decide +kernel
theorem d_MD_many_160 : decode b_MD_many 160 = .ok (.iload 4, 2) := by decide +kernel
theorem d_MD_many_162 : decode b_MD_many 162 = .ok (.iconst 1, 1) := by decide +kernel
theorem d_MD_many_163 : decode b_MD_many 163 = .ok (.iadd, 1) := by decide +kernel
theorem d_MD_many_164 : decode b_MD_many 164 = .ok (.istore 4, 2) := by decide +kernel
theorem d_MD_many_166 : decode b_MD_many 166 = .ok (.goto (-27), 3) := by decide +kernel
theorem d_MD_many_169 : decode b_MD_many 169 = .ok (.iload 4, 2) := by decide +kernel
theorem d_MD_many_171 : decode b_MD_many 171 = .ok (.iload_n 2, 1) := by decide +kernel
theorem d_MD_many_172 : decode b_MD_many 172 = .ok (.if_icmp .le 6, 3) := by decide +kernel
theorem d_MD_many_175 : decode b_MD_many 175 = .ok (.iconst 0, 1) := by decide +kernel
theorem d_MD_many_176 : decode b_MD_many 176 = .ok (.istore 5, 2) := by decide +kernel
theorem d_MD_many_178 : decode b_MD_many 178 = .ok (.iload 4, 2) := by decide +kernel
theorem d_MD_many_180 : decode b_MD_many 180 = .ok (.iconst 1, 1) := by decide +kernel
theorem d_MD_many_181 : decode b_MD_many 181 = .ok (.iadd, 1) := by decide +kernel
theorem d_MD_many_182 : decode b_MD_many 182 = .ok (.istore 4, 2) := by decide +kernel
theorem d_MD_many_184 : decode b_MD_many 184 = .ok (.iinc 6 1, 3) := by decide +kernel
theorem d_MD_many_187 : decode b_MD_many 187 = .ok (.goto (-54), 3) := by decide +kernel
theorem d_MD_many_190 : decode b_MD_many 190 = .ok (.aload_n 0, 1) := by decide +kernel
theorem d_MD_many_191 : decode b_MD_many 191 = .ok (.iconst 3, 1) := by decide +kernel
theorem d_MD_many_192 : decode b_MD_many 192 = .ok (.iload_n 2, 1) := by decide +kernel
theorem d_MD_many_193 : decode b_MD_many 193 = .ok (.iadd, 1) := by decide +kernel
theorem d_MD_many_194 : decode b_MD_many 194 = .ok (.iload_n 3, 1) := by decide +kernel
theorem d_MD_many_195 : decode b_MD_many 195 = .ok (.iadd, 1) := by decide +kernel
theorem d_MD_many_196 : decode b_MD_many 196 = .ok (.invokevirtual 138, 3) := by decide +kernel
theorem d_MD_many_199 : decode b_MD_many 199 = .ok (.aload_n 0, 1) := by decide +kernel
theorem d_MD_many_200 : decode b_MD_many 200 = .ok (.iload 5, 2) := by decide +kernel
theorem d_MD_many_202 : decode b_MD_many 202 = .ok (.ifCond .eq 7, 3) := by decide +kernel
theorem d_MD_many_205 : decode b_MD_many 205 = .ok (.lconst 1, 1) := by decide +kernel
theorem d_MD_many_206 : decode b_MD_many 206 = .ok (.goto 4, 3) := by decide +kernel
theorem d_MD_many_209 : decode b_MD_many 209 = .ok (.lconst 0, 1) := by decide +kernel
theorem d_MD_many_210 : decode b_MD_many 210 = .ok (.invokevirtual 112, 3) := by decide +kernel
theorem d_MD_many_213 : decode b_MD_many 213 = .ok (.iconst 0, 1) := by decide +kernel
theorem d_MD_many_214 : decode b_MD_many 214 = .ok (.ireturn, 1) := by decide +kernel
theorem wk_MD_171 : Cond.constantLong "SpendScriptModel" 171 4 ∈ sp_ws := (sp_tb (List.mem_of_getElem? (i := 699) (by decide +kernel)))
theorem wv_MD_168 : xh_V "SpendScriptModel" 168 7 y_MD_valid b_MD_valid 4 (some .boolean) 2 := ⟨(sp_tb (List.mem_of_getElem? (i := 703) (by decide +kernel))), (sp_tb (List.mem_of_getElem? (i := 8) (by decide +kernel))), (sp_tb (List.mem_of_getElem? (i := 700) (by decide +kernel))), ⟨by decide +kernel, by decide +kernel, by decide +kernel⟩, (sp_tb (List.mem_of_getElem? (i := 702) (by decide +kernel))), (sp_pv (q := (y_MD_valid, 19)) (List.mem_of_getElem? (i := 40) (by decide +kernel))), F_MD, 19, rfl⟩
abbrev rm_MD_many : Room := { frames := 4, cells := 0, slots := 0, locals := 90 }
def fx_MD_many_b210 (s0 : Int64) (X : xh_T) : Option (Int32 × xh_T) :=
  xh_b (fx_MD_pushNumber s0 X) (fun (_ : Unit) (X4 : xh_T) =>
  some (0, X4))
set_option maxRecDepth 100000 in
set_option maxHeartbeats 4000000 in
theorem jb_MD_many_b210 {p : Program} {l : Launch} {e : Env} {s : State} {m : MethodId} {args : Array Value} {below : List Frame} {meth : Method} {c : Code} {D : va_G} {G : xh_G} (hz : xh_C p s m args c b_MD_many 7 "SpendScriptModel" D G (xh_A G s.heap.size)) (hr : meth.sig.returnType = (some .int)) (hlk : meth.locks = false) (s0 : Int64) (X : xh_T) : xh_J p l e rm_MD_many s m args below meth c 0 0 D G (xh_A G s.heap.size) 7 (fun r X' => MQ below (xh_Qi D G (xh_A G s.heap.size) r X') args s 0 0 (xh_A G s.heap.size)) 210 [] [.long s0, .ref (G.1 206)] X (fx_MD_many_b210 s0 X) := by
  unfold fx_MD_many_b210
  refine jr_callVv (As := [.long s0]) (a := 206) (ci := 7) (st := []) hz (cx_MD_pushNumber l D G hz.2.2.2.2.2.2.1 s0 X) (fun _ _ => ⟨lq_206, _, ly_206⟩) wv_MD_112 ⟨rfl, rfl, Nat.le_of_ble_eq_true rfl, Nat.le_of_ble_eq_true rfl⟩ ⟨Nat.zero_le _, Nat.zero_le _⟩ rfl rfl (Nat.le_of_ble_eq_true rfl) d_MD_many_210 (fun _ X4 => ?_)
  refine jr_iconst (v := 0) hz d_MD_many_213 (by decide) ?_
  exact jr_iret hz hr hlk d_MD_many_214
def fx_MD_many_b178 (lp133 : Int32 → Int32 → Int32 → Int32 → Int32 → xh_T → Option (Int32 × xh_T)) (a2 : Int32) (a3 : Int32) (a4 : Int32) (a5 : Int32) (a6 : Int32) (X : xh_T) : Option (Int32 × xh_T) :=
  xh_n (a4 + 1) (fun v30 : Int32 =>
  xh_n (a6 + 1) (fun v31 : Int32 =>
  lp133 a2 a3 v30 a5 v31 X))
set_option maxRecDepth 100000 in
set_option maxHeartbeats 4000000 in
theorem jb_MD_many_b178 {p : Program} {l : Launch} {e : Env} {s : State} {m : MethodId} {args : Array Value} {below : List Frame} {meth : Method} {c : Code} {D : va_G} {G : xh_G} (hz : xh_C p s m args c b_MD_many 7 "SpendScriptModel" D G (xh_A G s.heap.size)) (hr : meth.sig.returnType = (some .int)) (hlk : meth.locks = false) (lp133 : Int32 → Int32 → Int32 → Int32 → Int32 → xh_T → Option (Int32 × xh_T)) (hlp133 : ∀ (a2 : Int32) (a3 : Int32) (a4 : Int32) (a5 : Int32) (a6 : Int32) (X : xh_T), xh_J p l e rm_MD_many s m args below meth c 0 0 D G (xh_A G s.heap.size) 7 (fun r X' => MQ below (xh_Qi D G (xh_A G s.heap.size) r X') args s 0 0 (xh_A G s.heap.size)) 133 [(0, .ref (G.1 206)), (2, .int a2), (3, .int a3), (4, .int a4), (5, .int a5), (6, .int a6)] [] X (lp133 a2 a3 a4 a5 a6 X)) (a2 : Int32) (a3 : Int32) (a4 : Int32) (a5 : Int32) (a6 : Int32) (X : xh_T) : xh_J p l e rm_MD_many s m args below meth c 0 0 D G (xh_A G s.heap.size) 7 (fun r X' => MQ below (xh_Qi D G (xh_A G s.heap.size) r X') args s 0 0 (xh_A G s.heap.size)) 178 [(0, .ref (G.1 206)), (2, .int a2), (3, .int a3), (4, .int a4), (5, .int a5), (6, .int a6)] [] X (fx_MD_many_b178 lp133 a2 a3 a4 a5 a6 X) := by
  unfold fx_MD_many_b178
  refine jr_iload hz d_MD_many_178 3 rfl ?_
  refine jr_iconst (v := 1) hz d_MD_many_180 (by decide) ?_
  refine jr_iadd hz d_MD_many_181 ?_
  refine jr_istore (lf := [(0, .ref (G.1 206)), (2, .int a2), (3, .int a3), (5, .int a5), (6, .int a6)]) hz d_MD_many_182 (by decide) rfl (fun v30 => ?_)
  refine jr_iinc (lf := [(4, .int v30), (0, .ref (G.1 206)), (2, .int a2), (3, .int a3), (5, .int a5)]) (w := 1) hz d_MD_many_184 5 rfl (by decide) (by decide) rfl (fun v31 => ?_)
  refine jr_goto (tgt := 133) hz d_MD_many_187 (by decide) ?_
  refine jr_sub (ls' := [(0, .ref (G.1 206)), (2, .int a2), (3, .int a3), (4, .int v30), (5, .int a5), (6, .int v31)]) [2, 3, 4, 1, 5, 0] rfl ?_
  exact hlp133 a2 a3 v30 a5 v31 X
def fx_MD_many_b169 (lp133 : Int32 → Int32 → Int32 → Int32 → Int32 → xh_T → Option (Int32 × xh_T)) (a2 : Int32) (a3 : Int32) (a4 : Int32) (a5 : Int32) (a6 : Int32) (X : xh_T) : Option (Int32 × xh_T) :=
  if a4 ≤ a2 then
  fx_MD_many_b178 lp133 a2 a3 a4 a5 a6 X
  else xh_n 0 (fun v29 : Int32 =>
  fx_MD_many_b178 lp133 a2 a3 a4 v29 a6 X)
set_option maxRecDepth 100000 in
set_option maxHeartbeats 4000000 in
theorem jb_MD_many_b169 {p : Program} {l : Launch} {e : Env} {s : State} {m : MethodId} {args : Array Value} {below : List Frame} {meth : Method} {c : Code} {D : va_G} {G : xh_G} (hz : xh_C p s m args c b_MD_many 7 "SpendScriptModel" D G (xh_A G s.heap.size)) (hr : meth.sig.returnType = (some .int)) (hlk : meth.locks = false) (lp133 : Int32 → Int32 → Int32 → Int32 → Int32 → xh_T → Option (Int32 × xh_T)) (hlp133 : ∀ (a2 : Int32) (a3 : Int32) (a4 : Int32) (a5 : Int32) (a6 : Int32) (X : xh_T), xh_J p l e rm_MD_many s m args below meth c 0 0 D G (xh_A G s.heap.size) 7 (fun r X' => MQ below (xh_Qi D G (xh_A G s.heap.size) r X') args s 0 0 (xh_A G s.heap.size)) 133 [(0, .ref (G.1 206)), (2, .int a2), (3, .int a3), (4, .int a4), (5, .int a5), (6, .int a6)] [] X (lp133 a2 a3 a4 a5 a6 X)) (a2 : Int32) (a3 : Int32) (a4 : Int32) (a5 : Int32) (a6 : Int32) (X : xh_T) : xh_J p l e rm_MD_many s m args below meth c 0 0 D G (xh_A G s.heap.size) 7 (fun r X' => MQ below (xh_Qi D G (xh_A G s.heap.size) r X') args s 0 0 (xh_A G s.heap.size)) 169 [(0, .ref (G.1 206)), (2, .int a2), (3, .int a3), (4, .int a4), (5, .int a5), (6, .int a6)] [] X (fx_MD_many_b169 lp133 a2 a3 a4 a5 a6 X) := by
  unfold fx_MD_many_b169
  refine jr_iload hz d_MD_many_169 3 rfl ?_
  refine jr_iload_n hz d_MD_many_171 rfl 1 rfl ?_
  refine jr_icmp_le (tgt := 178) hz d_MD_many_172 (by decide) ?_ ?_
  · refine jr_sub (ls' := [(0, .ref (G.1 206)), (2, .int a2), (3, .int a3), (4, .int a4), (5, .int a5), (6, .int a6)]) [0, 1, 2, 3, 4, 5] rfl ?_
    exact jb_MD_many_b178 hz hr hlk lp133 hlp133 a2 a3 a4 a5 a6 X
  · refine jr_iconst (v := 0) hz d_MD_many_175 (by decide) ?_
    refine jr_istore (lf := [(0, .ref (G.1 206)), (2, .int a2), (3, .int a3), (4, .int a4), (6, .int a6)]) hz d_MD_many_176 (by decide) rfl (fun v29 => ?_)
    refine jr_sub (ls' := [(0, .ref (G.1 206)), (2, .int a2), (3, .int a3), (4, .int a4), (5, .int v29), (6, .int a6)]) [1, 2, 3, 4, 0, 5] rfl ?_
    exact jb_MD_many_b178 hz hr hlk lp133 hlp133 a2 a3 a4 v29 a6 X
def fx_MD_many_b139 (lp133 : Int32 → Int32 → Int32 → Int32 → Int32 → xh_T → Option (Int32 × xh_T)) : Nat → Int32 → Int32 → Int32 → Int32 → Int32 → xh_T → Option (Int32 × xh_T)
  | 0, _, _, _, _, _, _ => none
  | n + 1, a2, a3, a4, a5, a6, X => if a2 < a4 then
  fx_MD_many_b169 lp133 a2 a3 a4 a5 a6 X
  else xh_b (fx_MD_valid ((2 + a2) + a6) a4 X) (fun (r25 : Int32) (X5 : xh_T) =>
  if r25 = 0 then
  xh_n (a4 + 1) (fun v28 : Int32 =>
  fx_MD_many_b139 lp133 n a2 a3 v28 a5 a6 X5)
  else fx_MD_many_b169 lp133 a2 a3 a4 a5 a6 X5)
set_option maxRecDepth 100000 in
set_option maxHeartbeats 4000000 in
theorem jb_MD_many_b139 {p : Program} {l : Launch} {e : Env} {s : State} {m : MethodId} {args : Array Value} {below : List Frame} {meth : Method} {c : Code} {D : va_G} {G : xh_G} (hz : xh_C p s m args c b_MD_many 7 "SpendScriptModel" D G (xh_A G s.heap.size)) (hr : meth.sig.returnType = (some .int)) (hlk : meth.locks = false) (lp133 : Int32 → Int32 → Int32 → Int32 → Int32 → xh_T → Option (Int32 × xh_T)) (hlp133 : ∀ (a2 : Int32) (a3 : Int32) (a4 : Int32) (a5 : Int32) (a6 : Int32) (X : xh_T), xh_J p l e rm_MD_many s m args below meth c 0 0 D G (xh_A G s.heap.size) 7 (fun r X' => MQ below (xh_Qi D G (xh_A G s.heap.size) r X') args s 0 0 (xh_A G s.heap.size)) 133 [(0, .ref (G.1 206)), (2, .int a2), (3, .int a3), (4, .int a4), (5, .int a5), (6, .int a6)] [] X (lp133 a2 a3 a4 a5 a6 X)) : ∀ (n : Nat) (a2 : Int32) (a3 : Int32) (a4 : Int32) (a5 : Int32) (a6 : Int32) (X : xh_T), xh_J p l e rm_MD_many s m args below meth c 0 0 D G (xh_A G s.heap.size) 7 (fun r X' => MQ below (xh_Qi D G (xh_A G s.heap.size) r X') args s 0 0 (xh_A G s.heap.size)) 139 [(0, .ref (G.1 206)), (2, .int a2), (3, .int a3), (4, .int a4), (5, .int a5), (6, .int a6)] [] X (fx_MD_many_b139 lp133 n a2 a3 a4 a5 a6 X) := by
  intro n
  induction n with
  | zero => intro a2 a3 a4 a5 a6 X; exact jr_none
  | succ n ih =>
    intro a2 a3 a4 a5 a6 X
    rw [fx_MD_many_b139]
    refine jr_iload hz d_MD_many_139 3 rfl ?_
    refine jr_iload_n hz d_MD_many_141 rfl 1 rfl ?_
    refine jr_icmp_gt (tgt := 169) hz d_MD_many_142 (by decide) ?_ ?_
    · refine jr_sub (ls' := [(0, .ref (G.1 206)), (2, .int a2), (3, .int a3), (4, .int a4), (5, .int a5), (6, .int a6)]) [0, 1, 2, 3, 4, 5] rfl ?_
      exact jb_MD_many_b169 hz hr hlk lp133 hlp133 a2 a3 a4 a5 a6 X
    · refine jr_aload_n hz d_MD_many_145 rfl 0 rfl ?_
      refine jr_iconst (v := 2) hz d_MD_many_146 (by decide) ?_
      refine jr_iload_n hz d_MD_many_147 rfl 1 rfl ?_
      refine jr_iadd hz d_MD_many_148 ?_
      refine jr_iload hz d_MD_many_149 5 rfl ?_
      refine jr_iadd hz d_MD_many_151 ?_
      refine jr_iload hz d_MD_many_152 3 rfl ?_
      refine jr_callVi (As := [.int ((2 + a2) + a6), .int a4]) (a := 206) (ci := 7) (st := []) hz (cx_MD_valid l D G hz.2.2.2.2.2.2.1 ((2 + a2) + a6) a4 X) (fun _ _ => ⟨lq_206, _, ly_206⟩) wv_MD_168 ⟨rfl, rfl, Nat.le_of_ble_eq_true rfl, Nat.le_of_ble_eq_true rfl⟩ ⟨Nat.zero_le _, Nat.zero_le _⟩ rfl rfl (Nat.le_of_ble_eq_true rfl) d_MD_many_154 (fun r25 X5 => ?_)
      refine jr_if_ne (tgt := 169) hz d_MD_many_157 (by decide) ?_ ?_
      · refine jr_sub (ls' := [(0, .ref (G.1 206)), (2, .int a2), (3, .int a3), (4, .int a4), (5, .int a5), (6, .int a6)]) [0, 1, 2, 3, 4, 5] rfl ?_
        exact jb_MD_many_b169 hz hr hlk lp133 hlp133 a2 a3 a4 a5 a6 X5
      · refine jr_iload hz d_MD_many_160 3 rfl ?_
        refine jr_iconst (v := 1) hz d_MD_many_162 (by decide) ?_
        refine jr_iadd hz d_MD_many_163 ?_
        refine jr_istore (lf := [(0, .ref (G.1 206)), (2, .int a2), (3, .int a3), (5, .int a5), (6, .int a6)]) hz d_MD_many_164 (by decide) rfl (fun v28 => ?_)
        refine jr_goto (tgt := 139) hz d_MD_many_166 (by decide) ?_
        refine jr_sub (ls' := [(0, .ref (G.1 206)), (2, .int a2), (3, .int a3), (4, .int v28), (5, .int a5), (6, .int a6)]) [1, 2, 3, 0, 4, 5] rfl ?_
        exact ih a2 a3 v28 a5 a6 X5
def fx_MD_many_b133 : Nat → Int32 → Int32 → Int32 → Int32 → Int32 → xh_T → Option (Int32 × xh_T)
  | 0, _, _, _, _, _, _ => none
  | n + 1, a2, a3, a4, a5, a6, X => if a3 ≤ a6 then
  xh_b (fx_MD_pop ((3 + a2) + a3) X) (fun (_ : Unit) (X3 : xh_T) =>
  if a5 = 0 then
  fx_MD_many_b210 0 X3
  else fx_MD_many_b210 1 X3)
  else fx_MD_many_b139 (fun z0 z1 z2 z3 z4 Z => fx_MD_many_b133 n z0 z1 z2 z3 z4 Z) sp_fuel a2 a3 a4 a5 a6 X
set_option maxRecDepth 100000 in
set_option maxHeartbeats 4000000 in
theorem jb_MD_many_b133 {p : Program} {l : Launch} {e : Env} {s : State} {m : MethodId} {args : Array Value} {below : List Frame} {meth : Method} {c : Code} {D : va_G} {G : xh_G} (hz : xh_C p s m args c b_MD_many 7 "SpendScriptModel" D G (xh_A G s.heap.size)) (hr : meth.sig.returnType = (some .int)) (hlk : meth.locks = false) : ∀ (n : Nat) (a2 : Int32) (a3 : Int32) (a4 : Int32) (a5 : Int32) (a6 : Int32) (X : xh_T), xh_J p l e rm_MD_many s m args below meth c 0 0 D G (xh_A G s.heap.size) 7 (fun r X' => MQ below (xh_Qi D G (xh_A G s.heap.size) r X') args s 0 0 (xh_A G s.heap.size)) 133 [(0, .ref (G.1 206)), (2, .int a2), (3, .int a3), (4, .int a4), (5, .int a5), (6, .int a6)] [] X (fx_MD_many_b133 n a2 a3 a4 a5 a6 X) := by
  intro n
  induction n with
  | zero => intro a2 a3 a4 a5 a6 X; exact jr_none
  | succ n ih =>
    intro a2 a3 a4 a5 a6 X
    rw [fx_MD_many_b133]
    refine jr_iload hz d_MD_many_133 5 rfl ?_
    refine jr_iload_n hz d_MD_many_135 rfl 2 rfl ?_
    refine jr_icmp_ge (tgt := 190) hz d_MD_many_136 (by decide) ?_ ?_
    · refine jr_aload_n hz d_MD_many_190 rfl 0 rfl ?_
      refine jr_iconst (v := 3) hz d_MD_many_191 (by decide) ?_
      refine jr_iload_n hz d_MD_many_192 rfl 1 rfl ?_
      refine jr_iadd hz d_MD_many_193 ?_
      refine jr_iload_n hz d_MD_many_194 rfl 2 rfl ?_
      refine jr_iadd hz d_MD_many_195 ?_
      refine jr_callVv (As := [.int ((3 + a2) + a3)]) (a := 206) (ci := 7) (st := []) hz (cx_MD_pop l D G hz.2.2.2.2.2.2.1 ((3 + a2) + a3) X) (fun _ _ => ⟨lq_206, _, ly_206⟩) wv_MD_138 ⟨rfl, rfl, Nat.le_of_ble_eq_true rfl, Nat.le_of_ble_eq_true rfl⟩ ⟨Nat.zero_le _, Nat.zero_le _⟩ rfl rfl (Nat.le_of_ble_eq_true rfl) d_MD_many_196 (fun _ X3 => ?_)
      refine jr_aload_n hz d_MD_many_199 rfl 0 rfl ?_
      refine jr_iload hz d_MD_many_200 4 rfl ?_
      refine jr_if_eq (tgt := 209) hz d_MD_many_202 (by decide) ?_ ?_
      · refine jr_lconst (v := 0) hz d_MD_many_209 (by decide) ?_
        refine jr_sub (ls' := []) [] rfl ?_
        exact jb_MD_many_b210 hz hr hlk 0 X3
      · refine jr_lconst (v := 1) hz d_MD_many_205 (by decide) ?_
        refine jr_goto (tgt := 210) hz d_MD_many_206 (by decide) ?_
        refine jr_sub (ls' := []) [] rfl ?_
        exact jb_MD_many_b210 hz hr hlk 1 X3
    · refine jr_sub (ls' := [(0, .ref (G.1 206)), (2, .int a2), (3, .int a3), (4, .int a4), (5, .int a5), (6, .int a6)]) [0, 1, 2, 3, 4, 5] rfl ?_
      exact jb_MD_many_b139 hz hr hlk (fun z0 z1 z2 z3 z4 Z => fx_MD_many_b133 n z0 z1 z2 z3 z4 Z) (fun z0 z1 z2 z3 z4 Z => ih z0 z1 z2 z3 z4 Z) sp_fuel a2 a3 a4 a5 a6 X
def fx_MD_many (X : xh_T) : Option (Int32 × xh_T) :=
  xh_b (fx_MD_take 0 X) (fun (r1 : Int32) (X1 : xh_T) =>
  xh_n r1 (fun v5 : Int32 =>
  if v5 ≤ 0 then
  xh_o 0 3 (if (lg_cmp (X1.2.2 215 (0 : Int32).toNatClampNeg) 0) < 0 then
  some (13, X1)
  else xh_o 0 3 (if (lg_cmp (X1.2.2 215 (0 : Int32).toNatClampNeg) 4) ≤ 0 then
  xh_o 0 3 (xh_n (((X1.2.2 215 (0 : Int32).toNatClampNeg) : Int64).toInt32) (fun v6 : Int32 =>
  if (2 + v6) ≤ X1.1 206 5 then
  xh_b (fx_MD_valueInto (1 + v6) 0 X1) (fun (r7 : Int32) (X2 : xh_T) =>
  xh_n r7 (fun v11 : Int32 =>
  if v11 ≤ 0 then
  xh_o 0 3 (if (lg_cmp (X2.2.2 215 (0 : Int32).toNatClampNeg) 0) < 0 then
  some (13, X2)
  else xh_o 0 3 (if (lg_cmp (X2.2.2 215 (0 : Int32).toNatClampNeg) ((v6 : Int32).toInt64)) ≤ 0 then
  xh_o 0 3 (xh_n (((X2.2.2 215 (0 : Int32).toNatClampNeg) : Int64).toInt32) (fun v12 : Int32 =>
  if ((3 + v6) + v12) ≤ X2.1 206 5 then
  xh_n 1 (fun v13 : Int32 =>
  xh_n 1 (fun v14 : Int32 =>
  xh_n 0 (fun v15 : Int32 =>
  fx_MD_many_b133 sp_fuel v6 v12 v13 v14 v15 X2)))
  else some (11, X2)))
  else some (13, X2)))
  else some (v11, X2)))
  else some (11, X1)))
  else some (13, X1)))
  else some (v5, X1)))
set_option maxRecDepth 100000 in
set_option maxHeartbeats 4000000 in
theorem cx_MD_many (l : Launch) (D : va_G) (G : xh_G) (hD : xh_D G) (X : xh_T) : xh_M xh_Qi l D G y_MD_many b_MD_many 7 (some .int) rm_MD_many [.ref (G.1 206)] X (fx_MD_many X) := by
  refine xh_enter (ls := [(0, .ref (G.1 206))]) hD (by decide +kernel) (Nat.le_of_ble_eq_true rfl) rfl ?_
  intro p e s m args below meth c hz hr hlk
  unfold fx_MD_many
  refine jr_aload_n hz d_MD_many_0 rfl 0 rfl ?_
  refine jr_iconst (v := 0) hz d_MD_many_1 (by decide) ?_
  refine jr_callVi (As := [.int 0]) (a := 206) (ci := 7) (st := []) hz (cx_MD_take l D G hz.2.2.2.2.2.2.1 0 X) (fun _ _ => ⟨lq_206, _, ly_206⟩) wv_MD_157 ⟨rfl, rfl, Nat.le_of_ble_eq_true rfl, Nat.le_of_ble_eq_true rfl⟩ ⟨Nat.zero_le _, Nat.zero_le _⟩ rfl rfl (Nat.le_of_ble_eq_true rfl) d_MD_many_2 (fun r1 X1 => ?_)
  refine jr_istore_n (lf := [(0, .ref (G.1 206))]) hz d_MD_many_5 rfl (by decide) rfl (fun v5 => ?_)
  refine jr_iload_n hz d_MD_many_6 rfl 0 rfl ?_
  refine jr_if_le (tgt := 12) hz d_MD_many_7 (by decide) ?_ ?_
  · refine jr_aload_n hz d_MD_many_12 rfl 1 rfl ?_
    refine jr_getr (j := 18) (t := 215) hz lq_206 ly_206 rfl wf_MD_35 d_MD_many_13 ?_
    refine jr_iconst (v := 0) hz d_MD_many_16 (by decide) ?_
    refine jr_lald (n := 3) hz lq_215 ly_215 d_MD_many_17 ?_
    refine jr_lconst (v := 0) hz d_MD_many_18 (by decide) ?_
    refine jr_lcmp hz d_MD_many_19 ?_
    refine jr_if_lt (tgt := 36) hz d_MD_many_20 (by decide) ?_ ?_
    · refine jr_bipush (v := 13) hz d_MD_many_36 (by decide) ?_
      exact jr_iret hz hr hlk d_MD_many_38
    · refine jr_aload_n hz d_MD_many_23 rfl 1 rfl ?_
      refine jr_getr (j := 18) (t := 215) hz lq_206 ly_206 rfl wf_MD_35 d_MD_many_24 ?_
      refine jr_iconst (v := 0) hz d_MD_many_27 (by decide) ?_
      refine jr_lald (n := 3) hz lq_215 ly_215 d_MD_many_28 ?_
      refine jr_ldc2 (v := 4) hz wk_MD_171 d_MD_many_29 ?_
      refine jr_lcmp hz d_MD_many_32 ?_
      refine jr_if_le (tgt := 39) hz d_MD_many_33 (by decide) ?_ ?_
      · refine jr_aload_n hz d_MD_many_39 rfl 1 rfl ?_
        refine jr_getr (j := 18) (t := 215) hz lq_206 ly_206 rfl wf_MD_35 d_MD_many_40 ?_
        refine jr_iconst (v := 0) hz d_MD_many_43 (by decide) ?_
        refine jr_lald (n := 3) hz lq_215 ly_215 d_MD_many_44 ?_
        refine jr_l2i hz d_MD_many_45 ?_
        refine jr_istore_n (lf := [(1, .int v5), (0, .ref (G.1 206))]) hz d_MD_many_46 rfl (by decide) rfl (fun v6 => ?_)
        refine jr_aload_n hz d_MD_many_47 rfl 2 rfl ?_
        refine jr_geti (j := 5) hz lq_206 ly_206 rfl wf_MD_56 d_MD_many_48 ?_
        refine jr_iconst (v := 2) hz d_MD_many_51 (by decide) ?_
        refine jr_iload_n hz d_MD_many_52 rfl 0 rfl ?_
        refine jr_iadd hz d_MD_many_53 ?_
        refine jr_icmp_ge (tgt := 60) hz d_MD_many_54 (by decide) ?_ ?_
        · refine jr_aload_n hz d_MD_many_60 rfl 2 rfl ?_
          refine jr_iconst (v := 1) hz d_MD_many_61 (by decide) ?_
          refine jr_iload_n hz d_MD_many_62 rfl 0 rfl ?_
          refine jr_iadd hz d_MD_many_63 ?_
          refine jr_iconst (v := 0) hz d_MD_many_64 (by decide) ?_
          refine jr_callVi (As := [.int (1 + v6), .int 0]) (a := 206) (ci := 7) (st := []) hz (cx_MD_valueInto l D G hz.2.2.2.2.2.2.1 (1 + v6) 0 X1) (fun _ _ => ⟨lq_206, _, ly_206⟩) wv_MD_79 ⟨rfl, rfl, Nat.le_of_ble_eq_true rfl, Nat.le_of_ble_eq_true rfl⟩ ⟨Nat.zero_le _, Nat.zero_le _⟩ rfl rfl (Nat.le_of_ble_eq_true rfl) d_MD_many_65 (fun r7 X2 => ?_)
          refine jr_istore_n (lf := [(2, .int v6), (0, .ref (G.1 206))]) hz d_MD_many_68 rfl (by decide) rfl (fun v11 => ?_)
          refine jr_iload_n hz d_MD_many_69 rfl 0 rfl ?_
          refine jr_if_le (tgt := 75) hz d_MD_many_70 (by decide) ?_ ?_
          · refine jr_aload_n hz d_MD_many_75 rfl 2 rfl ?_
            refine jr_getr (j := 18) (t := 215) hz lq_206 ly_206 rfl wf_MD_35 d_MD_many_76 ?_
            refine jr_iconst (v := 0) hz d_MD_many_79 (by decide) ?_
            refine jr_lald (n := 3) hz lq_215 ly_215 d_MD_many_80 ?_
            refine jr_lconst (v := 0) hz d_MD_many_81 (by decide) ?_
            refine jr_lcmp hz d_MD_many_82 ?_
            refine jr_if_lt (tgt := 98) hz d_MD_many_83 (by decide) ?_ ?_
            · refine jr_bipush (v := 13) hz d_MD_many_98 (by decide) ?_
              exact jr_iret hz hr hlk d_MD_many_100
            · refine jr_aload_n hz d_MD_many_86 rfl 2 rfl ?_
              refine jr_getr (j := 18) (t := 215) hz lq_206 ly_206 rfl wf_MD_35 d_MD_many_87 ?_
              refine jr_iconst (v := 0) hz d_MD_many_90 (by decide) ?_
              refine jr_lald (n := 3) hz lq_215 ly_215 d_MD_many_91 ?_
              refine jr_iload_n hz d_MD_many_92 rfl 1 rfl ?_
              refine jr_i2l hz d_MD_many_93 ?_
              refine jr_lcmp hz d_MD_many_94 ?_
              refine jr_if_le (tgt := 101) hz d_MD_many_95 (by decide) ?_ ?_
              · refine jr_aload_n hz d_MD_many_101 rfl 2 rfl ?_
                refine jr_getr (j := 18) (t := 215) hz lq_206 ly_206 rfl wf_MD_35 d_MD_many_102 ?_
                refine jr_iconst (v := 0) hz d_MD_many_105 (by decide) ?_
                refine jr_lald (n := 3) hz lq_215 ly_215 d_MD_many_106 ?_
                refine jr_l2i hz d_MD_many_107 ?_
                refine jr_istore_n (lf := [(1, .int v11), (2, .int v6), (0, .ref (G.1 206))]) hz d_MD_many_108 rfl (by decide) rfl (fun v12 => ?_)
                refine jr_aload_n hz d_MD_many_109 rfl 3 rfl ?_
                refine jr_geti (j := 5) hz lq_206 ly_206 rfl wf_MD_56 d_MD_many_110 ?_
                refine jr_iconst (v := 3) hz d_MD_many_113 (by decide) ?_
                refine jr_iload_n hz d_MD_many_114 rfl 2 rfl ?_
                refine jr_iadd hz d_MD_many_115 ?_
                refine jr_iload_n hz d_MD_many_116 rfl 0 rfl ?_
                refine jr_iadd hz d_MD_many_117 ?_
                refine jr_icmp_ge (tgt := 124) hz d_MD_many_118 (by decide) ?_ ?_
                · refine jr_iconst (v := 1) hz d_MD_many_124 (by decide) ?_
                  refine jr_istore (lf := [(3, .int v12), (1, .int v11), (2, .int v6), (0, .ref (G.1 206))]) hz d_MD_many_125 (by decide) rfl (fun v13 => ?_)
                  refine jr_iconst (v := 1) hz d_MD_many_127 (by decide) ?_
                  refine jr_istore (lf := [(4, .int v13), (3, .int v12), (1, .int v11), (2, .int v6), (0, .ref (G.1 206))]) hz d_MD_many_128 (by decide) rfl (fun v14 => ?_)
                  refine jr_iconst (v := 0) hz d_MD_many_130 (by decide) ?_
                  refine jr_istore (lf := [(5, .int v14), (4, .int v13), (3, .int v12), (1, .int v11), (2, .int v6), (0, .ref (G.1 206))]) hz d_MD_many_131 (by decide) rfl (fun v15 => ?_)
                  refine jr_sub (ls' := [(0, .ref (G.1 206)), (2, .int v6), (3, .int v12), (4, .int v13), (5, .int v14), (6, .int v15)]) [6, 5, 3, 2, 1, 0] rfl ?_
                  exact jb_MD_many_b133 hz hr hlk sp_fuel v6 v12 v13 v14 v15 X2
                · refine jr_bipush (v := 11) hz d_MD_many_121 (by decide) ?_
                  exact jr_iret hz hr hlk d_MD_many_123
              · refine jr_bipush (v := 13) hz d_MD_many_98 (by decide) ?_
                exact jr_iret hz hr hlk d_MD_many_100
          · refine jr_iload_n hz d_MD_many_73 rfl 0 rfl ?_
            exact jr_iret hz hr hlk d_MD_many_74
        · refine jr_bipush (v := 11) hz d_MD_many_57 (by decide) ?_
          exact jr_iret hz hr hlk d_MD_many_59
      · refine jr_bipush (v := 13) hz d_MD_many_36 (by decide) ?_
        exact jr_iret hz hr hlk d_MD_many_38
  · refine jr_iload_n hz d_MD_many_10 rfl 0 rfl ?_
    exact jr_iret hz hr hlk d_MD_many_11
theorem d_MD_compare_0 : decode b_MD_compare 0 = .ok (.iload_n 1, 1) := by decide +kernel
theorem d_MD_compare_1 : decode b_MD_compare 1 = .ok (.sipush 135, 3) := by decide +kernel
theorem d_MD_compare_4 : decode b_MD_compare 4 = .ok (.if_icmp .eq 24, 3) := by decide +kernel
theorem d_MD_compare_7 : decode b_MD_compare 7 = .ok (.iload_n 1, 1) := by decide +kernel
theorem d_MD_compare_8 : decode b_MD_compare 8 = .ok (.sipush 136, 3) := by decide +kernel
theorem d_MD_compare_11 : decode b_MD_compare 11 = .ok (.if_icmp .eq 17, 3) := by decide +kernel
theorem d_MD_compare_14 : decode b_MD_compare 14 = .ok (.iload_n 1, 1) := by decide +kernel
theorem d_MD_compare_15 : decode b_MD_compare 15 = .ok (.sipush 172, 3) := by decide +kernel
theorem d_MD_compare_18 : decode b_MD_compare 18 = .ok (.if_icmp .eq 10, 3) := by decide +kernel
theorem d_MD_compare_21 : decode b_MD_compare 21 = .ok (.iload_n 1, 1) := by decide +kernel
theorem d_MD_compare_22 : decode b_MD_compare 22 = .ok (.sipush 173, 3) := by decide +kernel
theorem d_MD_compare_25 : decode b_MD_compare 25 = .ok (.if_icmp .ne 7, 3) := by decide +kernel
theorem d_MD_compare_28 : decode b_MD_compare 28 = .ok (.iconst 2, 1) := by decide +kernel
theorem d_MD_compare_29 : decode b_MD_compare 29 = .ok (.goto 4, 3) := by decide +kernel
theorem d_MD_compare_32 : decode b_MD_compare 32 = .ok (.iconst 1, 1) := by decide +kernel
theorem d_MD_compare_33 : decode b_MD_compare 33 = .ok (.istore_n 2, 1) := by decide +kernel
theorem d_MD_compare_34 : decode b_MD_compare 34 = .ok (.iload_n 1, 1) := by decide +kernel
theorem d_MD_compare_35 : decode b_MD_compare 35 = .ok (.sipush 174, 3) := by decide +kernel
theorem d_MD_compare_38 : decode b_MD_compare 38 = .ok (.if_icmp .ne 8, 3) := by decide +kernel
theorem d_MD_compare_41 : decode b_MD_compare 41 = .ok (.aload_n 0, 1) := by decide +kernel
theorem d_MD_compare_42 : decode b_MD_compare 42 = .ok (.invokevirtual 160, 3) := by decide +kernel
theorem d_MD_compare_45 : decode b_MD_compare 45 = .ok (.ireturn, 1) := by decide +kernel
theorem d_MD_compare_46 : decode b_MD_compare 46 = .ok (.aload_n 0, 1) := by decide +kernel
theorem d_MD_compare_47 : decode b_MD_compare 47 = .ok (.getfield 56, 3) := by decide +kernel
theorem d_MD_compare_50 : decode b_MD_compare 50 = .ok (.iload_n 2, 1) := by decide +kernel
theorem d_MD_compare_51 : decode b_MD_compare 51 = .ok (.if_icmp .ge 6, 3) := by decide +kernel
theorem d_MD_compare_54 : decode b_MD_compare 54 = .ok (.bipush 11, 2) := by decide +kernel
theorem d_MD_compare_56 : decode b_MD_compare 56 = .ok (.ireturn, 1) := by decide +kernel
theorem d_MD_compare_57 : decode b_MD_compare 57 = .ok (.iload_n 1, 1) := by decide +kernel
theorem d_MD_compare_58 : decode b_MD_compare 58 = .ok (.sipush 130, 3) := by decide +kernel
theorem d_MD_compare_61 : decode b_MD_compare 61 = .ok (.if_icmp .ne 26, 3) := by decide +kernel
theorem d_MD_compare_64 : decode b_MD_compare 64 = .ok (.aload_n 0, 1) := by decide +kernel
theorem d_MD_compare_65 : decode b_MD_compare 65 = .ok (.iconst 1, 1) := by decide +kernel
theorem d_MD_compare_66 : decode b_MD_compare 66 = .ok (.invokevirtual 109, 3) := by decide +kernel
theorem d_MD_compare_69 : decode b_MD_compare 69 = .ok (.ifCond .eq 6, 3) := by decide +kernel
theorem d_MD_compare_72 : decode b_MD_compare 72 = .ok (.bipush 14, 2) := by decide +kernel
theorem d_MD_compare_74 : decode b_MD_compare 74 = .ok (.ireturn, 1) := by decide +kernel
theorem d_MD_compare_75 : decode b_MD_compare 75 = .ok (.aload_n 0, 1) := by decide +kernel
theorem d_MD_compare_76 : decode b_MD_compare 76 = .ok (.aload_n 0, 1) := by decide +kernel
theorem d_MD_compare_77 : decode b_MD_compare 77 = .ok (.iconst 0, 1) := by decide +kernel
theorem d_MD_compare_78 : decode b_MD_compare 78 = .ok (.invokevirtual 63, 3) := by decide +kernel
theorem d_MD_compare_81 : decode b_MD_compare 81 = .ok (.i2l, 1) := by decide +kernel
theorem d_MD_compare_82 : decode b_MD_compare 82 = .ok (.invokevirtual 112, 3) := by decide +kernel
theorem d_MD_compare_85 : decode b_MD_compare 85 = .ok (.iconst 0, 1) := by decide +kernel
theorem d_MD_compare_86 : decode b_MD_compare 86 = .ok (.ireturn, 1) := by decide +kernel
theorem d_MD_compare_87 : decode b_MD_compare 87 = .ok (.iload_n 1, 1) := by decide +kernel
theorem d_MD_compare_88 : decode b_MD_compare 88 = .ok (.sipush 169, 3) := by decide +kernel
theorem d_MD_compare_91 : decode b_MD_compare 91 = .ok (.if_icmp .ne 64, 3) := by decide +kernel
theorem d_MD_compare_94 : decode b_MD_compare 94 = .ok (.aload_n 0, 1) := by decide +kernel
theorem d_MD_compare_95 : decode b_MD_compare 95 = .ok (.iconst 0, 1) := by decide +kernel
theorem d_MD_compare_96 : decode b_MD_compare 96 = .ok (.invokevirtual 87, 3) := by decide +kernel
theorem d_MD_compare_99 : decode b_MD_compare 99 = .ok (.istore_n 3, 1) := by decide +kernel
theorem d_MD_compare_100 : decode b_MD_compare 100 = .ok (.aload_n 0, 1) := by decide +kernel
theorem d_MD_compare_101 : decode b_MD_compare 101 = .ok (.iconst 0, 1) := by decide +kernel
theorem d_MD_compare_102 : decode b_MD_compare 102 = .ok (.invokevirtual 59, 3) := by decide +kernel
theorem d_MD_compare_105 : decode b_MD_compare 105 = .ok (.istore 4, 2) := by decide +kernel
theorem d_MD_compare_107 : decode b_MD_compare 107 = .ok (.aload_n 0, 1) := by decide +kernel
theorem d_MD_compare_108 : decode b_MD_compare 108 = .ok (.getfield 16, 3) := by decide +kernel
theorem d_MD_compare_111 : decode b_MD_compare 111 = .ok (.iload 4, 2) := by decide +kernel
theorem d_MD_compare_113 : decode b_MD_compare 113 = .ok (.iconst 4, 1) := by decide +kernel
theorem d_MD_compare_114 : decode b_MD_compare 114 = .ok (.iastore, 1) := by decide +kernel
theorem d_MD_compare_115 : decode b_MD_compare 115 = .ok (.iconst 0, 1) := by decide +kernel
theorem d_MD_compare_116 : decode b_MD_compare 116 = .ok (.istore 5, 2) := by decide +kernel
theorem d_MD_compare_118 : decode b_MD_compare 118 = .ok (.iload 5, 2) := by decide +kernel
theorem d_MD_compare_120 : decode b_MD_compare 120 = .ok (.iconst 4, 1) := by decide +kernel
theorem d_MD_compare_121 : decode b_MD_compare 121 = .ok (.if_icmp .ge 32, 3) := by decide +kernel
theorem d_MD_compare_124 : decode b_MD_compare 124 = .ok (.aload_n 0, 1) := by decide +kernel
theorem d_MD_compare_125 : decode b_MD_compare 125 = .ok (.getfield 16, 3) := by decide +kernel
theorem d_MD_compare_128 : decode b_MD_compare 128 = .ok (.iload 4, 2) := by decide +kernel
theorem d_MD_compare_130 : decode b_MD_compare 130 = .ok (.iconst 1, 1) := by decide +kernel
theorem d_MD_compare_131 : decode b_MD_compare 131 = .ok (.iadd, 1) := by decide +kernel
theorem d_MD_compare_132 : decode b_MD_compare 132 = .ok (.iload 5, 2) := by decide +kernel
theorem d_MD_compare_134 : decode b_MD_compare 134 = .ok (.iadd, 1) := by decide +kernel
theorem d_MD_compare_135 : decode b_MD_compare 135 = .ok (.iload_n 3, 1) := by decide +kernel
theorem d_MD_compare_136 : decode b_MD_compare 136 = .ok (.bipush 8, 2) := by decide +kernel
theorem d_MD_compare_138 : decode b_MD_compare 138 = .ok (.iload 5, 2) := by decide +kernel
theorem d_MD_compare_140 : decode b_MD_compare 140 = .ok (.imul, 1) := by decide +kernel
theorem d_MD_compare_141 : decode b_MD_compare 141 = .ok (.ishr, 1) := by decide +kernel
theorem d_MD_compare_142 : decode b_MD_compare 142 = .ok (.sipush 255, 3) := by decide +kernel
theorem d_MD_compare_145 : decode b_MD_compare 145 = .ok (.iand, 1) := by decide +kernel
theorem d_MD_compare_146 : decode b_MD_compare 146 = .ok (.iastore, 1) := by decide +kernel
theorem d_MD_compare_147 : decode b_MD_compare 147 = .ok (.iinc 5 1, 3) := by decide +kernel
theorem d_MD_compare_150 : decode b_MD_compare 150 = .ok (.goto (-32), 3) := by decide +kernel
theorem d_MD_compare_153 : decode b_MD_compare 153 = .ok (.iconst 0, 1) := by decide +kernel
theorem d_MD_compare_154 : decode b_MD_compare 154 = .ok (.ireturn, 1) := by decide +kernel
theorem d_MD_compare_155 : decode b_MD_compare 155 = .ok (.iload_n 1, 1) := by decide +kernel
theorem d_MD_compare_156 : decode b_MD_compare 156 = .ok (.sipush 172, 3) := by decide +kernel
theorem d_MD_compare_159 : decode b_MD_compare 159 = .ok (.if_icmp .ge 12, 3) := by decide +kernel
theorem d_MD_compare_162 : decode b_MD_compare 162 = .ok (.aload_n 0, 1) := by decide +kernel
theorem d_MD_compare_163 : decode b_MD_compare 163 = .ok (.iconst 0, 1) := by decide +kernel
theorem d_MD_compare_164 : decode b_MD_compare 164 = .ok (.iconst 1, 1) := by decide +kernel
theorem d_MD_compare_165 : decode b_MD_compare 165 = .ok (.invokevirtual 164, 3) := by decide +kernel
theorem d_MD_compare_168 : decode b_MD_compare 168 = .ok (.goto 9, 3) := by decide +kernel
theorem d_MD_compare_171 : decode b_MD_compare 171 = .ok (.aload_n 0, 1) := by decide +kernel
theorem d_MD_compare_172 : decode b_MD_compare 172 = .ok (.iconst 1, 1) := by decide +kernel
theorem d_MD_compare_173 : decode b_MD_compare 173 = .ok (.iconst 0, 1) := by decide +kernel
theorem d_MD_compare_174 : decode b_MD_compare 174 = .ok (.invokevirtual 168, 3) := by decide +kernel
theorem d_MD_compare_177 : decode b_MD_compare 177 = .ok (.istore_n 3, 1) := by decide +kernel
theorem d_MD_compare_178 : decode b_MD_compare 178 = .ok (.iload_n 1, 1) := by decide +kernel
theorem d_MD_compare_179 : decode b_MD_compare 179 = .ok (.sipush 136, 3) := by decide +kernel
theorem d_MD_compare_182 : decode b_MD_compare 182 = .ok (.if_icmp .eq 10, 3) := by decide +kernel
theorem d_MD_compare_185 : decode b_MD_compare 185 = .ok (.iload_n 1, 1) := by decide +kernel
theorem d_MD_compare_186 : decode b_MD_compare 186 = .ok (.sipush 173, 3) := by decide +kernel
theorem d_MD_compare_189 : decode b_MD_compare 189 = .ok (.if_icmp .ne 10, 3) := by decide +kernel
theorem d_MD_compare_192 : decode b_MD_compare 192 = .ok (.iload_n 3, 1) := by decide +kernel
theorem d_MD_compare_193 : decode b_MD_compare 193 = .ok (.ifCond .ne 6, 3) := by decide +kernel
theorem d_MD_compare_196 : decode b_MD_compare 196 = .ok (.bipush 9, 2) := by decide +kernel
theorem d_MD_compare_198 : decode b_MD_compare 198 = .ok (.ireturn, 1) := by decide +kernel
theorem d_MD_compare_199 : decode b_MD_compare 199 = .ok (.aload_n 0, 1) := by decide +kernel
theorem d_MD_compare_200 : decode b_MD_compare 200 = .ok (.iconst 2, 1) := by decide +kernel
theorem d_MD_compare_201 : decode b_MD_compare 201 = .ok (.invokevirtual 138, 3) := by decide +kernel
theorem d_MD_compare_204 : decode b_MD_compare 204 = .ok (.iload_n 1, 1) := by decide +kernel
theorem d_MD_compare_205 : decode b_MD_compare 205 = .ok (.sipush 135, 3) := by decide +kernel
theorem d_MD_compare_208 : decode b_MD_compare 208 = .ok (.if_icmp .eq 10, 3) := by decide +kernel
theorem d_MD_compare_211 : decode b_MD_compare 211 = .ok (.iload_n 1, 1) := by decide +kernel
theorem d_MD_compare_212 : decode b_MD_compare 212 = .ok (.sipush 172, 3) := by decide +kernel
theorem d_MD_compare_215 : decode b_MD_compare 215 = .ok (.if_icmp .ne 16, 3) := by decide +kernel
theorem d_MD_compare_218 : decode b_MD_compare 218 = .ok (.aload_n 0, 1) := by decide +kernel
theorem d_MD_compare_219 : decode b_MD_compare 219 = .ok (.iload_n 3, 1) := by decide +kernel
theorem d_MD_compare_220 : decode b_MD_compare 220 = .ok (.ifCond .eq 7, 3) := by decide +kernel
theorem d_MD_compare_223 : decode b_MD_compare 223 = .ok (.lconst 1, 1) := by decide +kernel
theorem d_MD_compare_224 : decode b_MD_compare 224 = .ok (.goto 4, 3) := by decide +kernel
theorem d_MD_compare_227 : decode b_MD_compare 227 = .ok (.lconst 0, 1) := by decide +kernel
theorem d_MD_compare_228 : decode b_MD_compare 228 = .ok (.invokevirtual 112, 3) := by decide +kernel
theorem d_MD_compare_231 : decode b_MD_compare 231 = .ok (.iconst 0, 1) := by decide +kernel
theorem d_MD_compare_232 : decode b_MD_compare 232 = .ok (.ireturn, 1) := by decide +kernel
theorem wv_MD_164 : xh_V "SpendScriptModel" 164 7 y_MD_same b_MD_same 4 (some .boolean) 2 := ⟨(sp_tb (List.mem_of_getElem? (i := 715) (by decide +kernel))), (sp_tb (List.mem_of_getElem? (i := 8) (by decide +kernel))), (sp_tb (List.mem_of_getElem? (i := 712) (by decide +kernel))), ⟨by decide +kernel, by decide +kernel, by decide +kernel⟩, (sp_tb (List.mem_of_getElem? (i := 714) (by decide +kernel))), (sp_pv (q := (y_MD_same, 19)) (List.mem_of_getElem? (i := 43) (by decide +kernel))), F_MD, 19, rfl⟩
theorem wv_MD_160 : xh_V "SpendScriptModel" 160 7 y_MD_many b_MD_many 7 (some .int) 0 := ⟨(sp_tb (List.mem_of_getElem? (i := 698) (by decide +kernel))), (sp_tb (List.mem_of_getElem? (i := 8) (by decide +kernel))), (sp_tb (List.mem_of_getElem? (i := 695) (by decide +kernel))), ⟨by decide +kernel, by decide +kernel, by decide +kernel⟩, (sp_tb (List.mem_of_getElem? (i := 697) (by decide +kernel))), (sp_pv (q := (y_MD_many, 19)) (List.mem_of_getElem? (i := 39) (by decide +kernel))), F_MD, 19, rfl⟩
abbrev rm_MD_compare : Room := { frames := 5, cells := 0, slots := 0, locals := 116 }
def fx_MD_compare_b118 : Nat → Int32 → Int32 → Int32 → xh_T → Option (Int32 × xh_T)
  | 0, _, _, _, _ => none
  | n + 1, a3, a4, a5, X => if 4 ≤ a5 then
  some (0, X)
  else xh_o ((a4 + 1) + a5) 1089 (xh_n (xh_i X 209 (((a4 + 1) + a5) : Int32).toNatClampNeg ((a3 >>> ((8 * a5) &&& 31)) &&& 255)) (fun X10 : xh_T =>
  xh_n (a5 + 1) (fun v38 : Int32 =>
  fx_MD_compare_b118 n a3 a4 v38 X10)))
set_option maxRecDepth 100000 in
set_option maxHeartbeats 4000000 in
theorem jb_MD_compare_b118 {p : Program} {l : Launch} {e : Env} {s : State} {m : MethodId} {args : Array Value} {below : List Frame} {meth : Method} {c : Code} {D : va_G} {G : xh_G} (hz : xh_C p s m args c b_MD_compare 6 "SpendScriptModel" D G (xh_A G s.heap.size)) (hr : meth.sig.returnType = (some .int)) (hlk : meth.locks = false) : ∀ (n : Nat) (a3 : Int32) (a4 : Int32) (a5 : Int32) (X : xh_T), xh_J p l e rm_MD_compare s m args below meth c 0 0 D G (xh_A G s.heap.size) 6 (fun r X' => MQ below (xh_Qi D G (xh_A G s.heap.size) r X') args s 0 0 (xh_A G s.heap.size)) 118 [(0, .ref (G.1 206)), (3, .int a3), (4, .int a4), (5, .int a5)] [] X (fx_MD_compare_b118 n a3 a4 a5 X) := by
  intro n
  induction n with
  | zero => intro a3 a4 a5 X; exact jr_none
  | succ n ih =>
    intro a3 a4 a5 X
    rw [fx_MD_compare_b118]
    refine jr_iload hz d_MD_compare_118 3 rfl ?_
    refine jr_iconst (v := 4) hz d_MD_compare_120 (by decide) ?_
    refine jr_icmp_ge (tgt := 153) hz d_MD_compare_121 (by decide) ?_ ?_
    · refine jr_iconst (v := 0) hz d_MD_compare_153 (by decide) ?_
      exact jr_iret hz hr hlk d_MD_compare_154
    · refine jr_aload_n hz d_MD_compare_124 rfl 0 rfl ?_
      refine jr_getr (j := 2) (t := 209) hz lq_206 ly_206 rfl wf_MD_16 d_MD_compare_125 ?_
      refine jr_iload hz d_MD_compare_128 2 rfl ?_
      refine jr_iconst (v := 1) hz d_MD_compare_130 (by decide) ?_
      refine jr_iadd hz d_MD_compare_131 ?_
      refine jr_iload hz d_MD_compare_132 3 rfl ?_
      refine jr_iadd hz d_MD_compare_134 ?_
      refine jr_iload_n hz d_MD_compare_135 rfl 1 rfl ?_
      refine jr_bipush (v := 8) hz d_MD_compare_136 (by decide) ?_
      refine jr_iload hz d_MD_compare_138 3 rfl ?_
      refine jr_imul hz d_MD_compare_140 ?_
      refine jr_ishr hz d_MD_compare_141 ?_
      refine jr_sipush (v := 255) hz d_MD_compare_142 (by decide) ?_
      refine jr_iand hz d_MD_compare_145 ?_
      refine jr_iast (n := 1089) hz lq_209 ly_209 d_MD_compare_146 (fun X10 => ?_)
      refine jr_iinc (lf := [(0, .ref (G.1 206)), (3, .int a3), (4, .int a4)]) (w := 1) hz d_MD_compare_147 3 rfl (by decide) (by decide) rfl (fun v38 => ?_)
      refine jr_goto (tgt := 118) hz d_MD_compare_150 (by decide) ?_
      refine jr_sub (ls' := [(0, .ref (G.1 206)), (3, .int a3), (4, .int a4), (5, .int v38)]) [1, 2, 3, 0] rfl ?_
      exact ih a3 a4 v38 X10
def fx_MD_compare_b228 (s0 : Int64) (X : xh_T) : Option (Int32 × xh_T) :=
  xh_b (fx_MD_pushNumber s0 X) (fun (_ : Unit) (X12 : xh_T) =>
  some (0, X12))
set_option maxRecDepth 100000 in
set_option maxHeartbeats 4000000 in
theorem jb_MD_compare_b228 {p : Program} {l : Launch} {e : Env} {s : State} {m : MethodId} {args : Array Value} {below : List Frame} {meth : Method} {c : Code} {D : va_G} {G : xh_G} (hz : xh_C p s m args c b_MD_compare 6 "SpendScriptModel" D G (xh_A G s.heap.size)) (hr : meth.sig.returnType = (some .int)) (hlk : meth.locks = false) (s0 : Int64) (X : xh_T) : xh_J p l e rm_MD_compare s m args below meth c 0 0 D G (xh_A G s.heap.size) 6 (fun r X' => MQ below (xh_Qi D G (xh_A G s.heap.size) r X') args s 0 0 (xh_A G s.heap.size)) 228 [] [.long s0, .ref (G.1 206)] X (fx_MD_compare_b228 s0 X) := by
  unfold fx_MD_compare_b228
  refine jr_callVv (As := [.long s0]) (a := 206) (ci := 7) (st := []) hz (cx_MD_pushNumber l D G hz.2.2.2.2.2.2.1 s0 X) (fun _ _ => ⟨lq_206, _, ly_206⟩) wv_MD_112 ⟨rfl, rfl, Nat.le_of_ble_eq_true rfl, Nat.le_of_ble_eq_true rfl⟩ ⟨Nat.zero_le _, Nat.zero_le _⟩ rfl rfl (Nat.le_of_ble_eq_true rfl) d_MD_compare_228 (fun _ X12 => ?_)
  refine jr_iconst (v := 0) hz d_MD_compare_231 (by decide) ?_
  exact jr_iret hz hr hlk d_MD_compare_232
def fx_MD_compare_b218 (a3 : Int32) (X : xh_T) : Option (Int32 × xh_T) :=
  if a3 = 0 then
  fx_MD_compare_b228 0 X
  else fx_MD_compare_b228 1 X
set_option maxRecDepth 100000 in
set_option maxHeartbeats 4000000 in
theorem jb_MD_compare_b218 {p : Program} {l : Launch} {e : Env} {s : State} {m : MethodId} {args : Array Value} {below : List Frame} {meth : Method} {c : Code} {D : va_G} {G : xh_G} (hz : xh_C p s m args c b_MD_compare 6 "SpendScriptModel" D G (xh_A G s.heap.size)) (hr : meth.sig.returnType = (some .int)) (hlk : meth.locks = false) (a3 : Int32) (X : xh_T) : xh_J p l e rm_MD_compare s m args below meth c 0 0 D G (xh_A G s.heap.size) 6 (fun r X' => MQ below (xh_Qi D G (xh_A G s.heap.size) r X') args s 0 0 (xh_A G s.heap.size)) 218 [(0, .ref (G.1 206)), (3, .int a3)] [] X (fx_MD_compare_b218 a3 X) := by
  unfold fx_MD_compare_b218
  refine jr_aload_n hz d_MD_compare_218 rfl 0 rfl ?_
  refine jr_iload_n hz d_MD_compare_219 rfl 1 rfl ?_
  refine jr_if_eq (tgt := 227) hz d_MD_compare_220 (by decide) ?_ ?_
  · refine jr_lconst (v := 0) hz d_MD_compare_227 (by decide) ?_
    refine jr_sub (ls' := []) [] rfl ?_
    exact jb_MD_compare_b228 hz hr hlk 0 X
  · refine jr_lconst (v := 1) hz d_MD_compare_223 (by decide) ?_
    refine jr_goto (tgt := 228) hz d_MD_compare_224 (by decide) ?_
    refine jr_sub (ls' := []) [] rfl ?_
    exact jb_MD_compare_b228 hz hr hlk 1 X
def fx_MD_compare_b199 (a1 : Int32) (a3 : Int32) (X : xh_T) : Option (Int32 × xh_T) :=
  xh_b (fx_MD_pop 2 X) (fun (_ : Unit) (X11 : xh_T) =>
  if a1 = 135 then
  fx_MD_compare_b218 a3 X11
  else if a1 = 172 then
  fx_MD_compare_b218 a3 X11
  else some (0, X11))
set_option maxRecDepth 100000 in
set_option maxHeartbeats 4000000 in
theorem jb_MD_compare_b199 {p : Program} {l : Launch} {e : Env} {s : State} {m : MethodId} {args : Array Value} {below : List Frame} {meth : Method} {c : Code} {D : va_G} {G : xh_G} (hz : xh_C p s m args c b_MD_compare 6 "SpendScriptModel" D G (xh_A G s.heap.size)) (hr : meth.sig.returnType = (some .int)) (hlk : meth.locks = false) (a1 : Int32) (a3 : Int32) (X : xh_T) : xh_J p l e rm_MD_compare s m args below meth c 0 0 D G (xh_A G s.heap.size) 6 (fun r X' => MQ below (xh_Qi D G (xh_A G s.heap.size) r X') args s 0 0 (xh_A G s.heap.size)) 199 [(0, .ref (G.1 206)), (1, .int a1), (3, .int a3)] [] X (fx_MD_compare_b199 a1 a3 X) := by
  unfold fx_MD_compare_b199
  refine jr_aload_n hz d_MD_compare_199 rfl 0 rfl ?_
  refine jr_iconst (v := 2) hz d_MD_compare_200 (by decide) ?_
  refine jr_callVv (As := [.int 2]) (a := 206) (ci := 7) (st := []) hz (cx_MD_pop l D G hz.2.2.2.2.2.2.1 2 X) (fun _ _ => ⟨lq_206, _, ly_206⟩) wv_MD_138 ⟨rfl, rfl, Nat.le_of_ble_eq_true rfl, Nat.le_of_ble_eq_true rfl⟩ ⟨Nat.zero_le _, Nat.zero_le _⟩ rfl rfl (Nat.le_of_ble_eq_true rfl) d_MD_compare_201 (fun _ X11 => ?_)
  refine jr_iload_n hz d_MD_compare_204 rfl 1 rfl ?_
  refine jr_sipush (v := 135) hz d_MD_compare_205 (by decide) ?_
  refine jr_icmp_eq (tgt := 218) hz d_MD_compare_208 (by decide) ?_ ?_
  · refine jr_sub (ls' := [(0, .ref (G.1 206)), (3, .int a3)]) [0, 2] rfl ?_
    exact jb_MD_compare_b218 hz hr hlk a3 X11
  · refine jr_iload_n hz d_MD_compare_211 rfl 1 rfl ?_
    refine jr_sipush (v := 172) hz d_MD_compare_212 (by decide) ?_
    refine jr_icmp_ne (tgt := 231) hz d_MD_compare_215 (by decide) ?_ ?_
    · refine jr_iconst (v := 0) hz d_MD_compare_231 (by decide) ?_
      exact jr_iret hz hr hlk d_MD_compare_232
    · refine jr_sub (ls' := [(0, .ref (G.1 206)), (3, .int a3)]) [0, 2] rfl ?_
      exact jb_MD_compare_b218 hz hr hlk a3 X11
def fx_MD_compare_b192 (a1 : Int32) (a3 : Int32) (X : xh_T) : Option (Int32 × xh_T) :=
  if a3 = 0 then
  some (9, X)
  else fx_MD_compare_b199 a1 a3 X
set_option maxRecDepth 100000 in
set_option maxHeartbeats 4000000 in
theorem jb_MD_compare_b192 {p : Program} {l : Launch} {e : Env} {s : State} {m : MethodId} {args : Array Value} {below : List Frame} {meth : Method} {c : Code} {D : va_G} {G : xh_G} (hz : xh_C p s m args c b_MD_compare 6 "SpendScriptModel" D G (xh_A G s.heap.size)) (hr : meth.sig.returnType = (some .int)) (hlk : meth.locks = false) (a1 : Int32) (a3 : Int32) (X : xh_T) : xh_J p l e rm_MD_compare s m args below meth c 0 0 D G (xh_A G s.heap.size) 6 (fun r X' => MQ below (xh_Qi D G (xh_A G s.heap.size) r X') args s 0 0 (xh_A G s.heap.size)) 192 [(0, .ref (G.1 206)), (1, .int a1), (3, .int a3)] [] X (fx_MD_compare_b192 a1 a3 X) := by
  unfold fx_MD_compare_b192
  refine jr_iload_n hz d_MD_compare_192 rfl 2 rfl ?_
  refine jr_if_ne (tgt := 199) hz d_MD_compare_193 (by decide) ?_ ?_
  · refine jr_sub (ls' := [(0, .ref (G.1 206)), (1, .int a1), (3, .int a3)]) [0, 1, 2] rfl ?_
    exact jb_MD_compare_b199 hz hr hlk a1 a3 X
  · refine jr_bipush (v := 9) hz d_MD_compare_196 (by decide) ?_
    exact jr_iret hz hr hlk d_MD_compare_198
def fx_MD_compare_b177 (a1 : Int32) (s0 : Int32) (X : xh_T) : Option (Int32 × xh_T) :=
  xh_n s0 (fun v37 : Int32 =>
  if a1 = 136 then
  fx_MD_compare_b192 a1 v37 X
  else if a1 = 173 then
  fx_MD_compare_b192 a1 v37 X
  else fx_MD_compare_b199 a1 v37 X)
set_option maxRecDepth 100000 in
set_option maxHeartbeats 4000000 in
theorem jb_MD_compare_b177 {p : Program} {l : Launch} {e : Env} {s : State} {m : MethodId} {args : Array Value} {below : List Frame} {meth : Method} {c : Code} {D : va_G} {G : xh_G} (hz : xh_C p s m args c b_MD_compare 6 "SpendScriptModel" D G (xh_A G s.heap.size)) (hr : meth.sig.returnType = (some .int)) (hlk : meth.locks = false) (a1 : Int32) (s0 : Int32) (X : xh_T) : xh_J p l e rm_MD_compare s m args below meth c 0 0 D G (xh_A G s.heap.size) 6 (fun r X' => MQ below (xh_Qi D G (xh_A G s.heap.size) r X') args s 0 0 (xh_A G s.heap.size)) 177 [(0, .ref (G.1 206)), (1, .int a1)] [.int s0] X (fx_MD_compare_b177 a1 s0 X) := by
  unfold fx_MD_compare_b177
  refine jr_istore_n (lf := [(0, .ref (G.1 206)), (1, .int a1)]) hz d_MD_compare_177 rfl (by decide) rfl (fun v37 => ?_)
  refine jr_iload_n hz d_MD_compare_178 rfl 2 rfl ?_
  refine jr_sipush (v := 136) hz d_MD_compare_179 (by decide) ?_
  refine jr_icmp_eq (tgt := 192) hz d_MD_compare_182 (by decide) ?_ ?_
  · refine jr_sub (ls' := [(0, .ref (G.1 206)), (1, .int a1), (3, .int v37)]) [1, 2, 0] rfl ?_
    exact jb_MD_compare_b192 hz hr hlk a1 v37 X
  · refine jr_iload_n hz d_MD_compare_185 rfl 2 rfl ?_
    refine jr_sipush (v := 173) hz d_MD_compare_186 (by decide) ?_
    refine jr_icmp_ne (tgt := 199) hz d_MD_compare_189 (by decide) ?_ ?_
    · refine jr_sub (ls' := [(0, .ref (G.1 206)), (1, .int a1), (3, .int v37)]) [1, 2, 0] rfl ?_
      exact jb_MD_compare_b199 hz hr hlk a1 v37 X
    · refine jr_sub (ls' := [(0, .ref (G.1 206)), (1, .int a1), (3, .int v37)]) [1, 2, 0] rfl ?_
      exact jb_MD_compare_b192 hz hr hlk a1 v37 X
def fx_MD_compare_b33 (a1 : Int32) (s0 : Int32) (X : xh_T) : Option (Int32 × xh_T) :=
  xh_n s0 (fun v1 : Int32 =>
  if a1 = 174 then
  xh_b (fx_MD_many X) (fun (r33 : Int32) (X9 : xh_T) =>
  some (r33, X9))
  else if v1 ≤ X.1 206 5 then
  if a1 = 130 then
  xh_b (fx_MD_full 1 X) (fun (r22 : Int32) (X6 : xh_T) =>
  if r22 = 0 then
  xh_b (fx_MD_size 0 X6) (fun (r25 : Int32) (X7 : xh_T) =>
  xh_b (fx_MD_pushNumber ((r25 : Int32).toInt64) X7) (fun (_ : Unit) (X8 : xh_T) =>
  some (0, X8)))
  else some (14, X6))
  else if a1 = 169 then
  xh_b (fx_MD_hash 0 X) (fun (r10 : Int32) (X3 : xh_T) =>
  xh_n r10 (fun v14 : Int32 =>
  xh_b (fx_MD_row 0 X3) (fun (r15 : Int32) (X4 : xh_T) =>
  xh_n r15 (fun v19 : Int32 =>
  xh_o v19 1089 (xh_n (xh_i X4 209 v19.toNatClampNeg 4) (fun X5 : xh_T =>
  xh_n 0 (fun v20 : Int32 =>
  fx_MD_compare_b118 sp_fuel v14 v19 v20 X5)))))))
  else if 172 ≤ a1 then
  xh_b (fx_MD_valid 1 0 X) (fun (r3 : Int32) (X1 : xh_T) =>
  fx_MD_compare_b177 a1 r3 X1)
  else xh_b (fx_MD_same 0 1 X) (fun (r7 : Int32) (X2 : xh_T) =>
  fx_MD_compare_b177 a1 r7 X2)
  else some (11, X))
set_option maxRecDepth 100000 in
set_option maxHeartbeats 4000000 in
theorem jb_MD_compare_b33 {p : Program} {l : Launch} {e : Env} {s : State} {m : MethodId} {args : Array Value} {below : List Frame} {meth : Method} {c : Code} {D : va_G} {G : xh_G} (hz : xh_C p s m args c b_MD_compare 6 "SpendScriptModel" D G (xh_A G s.heap.size)) (hr : meth.sig.returnType = (some .int)) (hlk : meth.locks = false) (a1 : Int32) (s0 : Int32) (X : xh_T) : xh_J p l e rm_MD_compare s m args below meth c 0 0 D G (xh_A G s.heap.size) 6 (fun r X' => MQ below (xh_Qi D G (xh_A G s.heap.size) r X') args s 0 0 (xh_A G s.heap.size)) 33 [(0, .ref (G.1 206)), (1, .int a1)] [.int s0] X (fx_MD_compare_b33 a1 s0 X) := by
  unfold fx_MD_compare_b33
  refine jr_istore_n (lf := [(0, .ref (G.1 206)), (1, .int a1)]) hz d_MD_compare_33 rfl (by decide) rfl (fun v1 => ?_)
  refine jr_iload_n hz d_MD_compare_34 rfl 2 rfl ?_
  refine jr_sipush (v := 174) hz d_MD_compare_35 (by decide) ?_
  refine jr_icmp_ne (tgt := 46) hz d_MD_compare_38 (by decide) ?_ ?_
  · refine jr_aload_n hz d_MD_compare_46 rfl 1 rfl ?_
    refine jr_geti (j := 5) hz lq_206 ly_206 rfl wf_MD_56 d_MD_compare_47 ?_
    refine jr_iload_n hz d_MD_compare_50 rfl 0 rfl ?_
    refine jr_icmp_ge (tgt := 57) hz d_MD_compare_51 (by decide) ?_ ?_
    · refine jr_iload_n hz d_MD_compare_57 rfl 2 rfl ?_
      refine jr_sipush (v := 130) hz d_MD_compare_58 (by decide) ?_
      refine jr_icmp_ne (tgt := 87) hz d_MD_compare_61 (by decide) ?_ ?_
      · refine jr_iload_n hz d_MD_compare_87 rfl 2 rfl ?_
        refine jr_sipush (v := 169) hz d_MD_compare_88 (by decide) ?_
        refine jr_icmp_ne (tgt := 155) hz d_MD_compare_91 (by decide) ?_ ?_
        · refine jr_iload_n hz d_MD_compare_155 rfl 2 rfl ?_
          refine jr_sipush (v := 172) hz d_MD_compare_156 (by decide) ?_
          refine jr_icmp_ge (tgt := 171) hz d_MD_compare_159 (by decide) ?_ ?_
          · refine jr_aload_n hz d_MD_compare_171 rfl 1 rfl ?_
            refine jr_iconst (v := 1) hz d_MD_compare_172 (by decide) ?_
            refine jr_iconst (v := 0) hz d_MD_compare_173 (by decide) ?_
            refine jr_callVi (As := [.int 1, .int 0]) (a := 206) (ci := 7) (st := []) hz (cx_MD_valid l D G hz.2.2.2.2.2.2.1 1 0 X) (fun _ _ => ⟨lq_206, _, ly_206⟩) wv_MD_168 ⟨rfl, rfl, Nat.le_of_ble_eq_true rfl, Nat.le_of_ble_eq_true rfl⟩ ⟨Nat.zero_le _, Nat.zero_le _⟩ rfl rfl (Nat.le_of_ble_eq_true rfl) d_MD_compare_174 (fun r3 X1 => ?_)
            refine jr_sub (ls' := [(0, .ref (G.1 206)), (1, .int a1)]) [1, 2] rfl ?_
            exact jb_MD_compare_b177 hz hr hlk a1 r3 X1
          · refine jr_aload_n hz d_MD_compare_162 rfl 1 rfl ?_
            refine jr_iconst (v := 0) hz d_MD_compare_163 (by decide) ?_
            refine jr_iconst (v := 1) hz d_MD_compare_164 (by decide) ?_
            refine jr_callVi (As := [.int 0, .int 1]) (a := 206) (ci := 7) (st := []) hz (cx_MD_same l D G hz.2.2.2.2.2.2.1 0 1 X) (fun _ _ => ⟨lq_206, _, ly_206⟩) wv_MD_164 ⟨rfl, rfl, Nat.le_of_ble_eq_true rfl, Nat.le_of_ble_eq_true rfl⟩ ⟨Nat.zero_le _, Nat.zero_le _⟩ rfl rfl (Nat.le_of_ble_eq_true rfl) d_MD_compare_165 (fun r7 X2 => ?_)
            refine jr_goto (tgt := 177) hz d_MD_compare_168 (by decide) ?_
            refine jr_sub (ls' := [(0, .ref (G.1 206)), (1, .int a1)]) [1, 2] rfl ?_
            exact jb_MD_compare_b177 hz hr hlk a1 r7 X2
        · refine jr_aload_n hz d_MD_compare_94 rfl 1 rfl ?_
          refine jr_iconst (v := 0) hz d_MD_compare_95 (by decide) ?_
          refine jr_callVi (As := [.int 0]) (a := 206) (ci := 7) (st := []) hz (cx_MD_hash l D G hz.2.2.2.2.2.2.1 0 X) (fun _ _ => ⟨lq_206, _, ly_206⟩) wv_MD_87 ⟨rfl, rfl, Nat.le_of_ble_eq_true rfl, Nat.le_of_ble_eq_true rfl⟩ ⟨Nat.zero_le _, Nat.zero_le _⟩ rfl rfl (Nat.le_of_ble_eq_true rfl) d_MD_compare_96 (fun r10 X3 => ?_)
          refine jr_istore_n (lf := [(2, .int v1), (0, .ref (G.1 206)), (1, .int a1)]) hz d_MD_compare_99 rfl (by decide) rfl (fun v14 => ?_)
          refine jr_aload_n hz d_MD_compare_100 rfl 2 rfl ?_
          refine jr_iconst (v := 0) hz d_MD_compare_101 (by decide) ?_
          refine jr_callVi (As := [.int 0]) (a := 206) (ci := 7) (st := []) hz (cx_MD_row l D G hz.2.2.2.2.2.2.1 0 X3) (fun _ _ => ⟨lq_206, _, ly_206⟩) wv_MD_59 ⟨rfl, rfl, Nat.le_of_ble_eq_true rfl, Nat.le_of_ble_eq_true rfl⟩ ⟨Nat.zero_le _, Nat.zero_le _⟩ rfl rfl (Nat.le_of_ble_eq_true rfl) d_MD_compare_102 (fun r15 X4 => ?_)
          refine jr_istore (lf := [(3, .int v14), (2, .int v1), (0, .ref (G.1 206)), (1, .int a1)]) hz d_MD_compare_105 (by decide) rfl (fun v19 => ?_)
          refine jr_aload_n hz d_MD_compare_107 rfl 3 rfl ?_
          refine jr_getr (j := 2) (t := 209) hz lq_206 ly_206 rfl wf_MD_16 d_MD_compare_108 ?_
          refine jr_iload hz d_MD_compare_111 0 rfl ?_
          refine jr_iconst (v := 4) hz d_MD_compare_113 (by decide) ?_
          refine jr_iast (n := 1089) hz lq_209 ly_209 d_MD_compare_114 (fun X5 => ?_)
          refine jr_iconst (v := 0) hz d_MD_compare_115 (by decide) ?_
          refine jr_istore (lf := [(4, .int v19), (3, .int v14), (2, .int v1), (0, .ref (G.1 206)), (1, .int a1)]) hz d_MD_compare_116 (by decide) rfl (fun v20 => ?_)
          refine jr_sub (ls' := [(0, .ref (G.1 206)), (3, .int v14), (4, .int v19), (5, .int v20)]) [4, 2, 1, 0] rfl ?_
          exact jb_MD_compare_b118 hz hr hlk sp_fuel v14 v19 v20 X5
      · refine jr_aload_n hz d_MD_compare_64 rfl 1 rfl ?_
        refine jr_iconst (v := 1) hz d_MD_compare_65 (by decide) ?_
        refine jr_callVi (As := [.int 1]) (a := 206) (ci := 7) (st := []) hz (cx_MD_full l D G hz.2.2.2.2.2.2.1 1 X) (fun _ _ => ⟨lq_206, _, ly_206⟩) wv_MD_109 ⟨rfl, rfl, Nat.le_of_ble_eq_true rfl, Nat.le_of_ble_eq_true rfl⟩ ⟨Nat.zero_le _, Nat.zero_le _⟩ rfl rfl (Nat.le_of_ble_eq_true rfl) d_MD_compare_66 (fun r22 X6 => ?_)
        refine jr_if_eq (tgt := 75) hz d_MD_compare_69 (by decide) ?_ ?_
        · refine jr_aload_n hz d_MD_compare_75 rfl 1 rfl ?_
          refine jr_aload_n hz d_MD_compare_76 rfl 1 rfl ?_
          refine jr_iconst (v := 0) hz d_MD_compare_77 (by decide) ?_
          refine jr_callVi (As := [.int 0]) (a := 206) (ci := 7) (st := [.ref (G.1 206)]) hz (cx_MD_size l D G hz.2.2.2.2.2.2.1 0 X6) (fun _ _ => ⟨lq_206, _, ly_206⟩) wv_MD_63 ⟨rfl, rfl, Nat.le_of_ble_eq_true rfl, Nat.le_of_ble_eq_true rfl⟩ ⟨Nat.zero_le _, Nat.zero_le _⟩ rfl rfl (Nat.le_of_ble_eq_true rfl) d_MD_compare_78 (fun r25 X7 => ?_)
          refine jr_i2l hz d_MD_compare_81 ?_
          refine jr_callVv (As := [.long ((r25 : Int32).toInt64)]) (a := 206) (ci := 7) (st := []) hz (cx_MD_pushNumber l D G hz.2.2.2.2.2.2.1 ((r25 : Int32).toInt64) X7) (fun _ _ => ⟨lq_206, _, ly_206⟩) wv_MD_112 ⟨rfl, rfl, Nat.le_of_ble_eq_true rfl, Nat.le_of_ble_eq_true rfl⟩ ⟨Nat.zero_le _, Nat.zero_le _⟩ rfl rfl (Nat.le_of_ble_eq_true rfl) d_MD_compare_82 (fun _ X8 => ?_)
          refine jr_iconst (v := 0) hz d_MD_compare_85 (by decide) ?_
          exact jr_iret hz hr hlk d_MD_compare_86
        · refine jr_bipush (v := 14) hz d_MD_compare_72 (by decide) ?_
          exact jr_iret hz hr hlk d_MD_compare_74
    · refine jr_bipush (v := 11) hz d_MD_compare_54 (by decide) ?_
      exact jr_iret hz hr hlk d_MD_compare_56
  · refine jr_aload_n hz d_MD_compare_41 rfl 1 rfl ?_
    refine jr_callVi (As := []) (a := 206) (ci := 7) (st := []) hz (cx_MD_many l D G hz.2.2.2.2.2.2.1 X) (fun _ _ => ⟨lq_206, _, ly_206⟩) wv_MD_160 ⟨rfl, rfl, Nat.le_of_ble_eq_true rfl, Nat.le_of_ble_eq_true rfl⟩ ⟨Nat.zero_le _, Nat.zero_le _⟩ rfl rfl (Nat.le_of_ble_eq_true rfl) d_MD_compare_42 (fun r33 X9 => ?_)
    exact jr_iret hz hr hlk d_MD_compare_45
def fx_MD_compare_b28 (a1 : Int32) (X : xh_T) : Option (Int32 × xh_T) :=
  fx_MD_compare_b33 a1 2 X
set_option maxRecDepth 100000 in
set_option maxHeartbeats 4000000 in
theorem jb_MD_compare_b28 {p : Program} {l : Launch} {e : Env} {s : State} {m : MethodId} {args : Array Value} {below : List Frame} {meth : Method} {c : Code} {D : va_G} {G : xh_G} (hz : xh_C p s m args c b_MD_compare 6 "SpendScriptModel" D G (xh_A G s.heap.size)) (hr : meth.sig.returnType = (some .int)) (hlk : meth.locks = false) (a1 : Int32) (X : xh_T) : xh_J p l e rm_MD_compare s m args below meth c 0 0 D G (xh_A G s.heap.size) 6 (fun r X' => MQ below (xh_Qi D G (xh_A G s.heap.size) r X') args s 0 0 (xh_A G s.heap.size)) 28 [(0, .ref (G.1 206)), (1, .int a1)] [] X (fx_MD_compare_b28 a1 X) := by
  unfold fx_MD_compare_b28
  refine jr_iconst (v := 2) hz d_MD_compare_28 (by decide) ?_
  refine jr_goto (tgt := 33) hz d_MD_compare_29 (by decide) ?_
  refine jr_sub (ls' := [(0, .ref (G.1 206)), (1, .int a1)]) [0, 1] rfl ?_
  exact jb_MD_compare_b33 hz hr hlk a1 2 X
def fx_MD_compare (p1 : Int32) (X : xh_T) : Option (Int32 × xh_T) :=
  if p1 = 135 then
  fx_MD_compare_b28 p1 X
  else if p1 = 136 then
  fx_MD_compare_b28 p1 X
  else if p1 = 172 then
  fx_MD_compare_b28 p1 X
  else if p1 = 173 then
  fx_MD_compare_b28 p1 X
  else fx_MD_compare_b33 p1 1 X
set_option maxRecDepth 100000 in
set_option maxHeartbeats 4000000 in
theorem cx_MD_compare (l : Launch) (D : va_G) (G : xh_G) (hD : xh_D G) (p1 : Int32) (X : xh_T) : xh_M xh_Qi l D G y_MD_compare b_MD_compare 6 (some .int) rm_MD_compare [.ref (G.1 206), .int p1] X (fx_MD_compare p1 X) := by
  refine xh_enter (ls := [(0, .ref (G.1 206)), (1, .int p1)]) hD (by decide +kernel) (Nat.le_of_ble_eq_true rfl) rfl ?_
  intro p e s m args below meth c hz hr hlk
  unfold fx_MD_compare
  refine jr_iload_n hz d_MD_compare_0 rfl 1 rfl ?_
  refine jr_sipush (v := 135) hz d_MD_compare_1 (by decide) ?_
  refine jr_icmp_eq (tgt := 28) hz d_MD_compare_4 (by decide) ?_ ?_
  · refine jr_sub (ls' := [(0, .ref (G.1 206)), (1, .int p1)]) [0, 1] rfl ?_
    exact jb_MD_compare_b28 hz hr hlk p1 X
  · refine jr_iload_n hz d_MD_compare_7 rfl 1 rfl ?_
    refine jr_sipush (v := 136) hz d_MD_compare_8 (by decide) ?_
    refine jr_icmp_eq (tgt := 28) hz d_MD_compare_11 (by decide) ?_ ?_
    · refine jr_sub (ls' := [(0, .ref (G.1 206)), (1, .int p1)]) [0, 1] rfl ?_
      exact jb_MD_compare_b28 hz hr hlk p1 X
    · refine jr_iload_n hz d_MD_compare_14 rfl 1 rfl ?_
      refine jr_sipush (v := 172) hz d_MD_compare_15 (by decide) ?_
      refine jr_icmp_eq (tgt := 28) hz d_MD_compare_18 (by decide) ?_ ?_
      · refine jr_sub (ls' := [(0, .ref (G.1 206)), (1, .int p1)]) [0, 1] rfl ?_
        exact jb_MD_compare_b28 hz hr hlk p1 X
      · refine jr_iload_n hz d_MD_compare_21 rfl 1 rfl ?_
        refine jr_sipush (v := 173) hz d_MD_compare_22 (by decide) ?_
        refine jr_icmp_ne (tgt := 32) hz d_MD_compare_25 (by decide) ?_ ?_
        · refine jr_iconst (v := 1) hz d_MD_compare_32 (by decide) ?_
          refine jr_sub (ls' := [(0, .ref (G.1 206)), (1, .int p1)]) [0, 1] rfl ?_
          exact jb_MD_compare_b33 hz hr hlk p1 1 X
        · refine jr_sub (ls' := [(0, .ref (G.1 206)), (1, .int p1)]) [0, 1] rfl ?_
          exact jb_MD_compare_b28 hz hr hlk p1 X

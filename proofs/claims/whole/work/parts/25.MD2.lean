/-! printed by wip/whole/gen_walks.py -/
theorem d_MD_take_0 : decode b_MD_take 0 = .ok (.iload_n 1, 1) := by decide +kernel
theorem d_MD_take_1 : decode b_MD_take 1 = .ok (.aload_n 0, 1) := by decide +kernel
theorem d_MD_take_2 : decode b_MD_take 2 = .ok (.getfield 56, 3) := by decide +kernel
theorem d_MD_take_5 : decode b_MD_take 5 = .ok (.if_icmp .lt 6, 3) := by decide +kernel
theorem d_MD_take_8 : decode b_MD_take 8 = .ok (.bipush 11, 2) := by decide +kernel
theorem d_MD_take_10 : decode b_MD_take 10 = .ok (.ireturn, 1) := by decide +kernel
theorem d_MD_take_11 : decode b_MD_take 11 = .ok (.aload_n 0, 1) := by decide +kernel
theorem d_MD_take_12 : decode b_MD_take 12 = .ok (.iload_n 1, 1) := by decide +kernel
theorem d_MD_take_13 : decode b_MD_take 13 = .ok (.iload_n 1, 1) := by decide +kernel
theorem d_MD_take_14 : decode b_MD_take 14 = .ok (.invokevirtual 79, 3) := by decide +kernel
theorem d_MD_take_17 : decode b_MD_take 17 = .ok (.ireturn, 1) := by decide +kernel
theorem wv_MD_79 : xh_V "SpendScriptModel" 79 7 y_MD_valueInto b_MD_valueInto 7 (some .int) 2 := ⟨(sp_tb (List.mem_of_getElem? (i := 686) (by decide +kernel))), (sp_tb (List.mem_of_getElem? (i := 8) (by decide +kernel))), (sp_tb (List.mem_of_getElem? (i := 683) (by decide +kernel))), ⟨by decide +kernel, by decide +kernel, by decide +kernel⟩, (sp_tb (List.mem_of_getElem? (i := 685) (by decide +kernel))), (sp_pv (q := (y_MD_valueInto, 19)) (List.mem_of_getElem? (i := 37) (by decide +kernel))), F_MD, 19, rfl⟩
abbrev rm_MD_take : Room := { frames := 3, cells := 0, slots := 0, locals := 69 }
def fx_MD_take (p1 : Int32) (X : xh_T) : Option (Int32 × xh_T) :=
  if p1 < X.1 206 5 then
  xh_b (fx_MD_valueInto p1 p1 X) (fun (r1 : Int32) (X1 : xh_T) =>
  some (r1, X1))
  else some (11, X)
set_option maxRecDepth 100000 in
set_option maxHeartbeats 4000000 in
theorem cx_MD_take (l : Launch) (D : va_G) (G : xh_G) (hD : xh_D G) (p1 : Int32) (X : xh_T) : xh_M xh_Qi l D G y_MD_take b_MD_take 2 (some .int) rm_MD_take [.ref (G.1 206), .int p1] X (fx_MD_take p1 X) := by
  refine xh_enter (ls := [(0, .ref (G.1 206)), (1, .int p1)]) hD (by decide +kernel) (Nat.le_of_ble_eq_true rfl) rfl ?_
  intro p e s m args below meth c hz hr hlk
  unfold fx_MD_take
  refine jr_iload_n hz d_MD_take_0 rfl 1 rfl ?_
  refine jr_aload_n hz d_MD_take_1 rfl 0 rfl ?_
  refine jr_geti (j := 5) hz lq_206 ly_206 rfl wf_MD_56 d_MD_take_2 ?_
  refine jr_icmp_lt (tgt := 11) hz d_MD_take_5 (by decide) ?_ ?_
  · refine jr_aload_n hz d_MD_take_11 rfl 0 rfl ?_
    refine jr_iload_n hz d_MD_take_12 rfl 1 rfl ?_
    refine jr_iload_n hz d_MD_take_13 rfl 1 rfl ?_
    refine jr_callVi (As := [.int p1, .int p1]) (a := 206) (ci := 7) (st := []) hz (cx_MD_valueInto l D G hz.2.2.2.2.2.2.1 p1 p1 X) (fun _ _ => ⟨lq_206, _, ly_206⟩) wv_MD_79 ⟨rfl, rfl, Nat.le_of_ble_eq_true rfl, Nat.le_of_ble_eq_true rfl⟩ ⟨Nat.zero_le _, Nat.zero_le _⟩ rfl rfl (Nat.le_of_ble_eq_true rfl) d_MD_take_14 (fun r1 X1 => ?_)
    exact jr_iret hz hr hlk d_MD_take_17
  · refine jr_bipush (v := 11) hz d_MD_take_8 (by decide) ?_
    exact jr_iret hz hr hlk d_MD_take_10
theorem d_MD_wellFormed_0 : decode b_MD_wellFormed 0 = .ok (.aload_n 0, 1) := by decide +kernel
theorem d_MD_wellFormed_1 : decode b_MD_wellFormed 1 = .ok (.iload_n 1, 1) := by decide +kernel
theorem d_MD_wellFormed_2 : decode b_MD_wellFormed 2 = .ok (.invokevirtual 63, 3) := by decide +kernel
theorem d_MD_wellFormed_5 : decode b_MD_wellFormed 5 = .ok (.istore_n 2, 1) := by decide +kernel
theorem d_MD_wellFormed_6 : decode b_MD_wellFormed 6 = .ok (.iload_n 2, 1) := by decide +kernel
theorem d_MD_wellFormed_7 : decode b_MD_wellFormed 7 = .ok (.bipush 6, 2) := by decide +kernel
theorem d_MD_wellFormed_9 : decode b_MD_wellFormed 9 = .ok (.if_icmp .lt 48, 3) := by decide +kernel
theorem d_MD_wellFormed_12 : decode b_MD_wellFormed 12 = .ok (.aload_n 0, 1) := by decide +kernel
theorem d_MD_wellFormed_13 : decode b_MD_wellFormed 13 = .ok (.iload_n 1, 1) := by decide +kernel
theorem d_MD_wellFormed_14 : decode b_MD_wellFormed 14 = .ok (.iconst 0, 1) := by decide +kernel
theorem d_MD_wellFormed_15 : decode b_MD_wellFormed 15 = .ok (.invokevirtual 66, 3) := by decide +kernel
theorem d_MD_wellFormed_18 : decode b_MD_wellFormed 18 = .ok (.bipush 48, 2) := by decide +kernel
theorem d_MD_wellFormed_20 : decode b_MD_wellFormed 20 = .ok (.if_icmp .ne 37, 3) := by decide +kernel
theorem d_MD_wellFormed_23 : decode b_MD_wellFormed 23 = .ok (.aload_n 0, 1) := by decide +kernel
theorem d_MD_wellFormed_24 : decode b_MD_wellFormed 24 = .ok (.iload_n 1, 1) := by decide +kernel
theorem d_MD_wellFormed_25 : decode b_MD_wellFormed 25 = .ok (.iconst 1, 1) := by decide +kernel
theorem d_MD_wellFormed_26 : decode b_MD_wellFormed 26 = .ok (.invokevirtual 66, 3) := by decide +kernel
theorem d_MD_wellFormed_29 : decode b_MD_wellFormed 29 = .ok (.iload_n 2, 1) := by decide +kernel
theorem d_MD_wellFormed_30 : decode b_MD_wellFormed 30 = .ok (.iconst 3, 1) := by decide +kernel
theorem d_MD_wellFormed_31 : decode b_MD_wellFormed 31 = .ok (.isub, 1) := by decide +kernel
theorem d_MD_wellFormed_32 : decode b_MD_wellFormed 32 = .ok (.if_icmp .ne 25, 3) := by decide +kernel
theorem d_MD_wellFormed_35 : decode b_MD_wellFormed 35 = .ok (.aload_n 0, 1) := by decide +kernel
theorem d_MD_wellFormed_36 : decode b_MD_wellFormed 36 = .ok (.iload_n 1, 1) := by decide +kernel
theorem d_MD_wellFormed_37 : decode b_MD_wellFormed 37 = .ok (.iconst 2, 1) := by decide +kernel
theorem d_MD_wellFormed_38 : decode b_MD_wellFormed 38 = .ok (.invokevirtual 66, 3) := by decide +kernel
theorem d_MD_wellFormed_41 : decode b_MD_wellFormed 41 = .ok (.iconst 2, 1) := by decide +kernel
theorem d_MD_wellFormed_42 : decode b_MD_wellFormed 42 = .ok (.if_icmp .ne 15, 3) := by decide +kernel
theorem d_MD_wellFormed_45 : decode b_MD_wellFormed 45 = .ok (.aload_n 0, 1) := by decide +kernel
theorem d_MD_wellFormed_46 : decode b_MD_wellFormed 46 = .ok (.iload_n 1, 1) := by decide +kernel
theorem d_MD_wellFormed_47 : decode b_MD_wellFormed 47 = .ok (.iconst 3, 1) := by decide +kernel
theorem d_MD_wellFormed_48 : decode b_MD_wellFormed 48 = .ok (.invokevirtual 66, 3) := by decide +kernel
theorem d_MD_wellFormed_51 : decode b_MD_wellFormed 51 = .ok (.iload_n 2, 1) := by decide +kernel
theorem d_MD_wellFormed_52 : decode b_MD_wellFormed 52 = .ok (.iconst 5, 1) := by decide +kernel
theorem d_MD_wellFormed_53 : decode b_MD_wellFormed 53 = .ok (.isub, 1) := by decide +kernel
theorem d_MD_wellFormed_54 : decode b_MD_wellFormed 54 = .ok (.if_icmp .eq 5, 3) := by decide +kernel
theorem d_MD_wellFormed_57 : decode b_MD_wellFormed 57 = .ok (.iconst 0, 1) := by decide +kernel
theorem d_MD_wellFormed_58 : decode b_MD_wellFormed 58 = .ok (.ireturn, 1) := by decide +kernel
theorem d_MD_wellFormed_59 : decode b_MD_wellFormed 59 = .ok (.aload_n 0, 1) := by decide +kernel
theorem d_MD_wellFormed_60 : decode b_MD_wellFormed 60 = .ok (.iload_n 1, 1) := by decide +kernel
theorem d_MD_wellFormed_61 : decode b_MD_wellFormed 61 = .ok (.iconst 4, 1) := by decide +kernel
theorem d_MD_wellFormed_62 : decode b_MD_wellFormed 62 = .ok (.invokevirtual 66, 3) := by decide +kernel
theorem d_MD_wellFormed_65 : decode b_MD_wellFormed 65 = .ok (.istore_n 3, 1) := by decide +kernel
theorem d_MD_wellFormed_66 : decode b_MD_wellFormed 66 = .ok (.iload_n 3, 1) := by decide +kernel
theorem d_MD_wellFormed_67 : decode b_MD_wellFormed 67 = .ok (.iconst 1, 1) := by decide +kernel
theorem d_MD_wellFormed_68 : decode b_MD_wellFormed 68 = .ok (.if_icmp .lt 9, 3) := by decide +kernel
theorem d_MD_wellFormed_71 : decode b_MD_wellFormed 71 = .ok (.iload_n 3, 1) := by decide +kernel
theorem d_MD_wellFormed_72 : decode b_MD_wellFormed 72 = .ok (.bipush 127, 2) := by decide +kernel
theorem d_MD_wellFormed_74 : decode b_MD_wellFormed 74 = .ok (.if_icmp .le 24, 3) := by decide +kernel
theorem d_MD_wellFormed_77 : decode b_MD_wellFormed 77 = .ok (.iload_n 3, 1) := by decide +kernel
theorem d_MD_wellFormed_78 : decode b_MD_wellFormed 78 = .ok (.ifCond .ne 24, 3) := by decide +kernel
theorem d_MD_wellFormed_81 : decode b_MD_wellFormed 81 = .ok (.iload_n 2, 1) := by decide +kernel
theorem d_MD_wellFormed_82 : decode b_MD_wellFormed 82 = .ok (.bipush 6, 2) := by decide +kernel
theorem d_MD_wellFormed_84 : decode b_MD_wellFormed 84 = .ok (.if_icmp .le 18, 3) := by decide +kernel
theorem d_MD_wellFormed_87 : decode b_MD_wellFormed 87 = .ok (.aload_n 0, 1) := by decide +kernel
theorem d_MD_wellFormed_88 : decode b_MD_wellFormed 88 = .ok (.iload_n 1, 1) := by decide +kernel
theorem d_MD_wellFormed_89 : decode b_MD_wellFormed 89 = .ok (.iconst 5, 1) := by decide +kernel
theorem d_MD_wellFormed_90 : decode b_MD_wellFormed 90 = .ok (.invokevirtual 66, 3) := by decide +kernel
theorem d_MD_wellFormed_93 : decode b_MD_wellFormed 93 = .ok (.bipush 127, 2) := by decide +kernel
theorem d_MD_wellFormed_95 : decode b_MD_wellFormed 95 = .ok (.if_icmp .le 7, 3) := by decide +kernel
theorem d_MD_wellFormed_98 : decode b_MD_wellFormed 98 = .ok (.iconst 1, 1) := by decide +kernel
theorem d_MD_wellFormed_99 : decode b_MD_wellFormed 99 = .ok (.goto 4, 3) := by decide +kernel
theorem d_MD_wellFormed_102 : decode b_MD_wellFormed 102 = .ok (.iconst 0, 1) := by decide +kernel
theorem d_MD_wellFormed_103 : decode b_MD_wellFormed 103 = .ok (.ireturn, 1) := by decide +kernel
abbrev rm_MD_wellFormed : Room := { frames := 2, cells := 0, slots := 0, locals := 43 }
def fx_MD_wellFormed_b98 (X : xh_T) : Option (Int32 × xh_T) :=
  some (1, X)
set_option maxRecDepth 100000 in
set_option maxHeartbeats 4000000 in
theorem jb_MD_wellFormed_b98 {p : Program} {l : Launch} {e : Env} {s : State} {m : MethodId} {args : Array Value} {below : List Frame} {meth : Method} {c : Code} {D : va_G} {G : xh_G} (hz : xh_C p s m args c b_MD_wellFormed 4 "SpendScriptModel" D G (xh_A G s.heap.size)) (hr : meth.sig.returnType = (some .boolean)) (hlk : meth.locks = false) (X : xh_T) : xh_J p l e rm_MD_wellFormed s m args below meth c 0 0 D G (xh_A G s.heap.size) 4 (fun r X' => MQ below (xh_Qi D G (xh_A G s.heap.size) r X') args s 0 0 (xh_A G s.heap.size)) 98 [] [] X (fx_MD_wellFormed_b98 X) := by
  unfold fx_MD_wellFormed_b98
  refine jr_iconst (v := 1) hz d_MD_wellFormed_98 (by decide) ?_
  refine jr_goto (tgt := 103) hz d_MD_wellFormed_99 (by decide) ?_
  exact jr_zret hz hr hlk (by decide) d_MD_wellFormed_103
def fx_MD_wellFormed_b77 (a1 : Int32) (a2 : Int32) (a3 : Int32) (X : xh_T) : Option (Int32 × xh_T) :=
  if a3 = 0 then
  if a2 ≤ 6 then
  some (0, X)
  else xh_b (fx_MD_at a1 5 X) (fun (r27 : Int32) (X7 : xh_T) =>
  if r27 ≤ 127 then
  some (0, X7)
  else fx_MD_wellFormed_b98 X7)
  else some (0, X)
set_option maxRecDepth 100000 in
set_option maxHeartbeats 4000000 in
theorem jb_MD_wellFormed_b77 {p : Program} {l : Launch} {e : Env} {s : State} {m : MethodId} {args : Array Value} {below : List Frame} {meth : Method} {c : Code} {D : va_G} {G : xh_G} (hz : xh_C p s m args c b_MD_wellFormed 4 "SpendScriptModel" D G (xh_A G s.heap.size)) (hr : meth.sig.returnType = (some .boolean)) (hlk : meth.locks = false) (a1 : Int32) (a2 : Int32) (a3 : Int32) (X : xh_T) : xh_J p l e rm_MD_wellFormed s m args below meth c 0 0 D G (xh_A G s.heap.size) 4 (fun r X' => MQ below (xh_Qi D G (xh_A G s.heap.size) r X') args s 0 0 (xh_A G s.heap.size)) 77 [(0, .ref (G.1 206)), (1, .int a1), (2, .int a2), (3, .int a3)] [] X (fx_MD_wellFormed_b77 a1 a2 a3 X) := by
  unfold fx_MD_wellFormed_b77
  refine jr_iload_n hz d_MD_wellFormed_77 rfl 3 rfl ?_
  refine jr_if_ne (tgt := 102) hz d_MD_wellFormed_78 (by decide) ?_ ?_
  · refine jr_iconst (v := 0) hz d_MD_wellFormed_102 (by decide) ?_
    exact jr_zret hz hr hlk (by decide) d_MD_wellFormed_103
  · refine jr_iload_n hz d_MD_wellFormed_81 rfl 2 rfl ?_
    refine jr_bipush (v := 6) hz d_MD_wellFormed_82 (by decide) ?_
    refine jr_icmp_le (tgt := 102) hz d_MD_wellFormed_84 (by decide) ?_ ?_
    · refine jr_iconst (v := 0) hz d_MD_wellFormed_102 (by decide) ?_
      exact jr_zret hz hr hlk (by decide) d_MD_wellFormed_103
    · refine jr_aload_n hz d_MD_wellFormed_87 rfl 0 rfl ?_
      refine jr_iload_n hz d_MD_wellFormed_88 rfl 1 rfl ?_
      refine jr_iconst (v := 5) hz d_MD_wellFormed_89 (by decide) ?_
      refine jr_callVi (As := [.int a1, .int 5]) (a := 206) (ci := 7) (st := []) hz (cx_MD_at l D G hz.2.2.2.2.2.2.1 a1 5 X) (fun _ _ => ⟨lq_206, _, ly_206⟩) wv_MD_66 ⟨rfl, rfl, Nat.le_of_ble_eq_true rfl, Nat.le_of_ble_eq_true rfl⟩ ⟨Nat.zero_le _, Nat.zero_le _⟩ rfl rfl (Nat.le_of_ble_eq_true rfl) d_MD_wellFormed_90 (fun r27 X7 => ?_)
      refine jr_bipush (v := 127) hz d_MD_wellFormed_93 (by decide) ?_
      refine jr_icmp_le (tgt := 102) hz d_MD_wellFormed_95 (by decide) ?_ ?_
      · refine jr_iconst (v := 0) hz d_MD_wellFormed_102 (by decide) ?_
        exact jr_zret hz hr hlk (by decide) d_MD_wellFormed_103
      · refine jr_sub (ls' := []) [] rfl ?_
        exact jb_MD_wellFormed_b98 hz hr hlk X7
def fx_MD_wellFormed (p1 : Int32) (X : xh_T) : Option (Int32 × xh_T) :=
  xh_b (fx_MD_size p1 X) (fun (r1 : Int32) (X1 : xh_T) =>
  xh_n r1 (fun v5 : Int32 =>
  if v5 < 6 then
  some (0, X1)
  else xh_b (fx_MD_at p1 0 X1) (fun (r6 : Int32) (X2 : xh_T) =>
  if r6 = 48 then
  xh_b (fx_MD_at p1 1 X2) (fun (r10 : Int32) (X3 : xh_T) =>
  if r10 = (v5 - 3) then
  xh_b (fx_MD_at p1 2 X3) (fun (r14 : Int32) (X4 : xh_T) =>
  if r14 = 2 then
  xh_b (fx_MD_at p1 3 X4) (fun (r18 : Int32) (X5 : xh_T) =>
  if r18 = (v5 - 5) then
  xh_b (fx_MD_at p1 4 X5) (fun (r22 : Int32) (X6 : xh_T) =>
  xh_n r22 (fun v26 : Int32 =>
  if v26 < 1 then
  fx_MD_wellFormed_b77 p1 v5 v26 X6
  else if v26 ≤ 127 then
  fx_MD_wellFormed_b98 X6
  else fx_MD_wellFormed_b77 p1 v5 v26 X6))
  else some (0, X5))
  else some (0, X4))
  else some (0, X3))
  else some (0, X2))))
set_option maxRecDepth 100000 in
set_option maxHeartbeats 4000000 in
theorem cx_MD_wellFormed (l : Launch) (D : va_G) (G : xh_G) (hD : xh_D G) (p1 : Int32) (X : xh_T) : xh_M xh_Qi l D G y_MD_wellFormed b_MD_wellFormed 4 (some .boolean) rm_MD_wellFormed [.ref (G.1 206), .int p1] X (fx_MD_wellFormed p1 X) := by
  refine xh_enter (ls := [(0, .ref (G.1 206)), (1, .int p1)]) hD (by decide +kernel) (Nat.le_of_ble_eq_true rfl) rfl ?_
  intro p e s m args below meth c hz hr hlk
  unfold fx_MD_wellFormed
  refine jr_aload_n hz d_MD_wellFormed_0 rfl 0 rfl ?_
  refine jr_iload_n hz d_MD_wellFormed_1 rfl 1 rfl ?_
  refine jr_callVi (As := [.int p1]) (a := 206) (ci := 7) (st := []) hz (cx_MD_size l D G hz.2.2.2.2.2.2.1 p1 X) (fun _ _ => ⟨lq_206, _, ly_206⟩) wv_MD_63 ⟨rfl, rfl, Nat.le_of_ble_eq_true rfl, Nat.le_of_ble_eq_true rfl⟩ ⟨Nat.zero_le _, Nat.zero_le _⟩ rfl rfl (Nat.le_of_ble_eq_true rfl) d_MD_wellFormed_2 (fun r1 X1 => ?_)
  refine jr_istore_n (lf := [(0, .ref (G.1 206)), (1, .int p1)]) hz d_MD_wellFormed_5 rfl (by decide) rfl (fun v5 => ?_)
  refine jr_iload_n hz d_MD_wellFormed_6 rfl 0 rfl ?_
  refine jr_bipush (v := 6) hz d_MD_wellFormed_7 (by decide) ?_
  refine jr_icmp_lt (tgt := 57) hz d_MD_wellFormed_9 (by decide) ?_ ?_
  · refine jr_iconst (v := 0) hz d_MD_wellFormed_57 (by decide) ?_
    exact jr_zret hz hr hlk (by decide) d_MD_wellFormed_58
  · refine jr_aload_n hz d_MD_wellFormed_12 rfl 1 rfl ?_
    refine jr_iload_n hz d_MD_wellFormed_13 rfl 2 rfl ?_
    refine jr_iconst (v := 0) hz d_MD_wellFormed_14 (by decide) ?_
    refine jr_callVi (As := [.int p1, .int 0]) (a := 206) (ci := 7) (st := []) hz (cx_MD_at l D G hz.2.2.2.2.2.2.1 p1 0 X1) (fun _ _ => ⟨lq_206, _, ly_206⟩) wv_MD_66 ⟨rfl, rfl, Nat.le_of_ble_eq_true rfl, Nat.le_of_ble_eq_true rfl⟩ ⟨Nat.zero_le _, Nat.zero_le _⟩ rfl rfl (Nat.le_of_ble_eq_true rfl) d_MD_wellFormed_15 (fun r6 X2 => ?_)
    refine jr_bipush (v := 48) hz d_MD_wellFormed_18 (by decide) ?_
    refine jr_icmp_ne (tgt := 57) hz d_MD_wellFormed_20 (by decide) ?_ ?_
    · refine jr_iconst (v := 0) hz d_MD_wellFormed_57 (by decide) ?_
      exact jr_zret hz hr hlk (by decide) d_MD_wellFormed_58
    · refine jr_aload_n hz d_MD_wellFormed_23 rfl 1 rfl ?_
      refine jr_iload_n hz d_MD_wellFormed_24 rfl 2 rfl ?_
      refine jr_iconst (v := 1) hz d_MD_wellFormed_25 (by decide) ?_
      refine jr_callVi (As := [.int p1, .int 1]) (a := 206) (ci := 7) (st := []) hz (cx_MD_at l D G hz.2.2.2.2.2.2.1 p1 1 X2) (fun _ _ => ⟨lq_206, _, ly_206⟩) wv_MD_66 ⟨rfl, rfl, Nat.le_of_ble_eq_true rfl, Nat.le_of_ble_eq_true rfl⟩ ⟨Nat.zero_le _, Nat.zero_le _⟩ rfl rfl (Nat.le_of_ble_eq_true rfl) d_MD_wellFormed_26 (fun r10 X3 => ?_)
      refine jr_iload_n hz d_MD_wellFormed_29 rfl 0 rfl ?_
      refine jr_iconst (v := 3) hz d_MD_wellFormed_30 (by decide) ?_
      refine jr_isub hz d_MD_wellFormed_31 ?_
      refine jr_icmp_ne (tgt := 57) hz d_MD_wellFormed_32 (by decide) ?_ ?_
      · refine jr_iconst (v := 0) hz d_MD_wellFormed_57 (by decide) ?_
        exact jr_zret hz hr hlk (by decide) d_MD_wellFormed_58
      · refine jr_aload_n hz d_MD_wellFormed_35 rfl 1 rfl ?_
        refine jr_iload_n hz d_MD_wellFormed_36 rfl 2 rfl ?_
        refine jr_iconst (v := 2) hz d_MD_wellFormed_37 (by decide) ?_
        refine jr_callVi (As := [.int p1, .int 2]) (a := 206) (ci := 7) (st := []) hz (cx_MD_at l D G hz.2.2.2.2.2.2.1 p1 2 X3) (fun _ _ => ⟨lq_206, _, ly_206⟩) wv_MD_66 ⟨rfl, rfl, Nat.le_of_ble_eq_true rfl, Nat.le_of_ble_eq_true rfl⟩ ⟨Nat.zero_le _, Nat.zero_le _⟩ rfl rfl (Nat.le_of_ble_eq_true rfl) d_MD_wellFormed_38 (fun r14 X4 => ?_)
        refine jr_iconst (v := 2) hz d_MD_wellFormed_41 (by decide) ?_
        refine jr_icmp_ne (tgt := 57) hz d_MD_wellFormed_42 (by decide) ?_ ?_
        · refine jr_iconst (v := 0) hz d_MD_wellFormed_57 (by decide) ?_
          exact jr_zret hz hr hlk (by decide) d_MD_wellFormed_58
        · refine jr_aload_n hz d_MD_wellFormed_45 rfl 1 rfl ?_
          refine jr_iload_n hz d_MD_wellFormed_46 rfl 2 rfl ?_
          refine jr_iconst (v := 3) hz d_MD_wellFormed_47 (by decide) ?_
          refine jr_callVi (As := [.int p1, .int 3]) (a := 206) (ci := 7) (st := []) hz (cx_MD_at l D G hz.2.2.2.2.2.2.1 p1 3 X4) (fun _ _ => ⟨lq_206, _, ly_206⟩) wv_MD_66 ⟨rfl, rfl, Nat.le_of_ble_eq_true rfl, Nat.le_of_ble_eq_true rfl⟩ ⟨Nat.zero_le _, Nat.zero_le _⟩ rfl rfl (Nat.le_of_ble_eq_true rfl) d_MD_wellFormed_48 (fun r18 X5 => ?_)
          refine jr_iload_n hz d_MD_wellFormed_51 rfl 0 rfl ?_
          refine jr_iconst (v := 5) hz d_MD_wellFormed_52 (by decide) ?_
          refine jr_isub hz d_MD_wellFormed_53 ?_
          refine jr_icmp_eq (tgt := 59) hz d_MD_wellFormed_54 (by decide) ?_ ?_
          · refine jr_aload_n hz d_MD_wellFormed_59 rfl 1 rfl ?_
            refine jr_iload_n hz d_MD_wellFormed_60 rfl 2 rfl ?_
            refine jr_iconst (v := 4) hz d_MD_wellFormed_61 (by decide) ?_
            refine jr_callVi (As := [.int p1, .int 4]) (a := 206) (ci := 7) (st := []) hz (cx_MD_at l D G hz.2.2.2.2.2.2.1 p1 4 X5) (fun _ _ => ⟨lq_206, _, ly_206⟩) wv_MD_66 ⟨rfl, rfl, Nat.le_of_ble_eq_true rfl, Nat.le_of_ble_eq_true rfl⟩ ⟨Nat.zero_le _, Nat.zero_le _⟩ rfl rfl (Nat.le_of_ble_eq_true rfl) d_MD_wellFormed_62 (fun r22 X6 => ?_)
            refine jr_istore_n (lf := [(2, .int v5), (0, .ref (G.1 206)), (1, .int p1)]) hz d_MD_wellFormed_65 rfl (by decide) rfl (fun v26 => ?_)
            refine jr_iload_n hz d_MD_wellFormed_66 rfl 0 rfl ?_
            refine jr_iconst (v := 1) hz d_MD_wellFormed_67 (by decide) ?_
            refine jr_icmp_lt (tgt := 77) hz d_MD_wellFormed_68 (by decide) ?_ ?_
            · refine jr_sub (ls' := [(0, .ref (G.1 206)), (1, .int p1), (2, .int v5), (3, .int v26)]) [2, 3, 1, 0] rfl ?_
              exact jb_MD_wellFormed_b77 hz hr hlk p1 v5 v26 X6
            · refine jr_iload_n hz d_MD_wellFormed_71 rfl 0 rfl ?_
              refine jr_bipush (v := 127) hz d_MD_wellFormed_72 (by decide) ?_
              refine jr_icmp_le (tgt := 98) hz d_MD_wellFormed_74 (by decide) ?_ ?_
              · refine jr_sub (ls' := []) [] rfl ?_
                exact jb_MD_wellFormed_b98 hz hr hlk X6
              · refine jr_sub (ls' := [(0, .ref (G.1 206)), (1, .int p1), (2, .int v5), (3, .int v26)]) [2, 3, 1, 0] rfl ?_
                exact jb_MD_wellFormed_b77 hz hr hlk p1 v5 v26 X6
          · refine jr_iconst (v := 0) hz d_MD_wellFormed_57 (by decide) ?_
            exact jr_zret hz hr hlk (by decide) d_MD_wellFormed_58
theorem d_MD_valid_0 : decode b_MD_valid 0 = .ok (.aload_n 0, 1) := by decide +kernel
theorem d_MD_valid_1 : decode b_MD_valid 1 = .ok (.iload_n 1, 1) := by decide +kernel
theorem d_MD_valid_2 : decode b_MD_valid 2 = .ok (.invokevirtual 84, 3) := by decide +kernel
theorem d_MD_valid_5 : decode b_MD_valid 5 = .ok (.ifCond .ne 5, 3) := by decide +kernel
theorem d_MD_valid_8 : decode b_MD_valid 8 = .ok (.iconst 0, 1) := by decide +kernel
theorem d_MD_valid_9 : decode b_MD_valid 9 = .ok (.ireturn, 1) := by decide +kernel
theorem d_MD_valid_10 : decode b_MD_valid 10 = .ok (.iconst 0, 1) := by decide +kernel
theorem d_MD_valid_11 : decode b_MD_valid 11 = .ok (.istore_n 3, 1) := by decide +kernel
theorem d_MD_valid_12 : decode b_MD_valid 12 = .ok (.iload_n 3, 1) := by decide +kernel
theorem d_MD_valid_13 : decode b_MD_valid 13 = .ok (.aload_n 0, 1) := by decide +kernel
theorem d_MD_valid_14 : decode b_MD_valid 14 = .ok (.getfield 53, 3) := by decide +kernel
theorem d_MD_valid_17 : decode b_MD_valid 17 = .ok (.if_icmp .ge 39, 3) := by decide +kernel
theorem d_MD_valid_20 : decode b_MD_valid 20 = .ok (.aload_n 0, 1) := by decide +kernel
theorem d_MD_valid_21 : decode b_MD_valid 21 = .ok (.getfield 29, 3) := by decide +kernel
theorem d_MD_valid_24 : decode b_MD_valid 24 = .ok (.iload_n 3, 1) := by decide +kernel
theorem d_MD_valid_25 : decode b_MD_valid 25 = .ok (.iaload, 1) := by decide +kernel
theorem d_MD_valid_26 : decode b_MD_valid 26 = .ok (.aload_n 0, 1) := by decide +kernel
theorem d_MD_valid_27 : decode b_MD_valid 27 = .ok (.iload_n 1, 1) := by decide +kernel
theorem d_MD_valid_28 : decode b_MD_valid 28 = .ok (.invokevirtual 87, 3) := by decide +kernel
theorem d_MD_valid_31 : decode b_MD_valid 31 = .ok (.if_icmp .ne 19, 3) := by decide +kernel
theorem d_MD_valid_34 : decode b_MD_valid 34 = .ok (.aload_n 0, 1) := by decide +kernel
theorem d_MD_valid_35 : decode b_MD_valid 35 = .ok (.getfield 32, 3) := by decide +kernel
theorem d_MD_valid_38 : decode b_MD_valid 38 = .ok (.iload_n 3, 1) := by decide +kernel
theorem d_MD_valid_39 : decode b_MD_valid 39 = .ok (.iaload, 1) := by decide +kernel
theorem d_MD_valid_40 : decode b_MD_valid 40 = .ok (.aload_n 0, 1) := by decide +kernel
theorem d_MD_valid_41 : decode b_MD_valid 41 = .ok (.iload_n 2, 1) := by decide +kernel
theorem d_MD_valid_42 : decode b_MD_valid 42 = .ok (.invokevirtual 87, 3) := by decide +kernel
theorem d_MD_valid_45 : decode b_MD_valid 45 = .ok (.if_icmp .ne 5, 3) := by decide +kernel
theorem d_MD_valid_48 : decode b_MD_valid 48 = .ok (.iconst 1, 1) := by decide +kernel
theorem d_MD_valid_49 : decode b_MD_valid 49 = .ok (.ireturn, 1) := by decide +kernel
theorem d_MD_valid_50 : decode b_MD_valid 50 = .ok (.iinc 3 1, 3) := by decide +kernel
theorem d_MD_valid_53 : decode b_MD_valid 53 = .ok (.goto (-41), 3) := by decide +kernel
theorem d_MD_valid_56 : decode b_MD_valid 56 = .ok (.iconst 0, 1) := by decide +kernel
theorem d_MD_valid_57 : decode b_MD_valid 57 = .ok (.ireturn, 1) := by decide +kernel
theorem wv_MD_84 : xh_V "SpendScriptModel" 84 7 y_MD_wellFormed b_MD_wellFormed 4 (some .boolean) 1 := ⟨(sp_tb (List.mem_of_getElem? (i := 707) (by decide +kernel))), (sp_tb (List.mem_of_getElem? (i := 8) (by decide +kernel))), (sp_tb (List.mem_of_getElem? (i := 704) (by decide +kernel))), ⟨by decide +kernel, by decide +kernel, by decide +kernel⟩, (sp_tb (List.mem_of_getElem? (i := 706) (by decide +kernel))), (sp_pv (q := (y_MD_wellFormed, 19)) (List.mem_of_getElem? (i := 41) (by decide +kernel))), F_MD, 19, rfl⟩
theorem wv_MD_87 : xh_V "SpendScriptModel" 87 7 y_MD_hash b_MD_hash 4 (some .int) 1 := ⟨(sp_tb (List.mem_of_getElem? (i := 711) (by decide +kernel))), (sp_tb (List.mem_of_getElem? (i := 8) (by decide +kernel))), (sp_tb (List.mem_of_getElem? (i := 708) (by decide +kernel))), ⟨by decide +kernel, by decide +kernel, by decide +kernel⟩, (sp_tb (List.mem_of_getElem? (i := 710) (by decide +kernel))), (sp_pv (q := (y_MD_hash, 19)) (List.mem_of_getElem? (i := 42) (by decide +kernel))), F_MD, 19, rfl⟩
abbrev rm_MD_valid : Room := { frames := 3, cells := 0, slots := 0, locals := 66 }
def fx_MD_valid_b12 : Nat → Int32 → Int32 → Int32 → xh_T → Option (Int32 × xh_T)
  | 0, _, _, _, _ => none
  | n + 1, a1, a2, a3, X => if X.1 206 13 ≤ a3 then
  some (0, X)
  else xh_o a3 8 (xh_b (fx_MD_hash a1 X) (fun (r6 : Int32) (X2 : xh_T) =>
  if (X.1 213 a3.toNatClampNeg) = r6 then
  xh_o a3 8 (xh_b (fx_MD_hash a2 X2) (fun (r11 : Int32) (X3 : xh_T) =>
  if (X2.1 214 a3.toNatClampNeg) = r11 then
  some (1, X3)
  else xh_n (a3 + 1) (fun v15 : Int32 =>
  fx_MD_valid_b12 n a1 a2 v15 X3)))
  else xh_n (a3 + 1) (fun v10 : Int32 =>
  fx_MD_valid_b12 n a1 a2 v10 X2)))
set_option maxRecDepth 100000 in
set_option maxHeartbeats 4000000 in
theorem jb_MD_valid_b12 {p : Program} {l : Launch} {e : Env} {s : State} {m : MethodId} {args : Array Value} {below : List Frame} {meth : Method} {c : Code} {D : va_G} {G : xh_G} (hz : xh_C p s m args c b_MD_valid 4 "SpendScriptModel" D G (xh_A G s.heap.size)) (hr : meth.sig.returnType = (some .boolean)) (hlk : meth.locks = false) : ∀ (n : Nat) (a1 : Int32) (a2 : Int32) (a3 : Int32) (X : xh_T), xh_J p l e rm_MD_valid s m args below meth c 0 0 D G (xh_A G s.heap.size) 4 (fun r X' => MQ below (xh_Qi D G (xh_A G s.heap.size) r X') args s 0 0 (xh_A G s.heap.size)) 12 [(0, .ref (G.1 206)), (1, .int a1), (2, .int a2), (3, .int a3)] [] X (fx_MD_valid_b12 n a1 a2 a3 X) := by
  intro n
  induction n with
  | zero => intro a1 a2 a3 X; exact jr_none
  | succ n ih =>
    intro a1 a2 a3 X
    rw [fx_MD_valid_b12]
    refine jr_iload_n hz d_MD_valid_12 rfl 3 rfl ?_
    refine jr_aload_n hz d_MD_valid_13 rfl 0 rfl ?_
    refine jr_geti (j := 13) hz lq_206 ly_206 rfl wf_MD_53 d_MD_valid_14 ?_
    refine jr_icmp_ge (tgt := 56) hz d_MD_valid_17 (by decide) ?_ ?_
    · refine jr_iconst (v := 0) hz d_MD_valid_56 (by decide) ?_
      exact jr_zret hz hr hlk (by decide) d_MD_valid_57
    · refine jr_aload_n hz d_MD_valid_20 rfl 0 rfl ?_
      refine jr_getr (j := 11) (t := 213) hz lq_206 ly_206 rfl wf_MD_29 d_MD_valid_21 ?_
      refine jr_iload_n hz d_MD_valid_24 rfl 3 rfl ?_
      refine jr_iald (n := 8) hz lq_213 ly_213 d_MD_valid_25 ?_
      refine jr_aload_n hz d_MD_valid_26 rfl 0 rfl ?_
      refine jr_iload_n hz d_MD_valid_27 rfl 1 rfl ?_
      refine jr_callVi (As := [.int a1]) (a := 206) (ci := 7) (st := [.int (X.1 213 a3.toNatClampNeg)]) hz (cx_MD_hash l D G hz.2.2.2.2.2.2.1 a1 X) (fun _ _ => ⟨lq_206, _, ly_206⟩) wv_MD_87 ⟨rfl, rfl, Nat.le_of_ble_eq_true rfl, Nat.le_of_ble_eq_true rfl⟩ ⟨Nat.zero_le _, Nat.zero_le _⟩ rfl rfl (Nat.le_of_ble_eq_true rfl) d_MD_valid_28 (fun r6 X2 => ?_)
      refine jr_icmp_ne (tgt := 50) hz d_MD_valid_31 (by decide) ?_ ?_
      · refine jr_iinc (lf := [(0, .ref (G.1 206)), (1, .int a1), (2, .int a2)]) (w := 1) hz d_MD_valid_50 3 rfl (by decide) (by decide) rfl (fun v10 => ?_)
        refine jr_goto (tgt := 12) hz d_MD_valid_53 (by decide) ?_
        refine jr_sub (ls' := [(0, .ref (G.1 206)), (1, .int a1), (2, .int a2), (3, .int v10)]) [1, 2, 3, 0] rfl ?_
        exact ih a1 a2 v10 X2
      · refine jr_aload_n hz d_MD_valid_34 rfl 0 rfl ?_
        refine jr_getr (j := 12) (t := 214) hz lq_206 ly_206 rfl wf_MD_32 d_MD_valid_35 ?_
        refine jr_iload_n hz d_MD_valid_38 rfl 3 rfl ?_
        refine jr_iald (n := 8) hz lq_214 ly_214 d_MD_valid_39 ?_
        refine jr_aload_n hz d_MD_valid_40 rfl 0 rfl ?_
        refine jr_iload_n hz d_MD_valid_41 rfl 2 rfl ?_
        refine jr_callVi (As := [.int a2]) (a := 206) (ci := 7) (st := [.int (X2.1 214 a3.toNatClampNeg)]) hz (cx_MD_hash l D G hz.2.2.2.2.2.2.1 a2 X2) (fun _ _ => ⟨lq_206, _, ly_206⟩) wv_MD_87 ⟨rfl, rfl, Nat.le_of_ble_eq_true rfl, Nat.le_of_ble_eq_true rfl⟩ ⟨Nat.zero_le _, Nat.zero_le _⟩ rfl rfl (Nat.le_of_ble_eq_true rfl) d_MD_valid_42 (fun r11 X3 => ?_)
        refine jr_icmp_ne (tgt := 50) hz d_MD_valid_45 (by decide) ?_ ?_
        · refine jr_iinc (lf := [(0, .ref (G.1 206)), (1, .int a1), (2, .int a2)]) (w := 1) hz d_MD_valid_50 3 rfl (by decide) (by decide) rfl (fun v15 => ?_)
          refine jr_goto (tgt := 12) hz d_MD_valid_53 (by decide) ?_
          refine jr_sub (ls' := [(0, .ref (G.1 206)), (1, .int a1), (2, .int a2), (3, .int v15)]) [1, 2, 3, 0] rfl ?_
          exact ih a1 a2 v15 X3
        · refine jr_iconst (v := 1) hz d_MD_valid_48 (by decide) ?_
          exact jr_zret hz hr hlk (by decide) d_MD_valid_49
def fx_MD_valid (p1 : Int32) (p2 : Int32) (X : xh_T) : Option (Int32 × xh_T) :=
  xh_b (fx_MD_wellFormed p1 X) (fun (r2 : Int32) (X1 : xh_T) =>
  if r2 = 0 then
  some (0, X1)
  else xh_n 0 (fun v5 : Int32 =>
  fx_MD_valid_b12 sp_fuel p1 p2 v5 X1))
set_option maxRecDepth 100000 in
set_option maxHeartbeats 4000000 in
theorem cx_MD_valid (l : Launch) (D : va_G) (G : xh_G) (hD : xh_D G) (p1 : Int32) (p2 : Int32) (X : xh_T) : xh_M xh_Qi l D G y_MD_valid b_MD_valid 4 (some .boolean) rm_MD_valid [.ref (G.1 206), .int p1, .int p2] X (fx_MD_valid p1 p2 X) := by
  refine xh_enter (ls := [(0, .ref (G.1 206)), (1, .int p1), (2, .int p2)]) hD (by decide +kernel) (Nat.le_of_ble_eq_true rfl) rfl ?_
  intro p e s m args below meth c hz hr hlk
  unfold fx_MD_valid
  refine jr_aload_n hz d_MD_valid_0 rfl 0 rfl ?_
  refine jr_iload_n hz d_MD_valid_1 rfl 1 rfl ?_
  refine jr_callVi (As := [.int p1]) (a := 206) (ci := 7) (st := []) hz (cx_MD_wellFormed l D G hz.2.2.2.2.2.2.1 p1 X) (fun _ _ => ⟨lq_206, _, ly_206⟩) wv_MD_84 ⟨rfl, rfl, Nat.le_of_ble_eq_true rfl, Nat.le_of_ble_eq_true rfl⟩ ⟨Nat.zero_le _, Nat.zero_le _⟩ rfl rfl (Nat.le_of_ble_eq_true rfl) d_MD_valid_2 (fun r2 X1 => ?_)
  refine jr_if_ne (tgt := 10) hz d_MD_valid_5 (by decide) ?_ ?_
  · refine jr_iconst (v := 0) hz d_MD_valid_10 (by decide) ?_
    refine jr_istore_n (lf := [(0, .ref (G.1 206)), (1, .int p1), (2, .int p2)]) hz d_MD_valid_11 rfl (by decide) rfl (fun v5 => ?_)
    refine jr_sub (ls' := [(0, .ref (G.1 206)), (1, .int p1), (2, .int p2), (3, .int v5)]) [1, 2, 3, 0] rfl ?_
    exact jb_MD_valid_b12 hz hr hlk sp_fuel p1 p2 v5 X1
  · refine jr_iconst (v := 0) hz d_MD_valid_8 (by decide) ?_
    exact jr_zret hz hr hlk (by decide) d_MD_valid_9
theorem d_MD_live_0 : decode b_MD_live 0 = .ok (.iconst 0, 1) := by decide +kernel
theorem d_MD_live_1 : decode b_MD_live 1 = .ok (.istore_n 1, 1) := by decide +kernel
theorem d_MD_live_2 : decode b_MD_live 2 = .ok (.iload_n 1, 1) := by decide +kernel
theorem d_MD_live_3 : decode b_MD_live 3 = .ok (.aload_n 0, 1) := by decide +kernel
theorem d_MD_live_4 : decode b_MD_live 4 = .ok (.getfield 90, 3) := by decide +kernel
theorem d_MD_live_7 : decode b_MD_live 7 = .ok (.if_icmp .ge 20, 3) := by decide +kernel
theorem d_MD_live_10 : decode b_MD_live 10 = .ok (.aload_n 0, 1) := by decide +kernel
theorem d_MD_live_11 : decode b_MD_live 11 = .ok (.getfield 25, 3) := by decide +kernel
theorem d_MD_live_14 : decode b_MD_live 14 = .ok (.iload_n 1, 1) := by decide +kernel
theorem d_MD_live_15 : decode b_MD_live 15 = .ok (.baload, 1) := by decide +kernel
theorem d_MD_live_16 : decode b_MD_live 16 = .ok (.ifCond .ne 5, 3) := by decide +kernel
theorem d_MD_live_19 : decode b_MD_live 19 = .ok (.iconst 0, 1) := by decide +kernel
theorem d_MD_live_20 : decode b_MD_live 20 = .ok (.ireturn, 1) := by decide +kernel
theorem d_MD_live_21 : decode b_MD_live 21 = .ok (.iinc 1 1, 3) := by decide +kernel
theorem d_MD_live_24 : decode b_MD_live 24 = .ok (.goto (-22), 3) := by decide +kernel
theorem d_MD_live_27 : decode b_MD_live 27 = .ok (.iconst 1, 1) := by decide +kernel
theorem d_MD_live_28 : decode b_MD_live 28 = .ok (.ireturn, 1) := by decide +kernel
theorem wf_MD_90 : xh_F "SpendScriptModel" 90 7 8 := ⟨R_MD, F_MD, 19, rfl, by decide, iw_MD, (sp_tb (List.mem_of_getElem? (i := 545) (by decide +kernel)))⟩
theorem wf_MD_25 : xh_F "SpendScriptModel" 25 7 7 := ⟨R_MD, F_MD, 19, rfl, by decide, iw_MD, (sp_tb (List.mem_of_getElem? (i := 544) (by decide +kernel)))⟩
abbrev rm_MD_live : Room := { frames := 0, cells := 0, slots := 0, locals := 0 }
def fx_MD_live_b2 : Nat → Int32 → xh_T → Option (Int32 × xh_T)
  | 0, _, _ => none
  | n + 1, a1, X => if X.1 206 8 ≤ a1 then
  some (1, X)
  else xh_o a1 8 (if (X.1 212 a1.toNatClampNeg) = 0 then
  some (0, X)
  else xh_n (a1 + 1) (fun v2 : Int32 =>
  fx_MD_live_b2 n v2 X))
set_option maxRecDepth 100000 in
set_option maxHeartbeats 4000000 in
theorem jb_MD_live_b2 {p : Program} {l : Launch} {e : Env} {s : State} {m : MethodId} {args : Array Value} {below : List Frame} {meth : Method} {c : Code} {D : va_G} {G : xh_G} (hz : xh_C p s m args c b_MD_live 2 "SpendScriptModel" D G (xh_A G s.heap.size)) (hr : meth.sig.returnType = (some .boolean)) (hlk : meth.locks = false) : ∀ (n : Nat) (a1 : Int32) (X : xh_T), xh_J p l e rm_MD_live s m args below meth c 0 0 D G (xh_A G s.heap.size) 2 (fun r X' => MQ below (xh_Qi D G (xh_A G s.heap.size) r X') args s 0 0 (xh_A G s.heap.size)) 2 [(0, .ref (G.1 206)), (1, .int a1)] [] X (fx_MD_live_b2 n a1 X) := by
  intro n
  induction n with
  | zero => intro a1 X; exact jr_none
  | succ n ih =>
    intro a1 X
    rw [fx_MD_live_b2]
    refine jr_iload_n hz d_MD_live_2 rfl 1 rfl ?_
    refine jr_aload_n hz d_MD_live_3 rfl 0 rfl ?_
    refine jr_geti (j := 8) hz lq_206 ly_206 rfl wf_MD_90 d_MD_live_4 ?_
    refine jr_icmp_ge (tgt := 27) hz d_MD_live_7 (by decide) ?_ ?_
    · refine jr_iconst (v := 1) hz d_MD_live_27 (by decide) ?_
      exact jr_zret hz hr hlk (by decide) d_MD_live_28
    · refine jr_aload_n hz d_MD_live_10 rfl 0 rfl ?_
      refine jr_getr (j := 7) (t := 212) hz lq_206 ly_206 rfl wf_MD_25 d_MD_live_11 ?_
      refine jr_iload_n hz d_MD_live_14 rfl 1 rfl ?_
      refine jr_zald (n := 8) hz lq_212 ly_212 d_MD_live_15 ?_
      refine jr_if_ne (tgt := 21) hz d_MD_live_16 (by decide) ?_ ?_
      · refine jr_iinc (lf := [(0, .ref (G.1 206))]) (w := 1) hz d_MD_live_21 1 rfl (by decide) (by decide) rfl (fun v2 => ?_)
        refine jr_goto (tgt := 2) hz d_MD_live_24 (by decide) ?_
        refine jr_sub (ls' := [(0, .ref (G.1 206)), (1, .int v2)]) [1, 0] rfl ?_
        exact ih v2 X
      · refine jr_iconst (v := 0) hz d_MD_live_19 (by decide) ?_
        exact jr_zret hz hr hlk (by decide) d_MD_live_20
def fx_MD_live (X : xh_T) : Option (Int32 × xh_T) :=
  xh_n 0 (fun v1 : Int32 =>
  fx_MD_live_b2 sp_fuel v1 X)
set_option maxRecDepth 100000 in
set_option maxHeartbeats 4000000 in
theorem cx_MD_live (l : Launch) (D : va_G) (G : xh_G) (hD : xh_D G) (X : xh_T) : xh_M xh_Qi l D G y_MD_live b_MD_live 2 (some .boolean) rm_MD_live [.ref (G.1 206)] X (fx_MD_live X) := by
  refine xh_enter (ls := [(0, .ref (G.1 206))]) hD (by decide +kernel) (Nat.le_of_ble_eq_true rfl) rfl ?_
  intro p e s m args below meth c hz hr hlk
  unfold fx_MD_live
  refine jr_iconst (v := 0) hz d_MD_live_0 (by decide) ?_
  refine jr_istore_n (lf := [(0, .ref (G.1 206))]) hz d_MD_live_1 rfl (by decide) rfl (fun v1 => ?_)
  refine jr_sub (ls' := [(0, .ref (G.1 206)), (1, .int v1)]) [1, 0] rfl ?_
  exact jb_MD_live_b2 hz hr hlk sp_fuel v1 X
theorem d_MD_push_0 : decode b_MD_push 0 = .ok (.aload_n 0, 1) := by decide +kernel
theorem d_MD_push_1 : decode b_MD_push 1 = .ok (.getfield 7, 3) := by decide +kernel
theorem d_MD_push_4 : decode b_MD_push 4 = .ok (.bipush 120, 2) := by decide +kernel
theorem d_MD_push_6 : decode b_MD_push 6 = .ok (.iload_n 1, 1) := by decide +kernel
theorem d_MD_push_7 : decode b_MD_push 7 = .ok (.imul, 1) := by decide +kernel
theorem d_MD_push_8 : decode b_MD_push 8 = .ok (.iload_n 2, 1) := by decide +kernel
theorem d_MD_push_9 : decode b_MD_push 9 = .ok (.iadd, 1) := by decide +kernel
theorem d_MD_push_10 : decode b_MD_push 10 = .ok (.iaload, 1) := by decide +kernel
theorem d_MD_push_11 : decode b_MD_push 11 = .ok (.istore_n 3, 1) := by decide +kernel
theorem d_MD_push_12 : decode b_MD_push 12 = .ok (.iload_n 3, 1) := by decide +kernel
theorem d_MD_push_13 : decode b_MD_push 13 = .ok (.iconst 1, 1) := by decide +kernel
theorem d_MD_push_14 : decode b_MD_push 14 = .ok (.if_icmp .lt 13, 3) := by decide +kernel
theorem d_MD_push_17 : decode b_MD_push 17 = .ok (.iload_n 3, 1) := by decide +kernel
theorem d_MD_push_18 : decode b_MD_push 18 = .ok (.bipush 32, 2) := by decide +kernel
theorem d_MD_push_20 : decode b_MD_push 20 = .ok (.if_icmp .gt 7, 3) := by decide +kernel
theorem d_MD_push_23 : decode b_MD_push 23 = .ok (.iconst 1, 1) := by decide +kernel
theorem d_MD_push_24 : decode b_MD_push 24 = .ok (.goto 4, 3) := by decide +kernel
theorem d_MD_push_27 : decode b_MD_push 27 = .ok (.iconst 0, 1) := by decide +kernel
theorem d_MD_push_28 : decode b_MD_push 28 = .ok (.istore 4, 2) := by decide +kernel
theorem d_MD_push_30 : decode b_MD_push 30 = .ok (.iload 4, 2) := by decide +kernel
theorem d_MD_push_32 : decode b_MD_push 32 = .ok (.ifCond .ne 21, 3) := by decide +kernel
theorem d_MD_push_35 : decode b_MD_push 35 = .ok (.iload_n 3, 1) := by decide +kernel
theorem d_MD_push_36 : decode b_MD_push 36 = .ok (.ifCond .eq 17, 3) := by decide +kernel
theorem d_MD_push_39 : decode b_MD_push 39 = .ok (.iload_n 3, 1) := by decide +kernel
theorem d_MD_push_40 : decode b_MD_push 40 = .ok (.bipush 79, 2) := by decide +kernel
theorem d_MD_push_42 : decode b_MD_push 42 = .ok (.if_icmp .eq 11, 3) := by decide +kernel
theorem d_MD_push_45 : decode b_MD_push 45 = .ok (.iload_n 3, 1) := by decide +kernel
theorem d_MD_push_46 : decode b_MD_push 46 = .ok (.bipush 81, 2) := by decide +kernel
theorem d_MD_push_48 : decode b_MD_push 48 = .ok (.if_icmp .ge 5, 3) := by decide +kernel
theorem d_MD_push_51 : decode b_MD_push 51 = .ok (.iconst 2, 1) := by decide +kernel
theorem d_MD_push_52 : decode b_MD_push 52 = .ok (.ireturn, 1) := by decide +kernel
theorem d_MD_push_53 : decode b_MD_push 53 = .ok (.iload 4, 2) := by decide +kernel
theorem d_MD_push_55 : decode b_MD_push 55 = .ok (.ifCond .eq 71, 3) := by decide +kernel
theorem d_MD_push_58 : decode b_MD_push 58 = .ok (.iload_n 2, 1) := by decide +kernel
theorem d_MD_push_59 : decode b_MD_push 59 = .ok (.iconst 1, 1) := by decide +kernel
theorem d_MD_push_60 : decode b_MD_push 60 = .ok (.iadd, 1) := by decide +kernel
theorem d_MD_push_61 : decode b_MD_push 61 = .ok (.iload_n 3, 1) := by decide +kernel
theorem d_MD_push_62 : decode b_MD_push 62 = .ok (.iadd, 1) := by decide +kernel
theorem d_MD_push_63 : decode b_MD_push 63 = .ok (.aload_n 0, 1) := by decide +kernel
theorem d_MD_push_64 : decode b_MD_push 64 = .ok (.getfield 13, 3) := by decide +kernel
theorem d_MD_push_67 : decode b_MD_push 67 = .ok (.iload_n 1, 1) := by decide +kernel
theorem d_MD_push_68 : decode b_MD_push 68 = .ok (.iaload, 1) := by decide +kernel
theorem d_MD_push_69 : decode b_MD_push 69 = .ok (.if_icmp .le 5, 3) := by decide +kernel
theorem d_MD_push_72 : decode b_MD_push 72 = .ok (.iconst 3, 1) := by decide +kernel
theorem d_MD_push_73 : decode b_MD_push 73 = .ok (.ireturn, 1) := by decide +kernel
theorem d_MD_push_74 : decode b_MD_push 74 = .ok (.aload_n 0, 1) := by decide +kernel
theorem d_MD_push_75 : decode b_MD_push 75 = .ok (.getfield 7, 3) := by decide +kernel
theorem d_MD_push_78 : decode b_MD_push 78 = .ok (.bipush 120, 2) := by decide +kernel
theorem d_MD_push_80 : decode b_MD_push 80 = .ok (.iload_n 1, 1) := by decide +kernel
theorem d_MD_push_81 : decode b_MD_push 81 = .ok (.imul, 1) := by decide +kernel
theorem d_MD_push_82 : decode b_MD_push 82 = .ok (.iload_n 2, 1) := by decide +kernel
theorem d_MD_push_83 : decode b_MD_push 83 = .ok (.iadd, 1) := by decide +kernel
theorem d_MD_push_84 : decode b_MD_push 84 = .ok (.iconst 1, 1) := by decide +kernel
theorem d_MD_push_85 : decode b_MD_push 85 = .ok (.iadd, 1) := by decide +kernel
theorem d_MD_push_86 : decode b_MD_push 86 = .ok (.iaload, 1) := by decide +kernel
theorem d_MD_push_87 : decode b_MD_push 87 = .ok (.istore 5, 2) := by decide +kernel
theorem d_MD_push_89 : decode b_MD_push 89 = .ok (.iload_n 3, 1) := by decide +kernel
theorem d_MD_push_90 : decode b_MD_push 90 = .ok (.iconst 1, 1) := by decide +kernel
theorem d_MD_push_91 : decode b_MD_push 91 = .ok (.if_icmp .ne 26, 3) := by decide +kernel
theorem d_MD_push_94 : decode b_MD_push 94 = .ok (.iload 5, 2) := by decide +kernel
theorem d_MD_push_96 : decode b_MD_push 96 = .ok (.sipush 129, 3) := by decide +kernel
theorem d_MD_push_99 : decode b_MD_push 99 = .ok (.if_icmp .eq 16, 3) := by decide +kernel
theorem d_MD_push_102 : decode b_MD_push 102 = .ok (.iload 5, 2) := by decide +kernel
theorem d_MD_push_104 : decode b_MD_push 104 = .ok (.iconst 1, 1) := by decide +kernel
theorem d_MD_push_105 : decode b_MD_push 105 = .ok (.if_icmp .lt 12, 3) := by decide +kernel
theorem d_MD_push_108 : decode b_MD_push 108 = .ok (.iload 5, 2) := by decide +kernel
theorem d_MD_push_110 : decode b_MD_push 110 = .ok (.bipush 16, 2) := by decide +kernel
theorem d_MD_push_112 : decode b_MD_push 112 = .ok (.if_icmp .gt 5, 3) := by decide +kernel
theorem d_MD_push_115 : decode b_MD_push 115 = .ok (.iconst 5, 1) := by decide +kernel
theorem d_MD_push_116 : decode b_MD_push 116 = .ok (.ireturn, 1) := by decide +kernel
theorem d_MD_push_117 : decode b_MD_push 117 = .ok (.aload_n 0, 1) := by decide +kernel
theorem d_MD_push_118 : decode b_MD_push 118 = .ok (.iload_n 2, 1) := by decide +kernel
theorem d_MD_push_119 : decode b_MD_push 119 = .ok (.iconst 1, 1) := by decide +kernel
theorem d_MD_push_120 : decode b_MD_push 120 = .ok (.iadd, 1) := by decide +kernel
theorem d_MD_push_121 : decode b_MD_push 121 = .ok (.iload_n 3, 1) := by decide +kernel
theorem d_MD_push_122 : decode b_MD_push 122 = .ok (.iadd, 1) := by decide +kernel
theorem d_MD_push_123 : decode b_MD_push 123 = .ok (.putfield 96, 3) := by decide +kernel
theorem d_MD_push_126 : decode b_MD_push 126 = .ok (.aload_n 0, 1) := by decide +kernel
theorem d_MD_push_127 : decode b_MD_push 127 = .ok (.invokevirtual 105, 3) := by decide +kernel
theorem d_MD_push_130 : decode b_MD_push 130 = .ok (.ifCond .ne 5, 3) := by decide +kernel
theorem d_MD_push_133 : decode b_MD_push 133 = .ok (.iconst 0, 1) := by decide +kernel
theorem d_MD_push_134 : decode b_MD_push 134 = .ok (.ireturn, 1) := by decide +kernel
theorem d_MD_push_135 : decode b_MD_push 135 = .ok (.aload_n 0, 1) := by decide +kernel
theorem d_MD_push_136 : decode b_MD_push 136 = .ok (.iconst 1, 1) := by decide +kernel
theorem d_MD_push_137 : decode b_MD_push 137 = .ok (.invokevirtual 109, 3) := by decide +kernel
theorem d_MD_push_140 : decode b_MD_push 140 = .ok (.ifCond .eq 6, 3) := by decide +kernel
theorem d_MD_push_143 : decode b_MD_push 143 = .ok (.bipush 14, 2) := by decide +kernel
theorem d_MD_push_145 : decode b_MD_push 145 = .ok (.ireturn, 1) := by decide +kernel
theorem d_MD_push_146 : decode b_MD_push 146 = .ok (.iload 4, 2) := by decide +kernel
theorem d_MD_push_148 : decode b_MD_push 148 = .ok (.ifCond .eq 77, 3) := by decide +kernel
theorem d_MD_push_151 : decode b_MD_push 151 = .ok (.aload_n 0, 1) := by decide +kernel
theorem d_MD_push_152 : decode b_MD_push 152 = .ok (.getfield 16, 3) := by decide +kernel
theorem d_MD_push_155 : decode b_MD_push 155 = .ok (.bipush 33, 2) := by decide +kernel
theorem d_MD_push_157 : decode b_MD_push 157 = .ok (.aload_n 0, 1) := by decide +kernel
theorem d_MD_push_158 : decode b_MD_push 158 = .ok (.getfield 56, 3) := by decide +kernel
theorem d_MD_push_161 : decode b_MD_push 161 = .ok (.imul, 1) := by decide +kernel
theorem d_MD_push_162 : decode b_MD_push 162 = .ok (.iload_n 3, 1) := by decide +kernel
theorem d_MD_push_163 : decode b_MD_push 163 = .ok (.iastore, 1) := by decide +kernel
theorem d_MD_push_164 : decode b_MD_push 164 = .ok (.iconst 0, 1) := by decide +kernel
theorem d_MD_push_165 : decode b_MD_push 165 = .ok (.istore 5, 2) := by decide +kernel
theorem d_MD_push_167 : decode b_MD_push 167 = .ok (.iload 5, 2) := by decide +kernel
theorem d_MD_push_169 : decode b_MD_push 169 = .ok (.iload_n 3, 1) := by decide +kernel
theorem d_MD_push_170 : decode b_MD_push 170 = .ok (.if_icmp .ge 42, 3) := by decide +kernel
theorem d_MD_push_173 : decode b_MD_push 173 = .ok (.aload_n 0, 1) := by decide +kernel
theorem d_MD_push_174 : decode b_MD_push 174 = .ok (.getfield 16, 3) := by decide +kernel
theorem d_MD_push_177 : decode b_MD_push 177 = .ok (.bipush 33, 2) := by decide +kernel
theorem d_MD_push_179 : decode b_MD_push 179 = .ok (.aload_n 0, 1) := by decide +kernel
theorem d_MD_push_180 : decode b_MD_push 180 = .ok (.getfield 56, 3) := by decide +kernel
theorem d_MD_push_183 : decode b_MD_push 183 = .ok (.imul, 1) := by decide +kernel
theorem d_MD_push_184 : decode b_MD_push 184 = .ok (.iconst 1, 1) := by decide +kernel
theorem d_MD_push_185 : decode b_MD_push 185 = .ok (.iadd, 1) := by decide +kernel
theorem d_MD_push_186 : decode b_MD_push 186 = .ok (.iload 5, 2) := by decide +kernel
theorem d_MD_push_188 : decode b_MD_push 188 = .ok (.iadd, 1) := by decide +kernel
theorem d_MD_push_189 : decode b_MD_push 189 = .ok (.aload_n 0, 1) := by decide +kernel
theorem d_MD_push_190 : decode b_MD_push 190 = .ok (.getfield 7, 3) := by decide +kernel
theorem d_MD_push_193 : decode b_MD_push 193 = .ok (.bipush 120, 2) := by decide +kernel
theorem d_MD_push_195 : decode b_MD_push 195 = .ok (.iload_n 1, 1) := by decide +kernel
theorem d_MD_push_196 : decode b_MD_push 196 = .ok (.imul, 1) := by decide +kernel
theorem d_MD_push_197 : decode b_MD_push 197 = .ok (.iload_n 2, 1) := by decide +kernel
theorem d_MD_push_198 : decode b_MD_push 198 = .ok (.iadd, 1) := by decide +kernel
theorem d_MD_push_199 : decode b_MD_push 199 = .ok (.iconst 1, 1) := by decide +kernel
theorem d_MD_push_200 : decode b_MD_push 200 = .ok (.iadd, 1) := by decide +kernel
theorem d_MD_push_201 : decode b_MD_push 201 = .ok (.iload 5, 2) := by decide +kernel
theorem d_MD_push_203 : decode b_MD_push 203 = .ok (.iadd, 1) := by decide +kernel
theorem d_MD_push_204 : decode b_MD_push 204 = .ok (.iaload, 1) := by decide +kernel
theorem d_MD_push_205 : decode b_MD_push 205 = .ok (.iastore, 1) := by decide +kernel
theorem d_MD_push_206 : decode b_MD_push 206 = .ok (.iinc 5 1, 3) := by decide +kernel
theorem d_MD_push_209 : decode b_MD_push 209 = .ok (.goto (-42), 3) := by decide +kernel
theorem d_MD_push_212 : decode b_MD_push 212 = .ok (.aload_n 0, 1) := by decide +kernel
theorem d_MD_push_213 : decode b_MD_push 213 = .ok (.aload_n 0, 1) := by decide +kernel
theorem d_MD_push_214 : decode b_MD_push 214 = .ok (.getfield 56, 3) := by decide +kernel
theorem d_MD_push_217 : decode b_MD_push 217 = .ok (.iconst 1, 1) := by decide +kernel
theorem d_MD_push_218 : decode b_MD_push 218 = .ok (.iadd, 1) := by decide +kernel
theorem d_MD_push_219 : decode b_MD_push 219 = .ok (.putfield 56, 3) := by decide +kernel
theorem d_MD_push_222 : decode b_MD_push 222 = .ok (.goto 20, 3) := by decide +kernel
theorem d_MD_push_225 : decode b_MD_push 225 = .ok (.aload_n 0, 1) := by decide +kernel
theorem d_MD_push_226 : decode b_MD_push 226 = .ok (.iload_n 3, 1) := by decide +kernel
theorem d_MD_push_227 : decode b_MD_push 227 = .ok (.ifCond .ne 7, 3) := by decide +kernel
theorem d_MD_push_230 : decode b_MD_push 230 = .ok (.lconst 0, 1) := by decide +kernel
theorem d_MD_push_231 : decode b_MD_push 231 = .ok (.goto 8, 3) := by decide +kernel
theorem d_MD_push_234 : decode b_MD_push 234 = .ok (.iload_n 3, 1) := by decide +kernel
theorem d_MD_push_235 : decode b_MD_push 235 = .ok (.bipush 80, 2) := by decide +kernel
theorem d_MD_push_237 : decode b_MD_push 237 = .ok (.isub, 1) := by decide +kernel
theorem d_MD_push_238 : decode b_MD_push 238 = .ok (.i2l, 1) := by decide +kernel
theorem d_MD_push_239 : decode b_MD_push 239 = .ok (.invokevirtual 112, 3) := by decide +kernel
theorem d_MD_push_242 : decode b_MD_push 242 = .ok (.aload_n 0, 1) := by decide +kernel
theorem d_MD_push_243 : decode b_MD_push 243 = .ok (.aload_n 0, 1) := by decide +kernel
theorem d_MD_push_244 : decode b_MD_push 244 = .ok (.getfield 116, 3) := by decide +kernel
theorem d_MD_push_247 : decode b_MD_push 247 = .ok (.iconst 1, 1) := by decide +kernel
theorem d_MD_push_248 : decode b_MD_push 248 = .ok (.iadd, 1) := by decide +kernel
theorem d_MD_push_249 : decode b_MD_push 249 = .ok (.putfield 116, 3) := by decide +kernel
theorem d_MD_push_252 : decode b_MD_push 252 = .ok (.iconst 0, 1) := by decide +kernel
theorem d_MD_push_253 : decode b_MD_push 253 = .ok (.ireturn, 1) := by decide +kernel
theorem wv_MD_105 : xh_V "SpendScriptModel" 105 7 y_MD_live b_MD_live 2 (some .boolean) 0 := ⟨(sp_tb (List.mem_of_getElem? (i := 634) (by decide +kernel))), (sp_tb (List.mem_of_getElem? (i := 8) (by decide +kernel))), (sp_tb (List.mem_of_getElem? (i := 631) (by decide +kernel))), ⟨by decide +kernel, by decide +kernel, by decide +kernel⟩, (sp_tb (List.mem_of_getElem? (i := 633) (by decide +kernel))), (sp_pv (q := (y_MD_live, 19)) (List.mem_of_getElem? (i := 25) (by decide +kernel))), F_MD, 19, rfl⟩
theorem wv_MD_109 : xh_V "SpendScriptModel" 109 7 y_MD_full b_MD_full 2 (some .boolean) 1 := ⟨(sp_tb (List.mem_of_getElem? (i := 638) (by decide +kernel))), (sp_tb (List.mem_of_getElem? (i := 8) (by decide +kernel))), (sp_tb (List.mem_of_getElem? (i := 635) (by decide +kernel))), ⟨by decide +kernel, by decide +kernel, by decide +kernel⟩, (sp_tb (List.mem_of_getElem? (i := 637) (by decide +kernel))), (sp_pv (q := (y_MD_full, 19)) (List.mem_of_getElem? (i := 26) (by decide +kernel))), F_MD, 19, rfl⟩
theorem wp_MD_96 : xh_Fp "SpendScriptModel" 96 7 10 := ⟨R_MD, F_MD, 19, t_MD, rfl, by decide, iw_MD, (sp_tb (List.mem_of_getElem? (i := 547) (by decide +kernel))), tk_MD, nk_MD, rfl, rfl⟩
theorem wv_MD_112 : xh_V "SpendScriptModel" 112 7 y_MD_pushNumber b_MD_pushNumber 8 none 1 := ⟨(sp_tb (List.mem_of_getElem? (i := 642) (by decide +kernel))), (sp_tb (List.mem_of_getElem? (i := 8) (by decide +kernel))), (sp_tb (List.mem_of_getElem? (i := 639) (by decide +kernel))), ⟨by decide +kernel, by decide +kernel, by decide +kernel⟩, (sp_tb (List.mem_of_getElem? (i := 641) (by decide +kernel))), (sp_pv (q := (y_MD_pushNumber, 19)) (List.mem_of_getElem? (i := 27) (by decide +kernel))), F_MD, 19, rfl⟩
theorem wf_MD_116 : xh_F "SpendScriptModel" 116 7 17 := ⟨R_MD, F_MD, 19, rfl, by decide, iw_MD, (sp_tb (List.mem_of_getElem? (i := 554) (by decide +kernel)))⟩
theorem wp_MD_116 : xh_Fp "SpendScriptModel" 116 7 17 := ⟨R_MD, F_MD, 19, t_MD, rfl, by decide, iw_MD, (sp_tb (List.mem_of_getElem? (i := 554) (by decide +kernel))), tk_MD, nk_MD, rfl, rfl⟩
abbrev rm_MD_push : Room := { frames := 1, cells := 0, slots := 0, locals := 27 }
def fx_MD_push_b242 (X : xh_T) : Option (Int32 × xh_T) :=
  xh_n (xh_i X 206 17 (X.1 206 17 + 1)) (fun X8 : xh_T =>
  some (0, X8))
set_option maxRecDepth 100000 in
set_option maxHeartbeats 4000000 in
theorem jb_MD_push_b242 {p : Program} {l : Launch} {e : Env} {s : State} {m : MethodId} {args : Array Value} {below : List Frame} {meth : Method} {c : Code} {D : va_G} {G : xh_G} (hz : xh_C p s m args c b_MD_push 6 "SpendScriptModel" D G (xh_A G s.heap.size)) (hr : meth.sig.returnType = (some .int)) (hlk : meth.locks = false) (X : xh_T) : xh_J p l e rm_MD_push s m args below meth c 0 0 D G (xh_A G s.heap.size) 6 (fun r X' => MQ below (xh_Qi D G (xh_A G s.heap.size) r X') args s 0 0 (xh_A G s.heap.size)) 242 [(0, .ref (G.1 206))] [] X (fx_MD_push_b242 X) := by
  unfold fx_MD_push_b242
  refine jr_aload_n hz d_MD_push_242 rfl 0 rfl ?_
  refine jr_aload_n hz d_MD_push_243 rfl 0 rfl ?_
  refine jr_geti (j := 17) hz lq_206 ly_206 rfl wf_MD_116 d_MD_push_244 ?_
  refine jr_iconst (v := 1) hz d_MD_push_247 (by decide) ?_
  refine jr_iadd hz d_MD_push_248 ?_
  refine jr_puti hz lq_206 ly_206 rfl wp_MD_116 d_MD_push_249 (fun X8 => ?_)
  refine jr_iconst (v := 0) hz d_MD_push_252 (by decide) ?_
  exact jr_iret hz hr hlk d_MD_push_253
def fx_MD_push_b239 (s0 : Int64) (X : xh_T) : Option (Int32 × xh_T) :=
  xh_b (fx_MD_pushNumber s0 X) (fun (_ : Unit) (X5 : xh_T) =>
  fx_MD_push_b242 X5)
set_option maxRecDepth 100000 in
set_option maxHeartbeats 4000000 in
theorem jb_MD_push_b239 {p : Program} {l : Launch} {e : Env} {s : State} {m : MethodId} {args : Array Value} {below : List Frame} {meth : Method} {c : Code} {D : va_G} {G : xh_G} (hz : xh_C p s m args c b_MD_push 6 "SpendScriptModel" D G (xh_A G s.heap.size)) (hr : meth.sig.returnType = (some .int)) (hlk : meth.locks = false) (s0 : Int64) (X : xh_T) : xh_J p l e rm_MD_push s m args below meth c 0 0 D G (xh_A G s.heap.size) 6 (fun r X' => MQ below (xh_Qi D G (xh_A G s.heap.size) r X') args s 0 0 (xh_A G s.heap.size)) 239 [(0, .ref (G.1 206))] [.long s0, .ref (G.1 206)] X (fx_MD_push_b239 s0 X) := by
  unfold fx_MD_push_b239
  refine jr_callVv (As := [.long s0]) (a := 206) (ci := 7) (st := []) hz (cx_MD_pushNumber l D G hz.2.2.2.2.2.2.1 s0 X) (fun _ _ => ⟨lq_206, _, ly_206⟩) wv_MD_112 ⟨rfl, rfl, Nat.le_of_ble_eq_true rfl, Nat.le_of_ble_eq_true rfl⟩ ⟨Nat.zero_le _, Nat.zero_le _⟩ rfl rfl (Nat.le_of_ble_eq_true rfl) d_MD_push_239 (fun _ X5 => ?_)
  refine jr_sub (ls' := [(0, .ref (G.1 206))]) [0] rfl ?_
  exact jb_MD_push_b242 hz hr hlk X5
def fx_MD_push_b167 : Nat → Int32 → Int32 → Int32 → Int32 → xh_T → Option (Int32 × xh_T)
  | 0, _, _, _, _, _ => none
  | n + 1, a1, a2, a3, a5, X => if a3 ≤ a5 then
  xh_n (xh_i X 206 5 (X.1 206 5 + 1)) (fun X6 : xh_T =>
  fx_MD_push_b242 X6)
  else xh_o ((((120 * a1) + a2) + 1) + a5) 360 (xh_o (((33 * X.1 206 5) + 1) + a5) 1089 (xh_n (xh_i X 209 ((((33 * X.1 206 5) + 1) + a5) : Int32).toNatClampNeg (X.1 207 (((((120 * a1) + a2) + 1) + a5)).toNatClampNeg)) (fun X7 : xh_T =>
  xh_n (a5 + 1) (fun v17 : Int32 =>
  fx_MD_push_b167 n a1 a2 a3 v17 X7))))
set_option maxRecDepth 100000 in
set_option maxHeartbeats 4000000 in
theorem jb_MD_push_b167 {p : Program} {l : Launch} {e : Env} {s : State} {m : MethodId} {args : Array Value} {below : List Frame} {meth : Method} {c : Code} {D : va_G} {G : xh_G} (hz : xh_C p s m args c b_MD_push 6 "SpendScriptModel" D G (xh_A G s.heap.size)) (hr : meth.sig.returnType = (some .int)) (hlk : meth.locks = false) : ∀ (n : Nat) (a1 : Int32) (a2 : Int32) (a3 : Int32) (a5 : Int32) (X : xh_T), xh_J p l e rm_MD_push s m args below meth c 0 0 D G (xh_A G s.heap.size) 6 (fun r X' => MQ below (xh_Qi D G (xh_A G s.heap.size) r X') args s 0 0 (xh_A G s.heap.size)) 167 [(0, .ref (G.1 206)), (1, .int a1), (2, .int a2), (3, .int a3), (5, .int a5)] [] X (fx_MD_push_b167 n a1 a2 a3 a5 X) := by
  intro n
  induction n with
  | zero => intro a1 a2 a3 a5 X; exact jr_none
  | succ n ih =>
    intro a1 a2 a3 a5 X
    rw [fx_MD_push_b167]
    refine jr_iload hz d_MD_push_167 4 rfl ?_
    refine jr_iload_n hz d_MD_push_169 rfl 3 rfl ?_
    refine jr_icmp_ge (tgt := 212) hz d_MD_push_170 (by decide) ?_ ?_
    · refine jr_aload_n hz d_MD_push_212 rfl 0 rfl ?_
      refine jr_aload_n hz d_MD_push_213 rfl 0 rfl ?_
      refine jr_geti (j := 5) hz lq_206 ly_206 rfl wf_MD_56 d_MD_push_214 ?_
      refine jr_iconst (v := 1) hz d_MD_push_217 (by decide) ?_
      refine jr_iadd hz d_MD_push_218 ?_
      refine jr_puti hz lq_206 ly_206 rfl wp_MD_56 d_MD_push_219 (fun X6 => ?_)
      refine jr_goto (tgt := 242) hz d_MD_push_222 (by decide) ?_
      refine jr_sub (ls' := [(0, .ref (G.1 206))]) [0] rfl ?_
      exact jb_MD_push_b242 hz hr hlk X6
    · refine jr_aload_n hz d_MD_push_173 rfl 0 rfl ?_
      refine jr_getr (j := 2) (t := 209) hz lq_206 ly_206 rfl wf_MD_16 d_MD_push_174 ?_
      refine jr_bipush (v := 33) hz d_MD_push_177 (by decide) ?_
      refine jr_aload_n hz d_MD_push_179 rfl 0 rfl ?_
      refine jr_geti (j := 5) hz lq_206 ly_206 rfl wf_MD_56 d_MD_push_180 ?_
      refine jr_imul hz d_MD_push_183 ?_
      refine jr_iconst (v := 1) hz d_MD_push_184 (by decide) ?_
      refine jr_iadd hz d_MD_push_185 ?_
      refine jr_iload hz d_MD_push_186 4 rfl ?_
      refine jr_iadd hz d_MD_push_188 ?_
      refine jr_aload_n hz d_MD_push_189 rfl 0 rfl ?_
      refine jr_getr (j := 0) (t := 207) hz lq_206 ly_206 rfl wf_MD_7 d_MD_push_190 ?_
      refine jr_bipush (v := 120) hz d_MD_push_193 (by decide) ?_
      refine jr_iload_n hz d_MD_push_195 rfl 1 rfl ?_
      refine jr_imul hz d_MD_push_196 ?_
      refine jr_iload_n hz d_MD_push_197 rfl 2 rfl ?_
      refine jr_iadd hz d_MD_push_198 ?_
      refine jr_iconst (v := 1) hz d_MD_push_199 (by decide) ?_
      refine jr_iadd hz d_MD_push_200 ?_
      refine jr_iload hz d_MD_push_201 4 rfl ?_
      refine jr_iadd hz d_MD_push_203 ?_
      refine jr_iald (n := 360) hz lq_207 ly_207 d_MD_push_204 ?_
      refine jr_iast (n := 1089) hz lq_209 ly_209 d_MD_push_205 (fun X7 => ?_)
      refine jr_iinc (lf := [(0, .ref (G.1 206)), (1, .int a1), (2, .int a2), (3, .int a3)]) (w := 1) hz d_MD_push_206 4 rfl (by decide) (by decide) rfl (fun v17 => ?_)
      refine jr_goto (tgt := 167) hz d_MD_push_209 (by decide) ?_
      refine jr_sub (ls' := [(0, .ref (G.1 206)), (1, .int a1), (2, .int a2), (3, .int a3), (5, .int v17)]) [1, 2, 3, 4, 0] rfl ?_
      exact ih a1 a2 a3 v17 X7
def fx_MD_push_b126 (a1 : Int32) (a2 : Int32) (a3 : Int32) (a4 : Int32) (X : xh_T) : Option (Int32 × xh_T) :=
  xh_b (fx_MD_live X) (fun (r5 : Int32) (X1 : xh_T) =>
  if r5 = 0 then
  some (0, X1)
  else xh_b (fx_MD_full 1 X1) (fun (r9 : Int32) (X2 : xh_T) =>
  if r9 = 0 then
  if a4 = 0 then
  if a3 = 0 then
  fx_MD_push_b239 0 X2
  else fx_MD_push_b239 (((a3 - 80) : Int32).toInt64) X2
  else xh_o (33 * X2.1 206 5) 1089 (xh_n (xh_i X2 209 ((33 * X2.1 206 5) : Int32).toNatClampNeg a3) (fun X3 : xh_T =>
  xh_n 0 (fun v12 : Int32 =>
  fx_MD_push_b167 sp_fuel a1 a2 a3 v12 X3)))
  else some (14, X2)))
set_option maxRecDepth 100000 in
set_option maxHeartbeats 4000000 in
theorem jb_MD_push_b126 {p : Program} {l : Launch} {e : Env} {s : State} {m : MethodId} {args : Array Value} {below : List Frame} {meth : Method} {c : Code} {D : va_G} {G : xh_G} (hz : xh_C p s m args c b_MD_push 6 "SpendScriptModel" D G (xh_A G s.heap.size)) (hr : meth.sig.returnType = (some .int)) (hlk : meth.locks = false) (a1 : Int32) (a2 : Int32) (a3 : Int32) (a4 : Int32) (X : xh_T) : xh_J p l e rm_MD_push s m args below meth c 0 0 D G (xh_A G s.heap.size) 6 (fun r X' => MQ below (xh_Qi D G (xh_A G s.heap.size) r X') args s 0 0 (xh_A G s.heap.size)) 126 [(0, .ref (G.1 206)), (1, .int a1), (2, .int a2), (3, .int a3), (4, .int a4)] [] X (fx_MD_push_b126 a1 a2 a3 a4 X) := by
  unfold fx_MD_push_b126
  refine jr_aload_n hz d_MD_push_126 rfl 0 rfl ?_
  refine jr_callVi (As := []) (a := 206) (ci := 7) (st := []) hz (cx_MD_live l D G hz.2.2.2.2.2.2.1 X) (fun _ _ => ⟨lq_206, _, ly_206⟩) wv_MD_105 ⟨rfl, rfl, Nat.le_of_ble_eq_true rfl, Nat.le_of_ble_eq_true rfl⟩ ⟨Nat.zero_le _, Nat.zero_le _⟩ rfl rfl (Nat.le_of_ble_eq_true rfl) d_MD_push_127 (fun r5 X1 => ?_)
  refine jr_if_ne (tgt := 135) hz d_MD_push_130 (by decide) ?_ ?_
  · refine jr_aload_n hz d_MD_push_135 rfl 0 rfl ?_
    refine jr_iconst (v := 1) hz d_MD_push_136 (by decide) ?_
    refine jr_callVi (As := [.int 1]) (a := 206) (ci := 7) (st := []) hz (cx_MD_full l D G hz.2.2.2.2.2.2.1 1 X1) (fun _ _ => ⟨lq_206, _, ly_206⟩) wv_MD_109 ⟨rfl, rfl, Nat.le_of_ble_eq_true rfl, Nat.le_of_ble_eq_true rfl⟩ ⟨Nat.zero_le _, Nat.zero_le _⟩ rfl rfl (Nat.le_of_ble_eq_true rfl) d_MD_push_137 (fun r9 X2 => ?_)
    refine jr_if_eq (tgt := 146) hz d_MD_push_140 (by decide) ?_ ?_
    · refine jr_iload hz d_MD_push_146 4 rfl ?_
      refine jr_if_eq (tgt := 225) hz d_MD_push_148 (by decide) ?_ ?_
      · refine jr_aload_n hz d_MD_push_225 rfl 0 rfl ?_
        refine jr_iload_n hz d_MD_push_226 rfl 3 rfl ?_
        refine jr_if_ne (tgt := 234) hz d_MD_push_227 (by decide) ?_ ?_
        · refine jr_iload_n hz d_MD_push_234 rfl 3 rfl ?_
          refine jr_bipush (v := 80) hz d_MD_push_235 (by decide) ?_
          refine jr_isub hz d_MD_push_237 ?_
          refine jr_i2l hz d_MD_push_238 ?_
          refine jr_sub (ls' := [(0, .ref (G.1 206))]) [0] rfl ?_
          exact jb_MD_push_b239 hz hr hlk (((a3 - 80) : Int32).toInt64) X2
        · refine jr_lconst (v := 0) hz d_MD_push_230 (by decide) ?_
          refine jr_goto (tgt := 239) hz d_MD_push_231 (by decide) ?_
          refine jr_sub (ls' := [(0, .ref (G.1 206))]) [0] rfl ?_
          exact jb_MD_push_b239 hz hr hlk 0 X2
      · refine jr_aload_n hz d_MD_push_151 rfl 0 rfl ?_
        refine jr_getr (j := 2) (t := 209) hz lq_206 ly_206 rfl wf_MD_16 d_MD_push_152 ?_
        refine jr_bipush (v := 33) hz d_MD_push_155 (by decide) ?_
        refine jr_aload_n hz d_MD_push_157 rfl 0 rfl ?_
        refine jr_geti (j := 5) hz lq_206 ly_206 rfl wf_MD_56 d_MD_push_158 ?_
        refine jr_imul hz d_MD_push_161 ?_
        refine jr_iload_n hz d_MD_push_162 rfl 3 rfl ?_
        refine jr_iast (n := 1089) hz lq_209 ly_209 d_MD_push_163 (fun X3 => ?_)
        refine jr_iconst (v := 0) hz d_MD_push_164 (by decide) ?_
        refine jr_istore (lf := [(0, .ref (G.1 206)), (1, .int a1), (2, .int a2), (3, .int a3), (4, .int a4)]) hz d_MD_push_165 (by decide) rfl (fun v12 => ?_)
        refine jr_sub (ls' := [(0, .ref (G.1 206)), (1, .int a1), (2, .int a2), (3, .int a3), (5, .int v12)]) [1, 2, 3, 4, 0] rfl ?_
        exact jb_MD_push_b167 hz hr hlk sp_fuel a1 a2 a3 v12 X3
    · refine jr_bipush (v := 14) hz d_MD_push_143 (by decide) ?_
      exact jr_iret hz hr hlk d_MD_push_145
  · refine jr_iconst (v := 0) hz d_MD_push_133 (by decide) ?_
    exact jr_iret hz hr hlk d_MD_push_134
def fx_MD_push_b117 (a1 : Int32) (a2 : Int32) (a3 : Int32) (a4 : Int32) (X : xh_T) : Option (Int32 × xh_T) :=
  xh_n (xh_i X 206 10 ((a2 + 1) + a3)) (fun X4 : xh_T =>
  fx_MD_push_b126 a1 a2 a3 a4 X4)
set_option maxRecDepth 100000 in
set_option maxHeartbeats 4000000 in
theorem jb_MD_push_b117 {p : Program} {l : Launch} {e : Env} {s : State} {m : MethodId} {args : Array Value} {below : List Frame} {meth : Method} {c : Code} {D : va_G} {G : xh_G} (hz : xh_C p s m args c b_MD_push 6 "SpendScriptModel" D G (xh_A G s.heap.size)) (hr : meth.sig.returnType = (some .int)) (hlk : meth.locks = false) (a1 : Int32) (a2 : Int32) (a3 : Int32) (a4 : Int32) (X : xh_T) : xh_J p l e rm_MD_push s m args below meth c 0 0 D G (xh_A G s.heap.size) 6 (fun r X' => MQ below (xh_Qi D G (xh_A G s.heap.size) r X') args s 0 0 (xh_A G s.heap.size)) 117 [(0, .ref (G.1 206)), (1, .int a1), (2, .int a2), (3, .int a3), (4, .int a4)] [] X (fx_MD_push_b117 a1 a2 a3 a4 X) := by
  unfold fx_MD_push_b117
  refine jr_aload_n hz d_MD_push_117 rfl 0 rfl ?_
  refine jr_iload_n hz d_MD_push_118 rfl 2 rfl ?_
  refine jr_iconst (v := 1) hz d_MD_push_119 (by decide) ?_
  refine jr_iadd hz d_MD_push_120 ?_
  refine jr_iload_n hz d_MD_push_121 rfl 3 rfl ?_
  refine jr_iadd hz d_MD_push_122 ?_
  refine jr_puti hz lq_206 ly_206 rfl wp_MD_96 d_MD_push_123 (fun X4 => ?_)
  refine jr_sub (ls' := [(0, .ref (G.1 206)), (1, .int a1), (2, .int a2), (3, .int a3), (4, .int a4)]) [0, 1, 2, 3, 4] rfl ?_
  exact jb_MD_push_b126 hz hr hlk a1 a2 a3 a4 X4
def fx_MD_push_b53 (a1 : Int32) (a2 : Int32) (a3 : Int32) (a4 : Int32) (X : xh_T) : Option (Int32 × xh_T) :=
  if a4 = 0 then
  fx_MD_push_b126 a1 a2 a3 a4 X
  else xh_o a1 3 (if ((a2 + 1) + a3) ≤ (X.1 208 a1.toNatClampNeg) then
  xh_o (((120 * a1) + a2) + 1) 360 (xh_n (X.1 207 ((((120 * a1) + a2) + 1)).toNatClampNeg) (fun v3 : Int32 =>
  if a3 = 1 then
  if v3 = 129 then
  some (5, X)
  else if v3 < 1 then
  fx_MD_push_b117 a1 a2 a3 a4 X
  else if 16 < v3 then
  fx_MD_push_b117 a1 a2 a3 a4 X
  else some (5, X)
  else fx_MD_push_b117 a1 a2 a3 a4 X))
  else some (3, X))
set_option maxRecDepth 100000 in
set_option maxHeartbeats 4000000 in
theorem jb_MD_push_b53 {p : Program} {l : Launch} {e : Env} {s : State} {m : MethodId} {args : Array Value} {below : List Frame} {meth : Method} {c : Code} {D : va_G} {G : xh_G} (hz : xh_C p s m args c b_MD_push 6 "SpendScriptModel" D G (xh_A G s.heap.size)) (hr : meth.sig.returnType = (some .int)) (hlk : meth.locks = false) (a1 : Int32) (a2 : Int32) (a3 : Int32) (a4 : Int32) (X : xh_T) : xh_J p l e rm_MD_push s m args below meth c 0 0 D G (xh_A G s.heap.size) 6 (fun r X' => MQ below (xh_Qi D G (xh_A G s.heap.size) r X') args s 0 0 (xh_A G s.heap.size)) 53 [(0, .ref (G.1 206)), (1, .int a1), (2, .int a2), (3, .int a3), (4, .int a4)] [] X (fx_MD_push_b53 a1 a2 a3 a4 X) := by
  unfold fx_MD_push_b53
  refine jr_iload hz d_MD_push_53 4 rfl ?_
  refine jr_if_eq (tgt := 126) hz d_MD_push_55 (by decide) ?_ ?_
  · refine jr_sub (ls' := [(0, .ref (G.1 206)), (1, .int a1), (2, .int a2), (3, .int a3), (4, .int a4)]) [0, 1, 2, 3, 4] rfl ?_
    exact jb_MD_push_b126 hz hr hlk a1 a2 a3 a4 X
  · refine jr_iload_n hz d_MD_push_58 rfl 2 rfl ?_
    refine jr_iconst (v := 1) hz d_MD_push_59 (by decide) ?_
    refine jr_iadd hz d_MD_push_60 ?_
    refine jr_iload_n hz d_MD_push_61 rfl 3 rfl ?_
    refine jr_iadd hz d_MD_push_62 ?_
    refine jr_aload_n hz d_MD_push_63 rfl 0 rfl ?_
    refine jr_getr (j := 1) (t := 208) hz lq_206 ly_206 rfl wf_MD_13 d_MD_push_64 ?_
    refine jr_iload_n hz d_MD_push_67 rfl 1 rfl ?_
    refine jr_iald (n := 3) hz lq_208 ly_208 d_MD_push_68 ?_
    refine jr_icmp_le (tgt := 74) hz d_MD_push_69 (by decide) ?_ ?_
    · refine jr_aload_n hz d_MD_push_74 rfl 0 rfl ?_
      refine jr_getr (j := 0) (t := 207) hz lq_206 ly_206 rfl wf_MD_7 d_MD_push_75 ?_
      refine jr_bipush (v := 120) hz d_MD_push_78 (by decide) ?_
      refine jr_iload_n hz d_MD_push_80 rfl 1 rfl ?_
      refine jr_imul hz d_MD_push_81 ?_
      refine jr_iload_n hz d_MD_push_82 rfl 2 rfl ?_
      refine jr_iadd hz d_MD_push_83 ?_
      refine jr_iconst (v := 1) hz d_MD_push_84 (by decide) ?_
      refine jr_iadd hz d_MD_push_85 ?_
      refine jr_iald (n := 360) hz lq_207 ly_207 d_MD_push_86 ?_
      refine jr_istore (lf := [(0, .ref (G.1 206)), (1, .int a1), (2, .int a2), (3, .int a3), (4, .int a4)]) hz d_MD_push_87 (by decide) rfl (fun v3 => ?_)
      refine jr_iload_n hz d_MD_push_89 rfl 4 rfl ?_
      refine jr_iconst (v := 1) hz d_MD_push_90 (by decide) ?_
      refine jr_icmp_ne (tgt := 117) hz d_MD_push_91 (by decide) ?_ ?_
      · refine jr_sub (ls' := [(0, .ref (G.1 206)), (1, .int a1), (2, .int a2), (3, .int a3), (4, .int a4)]) [1, 2, 3, 4, 5] rfl ?_
        exact jb_MD_push_b117 hz hr hlk a1 a2 a3 a4 X
      · refine jr_iload hz d_MD_push_94 0 rfl ?_
        refine jr_sipush (v := 129) hz d_MD_push_96 (by decide) ?_
        refine jr_icmp_eq (tgt := 115) hz d_MD_push_99 (by decide) ?_ ?_
        · refine jr_iconst (v := 5) hz d_MD_push_115 (by decide) ?_
          exact jr_iret hz hr hlk d_MD_push_116
        · refine jr_iload hz d_MD_push_102 0 rfl ?_
          refine jr_iconst (v := 1) hz d_MD_push_104 (by decide) ?_
          refine jr_icmp_lt (tgt := 117) hz d_MD_push_105 (by decide) ?_ ?_
          · refine jr_sub (ls' := [(0, .ref (G.1 206)), (1, .int a1), (2, .int a2), (3, .int a3), (4, .int a4)]) [1, 2, 3, 4, 5] rfl ?_
            exact jb_MD_push_b117 hz hr hlk a1 a2 a3 a4 X
          · refine jr_iload hz d_MD_push_108 0 rfl ?_
            refine jr_bipush (v := 16) hz d_MD_push_110 (by decide) ?_
            refine jr_icmp_gt (tgt := 117) hz d_MD_push_112 (by decide) ?_ ?_
            · refine jr_sub (ls' := [(0, .ref (G.1 206)), (1, .int a1), (2, .int a2), (3, .int a3), (4, .int a4)]) [1, 2, 3, 4, 5] rfl ?_
              exact jb_MD_push_b117 hz hr hlk a1 a2 a3 a4 X
            · refine jr_iconst (v := 5) hz d_MD_push_115 (by decide) ?_
              exact jr_iret hz hr hlk d_MD_push_116
    · refine jr_iconst (v := 3) hz d_MD_push_72 (by decide) ?_
      exact jr_iret hz hr hlk d_MD_push_73
def fx_MD_push_b28 (a1 : Int32) (a2 : Int32) (a3 : Int32) (s0 : Int32) (X : xh_T) : Option (Int32 × xh_T) :=
  xh_n s0 (fun v2 : Int32 =>
  if v2 = 0 then
  if a3 = 0 then
  fx_MD_push_b53 a1 a2 a3 v2 X
  else if a3 = 79 then
  fx_MD_push_b53 a1 a2 a3 v2 X
  else if 81 ≤ a3 then
  fx_MD_push_b53 a1 a2 a3 v2 X
  else some (2, X)
  else fx_MD_push_b53 a1 a2 a3 v2 X)
set_option maxRecDepth 100000 in
set_option maxHeartbeats 4000000 in
theorem jb_MD_push_b28 {p : Program} {l : Launch} {e : Env} {s : State} {m : MethodId} {args : Array Value} {below : List Frame} {meth : Method} {c : Code} {D : va_G} {G : xh_G} (hz : xh_C p s m args c b_MD_push 6 "SpendScriptModel" D G (xh_A G s.heap.size)) (hr : meth.sig.returnType = (some .int)) (hlk : meth.locks = false) (a1 : Int32) (a2 : Int32) (a3 : Int32) (s0 : Int32) (X : xh_T) : xh_J p l e rm_MD_push s m args below meth c 0 0 D G (xh_A G s.heap.size) 6 (fun r X' => MQ below (xh_Qi D G (xh_A G s.heap.size) r X') args s 0 0 (xh_A G s.heap.size)) 28 [(0, .ref (G.1 206)), (1, .int a1), (2, .int a2), (3, .int a3)] [.int s0] X (fx_MD_push_b28 a1 a2 a3 s0 X) := by
  unfold fx_MD_push_b28
  refine jr_istore (lf := [(0, .ref (G.1 206)), (1, .int a1), (2, .int a2), (3, .int a3)]) hz d_MD_push_28 (by decide) rfl (fun v2 => ?_)
  refine jr_iload hz d_MD_push_30 0 rfl ?_
  refine jr_if_ne (tgt := 53) hz d_MD_push_32 (by decide) ?_ ?_
  · refine jr_sub (ls' := [(0, .ref (G.1 206)), (1, .int a1), (2, .int a2), (3, .int a3), (4, .int v2)]) [1, 2, 3, 4, 0] rfl ?_
    exact jb_MD_push_b53 hz hr hlk a1 a2 a3 v2 X
  · refine jr_iload_n hz d_MD_push_35 rfl 4 rfl ?_
    refine jr_if_eq (tgt := 53) hz d_MD_push_36 (by decide) ?_ ?_
    · refine jr_sub (ls' := [(0, .ref (G.1 206)), (1, .int a1), (2, .int a2), (3, .int a3), (4, .int v2)]) [1, 2, 3, 4, 0] rfl ?_
      exact jb_MD_push_b53 hz hr hlk a1 a2 a3 v2 X
    · refine jr_iload_n hz d_MD_push_39 rfl 4 rfl ?_
      refine jr_bipush (v := 79) hz d_MD_push_40 (by decide) ?_
      refine jr_icmp_eq (tgt := 53) hz d_MD_push_42 (by decide) ?_ ?_
      · refine jr_sub (ls' := [(0, .ref (G.1 206)), (1, .int a1), (2, .int a2), (3, .int a3), (4, .int v2)]) [1, 2, 3, 4, 0] rfl ?_
        exact jb_MD_push_b53 hz hr hlk a1 a2 a3 v2 X
      · refine jr_iload_n hz d_MD_push_45 rfl 4 rfl ?_
        refine jr_bipush (v := 81) hz d_MD_push_46 (by decide) ?_
        refine jr_icmp_ge (tgt := 53) hz d_MD_push_48 (by decide) ?_ ?_
        · refine jr_sub (ls' := [(0, .ref (G.1 206)), (1, .int a1), (2, .int a2), (3, .int a3), (4, .int v2)]) [1, 2, 3, 4, 0] rfl ?_
          exact jb_MD_push_b53 hz hr hlk a1 a2 a3 v2 X
        · refine jr_iconst (v := 2) hz d_MD_push_51 (by decide) ?_
          exact jr_iret hz hr hlk d_MD_push_52
def fx_MD_push_b27 (a1 : Int32) (a2 : Int32) (a3 : Int32) (X : xh_T) : Option (Int32 × xh_T) :=
  fx_MD_push_b28 a1 a2 a3 0 X
set_option maxRecDepth 100000 in
set_option maxHeartbeats 4000000 in
theorem jb_MD_push_b27 {p : Program} {l : Launch} {e : Env} {s : State} {m : MethodId} {args : Array Value} {below : List Frame} {meth : Method} {c : Code} {D : va_G} {G : xh_G} (hz : xh_C p s m args c b_MD_push 6 "SpendScriptModel" D G (xh_A G s.heap.size)) (hr : meth.sig.returnType = (some .int)) (hlk : meth.locks = false) (a1 : Int32) (a2 : Int32) (a3 : Int32) (X : xh_T) : xh_J p l e rm_MD_push s m args below meth c 0 0 D G (xh_A G s.heap.size) 6 (fun r X' => MQ below (xh_Qi D G (xh_A G s.heap.size) r X') args s 0 0 (xh_A G s.heap.size)) 27 [(0, .ref (G.1 206)), (1, .int a1), (2, .int a2), (3, .int a3)] [] X (fx_MD_push_b27 a1 a2 a3 X) := by
  unfold fx_MD_push_b27
  refine jr_iconst (v := 0) hz d_MD_push_27 (by decide) ?_
  refine jr_sub (ls' := [(0, .ref (G.1 206)), (1, .int a1), (2, .int a2), (3, .int a3)]) [0, 1, 2, 3] rfl ?_
  exact jb_MD_push_b28 hz hr hlk a1 a2 a3 0 X
def fx_MD_push (p1 : Int32) (p2 : Int32) (X : xh_T) : Option (Int32 × xh_T) :=
  xh_o ((120 * p1) + p2) 360 (xh_n (X.1 207 (((120 * p1) + p2)).toNatClampNeg) (fun v1 : Int32 =>
  if v1 < 1 then
  fx_MD_push_b27 p1 p2 v1 X
  else if 32 < v1 then
  fx_MD_push_b27 p1 p2 v1 X
  else fx_MD_push_b28 p1 p2 v1 1 X))
set_option maxRecDepth 100000 in
set_option maxHeartbeats 4000000 in
theorem cx_MD_push (l : Launch) (D : va_G) (G : xh_G) (hD : xh_D G) (p1 : Int32) (p2 : Int32) (X : xh_T) : xh_M xh_Qi l D G y_MD_push b_MD_push 6 (some .int) rm_MD_push [.ref (G.1 206), .int p1, .int p2] X (fx_MD_push p1 p2 X) := by
  refine xh_enter (ls := [(0, .ref (G.1 206)), (1, .int p1), (2, .int p2)]) hD (by decide +kernel) (Nat.le_of_ble_eq_true rfl) rfl ?_
  intro p e s m args below meth c hz hr hlk
  unfold fx_MD_push
  refine jr_aload_n hz d_MD_push_0 rfl 0 rfl ?_
  refine jr_getr (j := 0) (t := 207) hz lq_206 ly_206 rfl wf_MD_7 d_MD_push_1 ?_
  refine jr_bipush (v := 120) hz d_MD_push_4 (by decide) ?_
  refine jr_iload_n hz d_MD_push_6 rfl 1 rfl ?_
  refine jr_imul hz d_MD_push_7 ?_
  refine jr_iload_n hz d_MD_push_8 rfl 2 rfl ?_
  refine jr_iadd hz d_MD_push_9 ?_
  refine jr_iald (n := 360) hz lq_207 ly_207 d_MD_push_10 ?_
  refine jr_istore_n (lf := [(0, .ref (G.1 206)), (1, .int p1), (2, .int p2)]) hz d_MD_push_11 rfl (by decide) rfl (fun v1 => ?_)
  refine jr_iload_n hz d_MD_push_12 rfl 0 rfl ?_
  refine jr_iconst (v := 1) hz d_MD_push_13 (by decide) ?_
  refine jr_icmp_lt (tgt := 27) hz d_MD_push_14 (by decide) ?_ ?_
  · refine jr_sub (ls' := [(0, .ref (G.1 206)), (1, .int p1), (2, .int p2), (3, .int v1)]) [1, 2, 3, 0] rfl ?_
    exact jb_MD_push_b27 hz hr hlk p1 p2 v1 X
  · refine jr_iload_n hz d_MD_push_17 rfl 0 rfl ?_
    refine jr_bipush (v := 32) hz d_MD_push_18 (by decide) ?_
    refine jr_icmp_gt (tgt := 27) hz d_MD_push_20 (by decide) ?_ ?_
    · refine jr_sub (ls' := [(0, .ref (G.1 206)), (1, .int p1), (2, .int p2), (3, .int v1)]) [1, 2, 3, 0] rfl ?_
      exact jb_MD_push_b27 hz hr hlk p1 p2 v1 X
    · refine jr_iconst (v := 1) hz d_MD_push_23 (by decide) ?_
      refine jr_goto (tgt := 28) hz d_MD_push_24 (by decide) ?_
      refine jr_sub (ls' := [(0, .ref (G.1 206)), (1, .int p1), (2, .int p2), (3, .int v1)]) [1, 2, 3, 0] rfl ?_
      exact jb_MD_push_b28 hz hr hlk p1 p2 v1 1 X

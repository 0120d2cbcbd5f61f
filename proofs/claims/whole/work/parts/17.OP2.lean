/-! printed by wip/whole/gen_walks.py -/
theorem d_OP_answer_0 : decode b_OP_answer 0 = .ok (.aload_n 0, 1) := by decide +kernel
theorem d_OP_answer_1 : decode b_OP_answer 1 = .ok (.getfield 9, 3) := by decide +kernel
theorem d_OP_answer_4 : decode b_OP_answer 4 = .ok (.iload_n 1, 1) := by decide +kernel
theorem d_OP_answer_5 : decode b_OP_answer 5 = .ok (.invokevirtual 69, 3) := by decide +kernel
theorem d_OP_answer_8 : decode b_OP_answer 8 = .ok (.aload_n 0, 1) := by decide +kernel
theorem d_OP_answer_9 : decode b_OP_answer 9 = .ok (.getfield 9, 3) := by decide +kernel
theorem d_OP_answer_12 : decode b_OP_answer 12 = .ok (.invokevirtual 55, 3) := by decide +kernel
theorem d_OP_answer_15 : decode b_OP_answer 15 = .ok (.iload_n 2, 1) := by decide +kernel
theorem d_OP_answer_16 : decode b_OP_answer 16 = .ok (.invokestatic 121, 3) := by decide +kernel
theorem d_OP_answer_19 : decode b_OP_answer 19 = .ok (.i2l, 1) := by decide +kernel
theorem d_OP_answer_20 : decode b_OP_answer 20 = .ok (.invokevirtual 167, 3) := by decide +kernel
theorem d_OP_answer_23 : decode b_OP_answer 23 = .ok (.return_, 1) := by decide +kernel
abbrev rm_OP_answer : Room := { frames := 2, cells := 0, slots := 0, locals := 106 }
def fx_OP_answer (p1 : Int32) (p2 : Int32) (X : xh_T) : Option (Unit × xh_T) :=
  xh_b (fx_IS_drop 10 p1 X) (fun (_ : Unit) (X1 : xh_T) =>
  xh_b (fx_IS_push 10 X1) (fun (q8 : Nat) (X2 : xh_T) =>
  xh_b (fx_OP_oneIf p2 X2) (fun (r9 : Int32) (X3 : xh_T) =>
  xh_b (fx_BS_becomeNumber q8 ((r9 : Int32).toInt64) X3) (fun (_ : Unit) (X4 : xh_T) =>
  some ((), X4)))))
set_option maxRecDepth 100000 in
set_option maxHeartbeats 4000000 in
theorem cx_OP_answer (l : Launch) (D : va_G) (G : xh_G) (hD : xh_D G) (p1 : Int32) (p2 : Int32) (X : xh_T) : xh_M xh_Qv l D G y_OP_answer b_OP_answer 3 none rm_OP_answer [.ref (G.1 205), .int p1, .int p2] X (fx_OP_answer p1 p2 X) := by
  refine xh_enter (ls := [(0, .ref (G.1 205)), (1, .int p1), (2, .int p2)]) hD (by decide +kernel) (Nat.le_of_ble_eq_true rfl) rfl ?_
  intro p e s m args below meth c hz hr hlk
  unfold fx_OP_answer
  refine jr_aload_n hz d_OP_answer_0 rfl 0 rfl ?_
  refine jr_getr (j := 0) (t := 10) hz lq_205 ly_205 rfl wf_OP_9 d_OP_answer_1 ?_
  refine jr_iload_n hz d_OP_answer_4 rfl 1 rfl ?_
  refine jr_callVv (As := [.int p1]) (a := 10) (ci := 1) (st := []) hz (cx_IS_drop l D G hz.2.2.2.2.2.2.1 10 p1 X) (fun z h => sp_is_v (xh_k_t h)) wv_OP_69 ⟨rfl, rfl, Nat.le_of_ble_eq_true rfl, Nat.le_of_ble_eq_true rfl⟩ ⟨Nat.zero_le _, Nat.zero_le _⟩ rfl rfl (Nat.le_of_ble_eq_true rfl) d_OP_answer_5 (fun _ X1 => ?_)
  refine jr_aload_n hz d_OP_answer_8 rfl 0 rfl ?_
  refine jr_getr (j := 0) (t := 10) hz lq_205 ly_205 rfl wf_OP_9 d_OP_answer_9 ?_
  refine jr_callVr (As := []) (a := 10) (ci := 1) (st := []) hz (cx_IS_push l D G hz.2.2.2.2.2.2.1 10 X1) (fun z h => sp_is_v (xh_k_t h)) wv_OP_55 ⟨rfl, rfl, Nat.le_of_ble_eq_true rfl, Nat.le_of_ble_eq_true rfl⟩ ⟨Nat.zero_le _, Nat.zero_le _⟩ rfl rfl (Nat.le_of_ble_eq_true rfl) d_OP_answer_12 (fun q8 X2 => ?_)
  refine jr_iload_n hz d_OP_answer_15 rfl 2 rfl ?_
  refine jr_callSi (As := [.int p2]) (st := [.ref (G.1 q8)]) hz (cx_OP_oneIf l D G hz.2.2.2.2.2.2.1 p2 X2) ws_OP_121 ⟨rfl, rfl, Nat.le_of_ble_eq_true rfl, Nat.le_of_ble_eq_true rfl⟩ ⟨Nat.zero_le _, Nat.zero_le _⟩ rfl rfl (Nat.le_of_ble_eq_true rfl) d_OP_answer_16 (fun r9 X3 => ?_)
  refine jr_i2l hz d_OP_answer_19 ?_
  refine jr_callVv (As := [.long ((r9 : Int32).toInt64)]) (a := q8) (ci := 0) (st := []) hz (cx_BS_becomeNumber l D G hz.2.2.2.2.2.2.1 q8 ((r9 : Int32).toInt64) X3) (fun z h => sp_bs_v (xh_k_t h)) wv_OP_167 ⟨rfl, rfl, Nat.le_of_ble_eq_true rfl, Nat.le_of_ble_eq_true rfl⟩ ⟨Nat.zero_le _, Nat.zero_le _⟩ rfl rfl (Nat.le_of_ble_eq_true rfl) d_OP_answer_20 (fun _ X4 => ?_)
  exact jr_vret hz hr hlk d_OP_answer_23
theorem d_OP_checkSeveralSignatures_0 : decode b_OP_checkSeveralSignatures 0 = .ok (.aload_n 0, 1) := by decide +kernel
theorem d_OP_checkSeveralSignatures_1 : decode b_OP_checkSeveralSignatures 1 = .ok (.iconst 0, 1) := by decide +kernel
theorem d_OP_checkSeveralSignatures_2 : decode b_OP_checkSeveralSignatures 2 = .ok (.iconst 4, 1) := by decide +kernel
theorem d_OP_checkSeveralSignatures_3 : decode b_OP_checkSeveralSignatures 3 = .ok (.invokevirtual 75, 3) := by decide +kernel
theorem d_OP_checkSeveralSignatures_6 : decode b_OP_checkSeveralSignatures 6 = .ok (.istore_n 1, 1) := by decide +kernel
theorem d_OP_checkSeveralSignatures_7 : decode b_OP_checkSeveralSignatures 7 = .ok (.iload_n 1, 1) := by decide +kernel
theorem d_OP_checkSeveralSignatures_8 : decode b_OP_checkSeveralSignatures 8 = .ok (.ifCond .eq 5, 3) := by decide +kernel
theorem d_OP_checkSeveralSignatures_11 : decode b_OP_checkSeveralSignatures 11 = .ok (.iload_n 1, 1) := by decide +kernel
theorem d_OP_checkSeveralSignatures_12 : decode b_OP_checkSeveralSignatures 12 = .ok (.ireturn, 1) := by decide +kernel
theorem d_OP_checkSeveralSignatures_13 : decode b_OP_checkSeveralSignatures 13 = .ok (.aload_n 0, 1) := by decide +kernel
theorem d_OP_checkSeveralSignatures_14 : decode b_OP_checkSeveralSignatures 14 = .ok (.getfield 9, 3) := by decide +kernel
theorem d_OP_checkSeveralSignatures_17 : decode b_OP_checkSeveralSignatures 17 = .ok (.iconst 0, 1) := by decide +kernel
theorem d_OP_checkSeveralSignatures_18 : decode b_OP_checkSeveralSignatures 18 = .ok (.invokevirtual 59, 3) := by decide +kernel
theorem d_OP_checkSeveralSignatures_21 : decode b_OP_checkSeveralSignatures 21 = .ok (.invokevirtual 79, 3) := by decide +kernel
theorem d_OP_checkSeveralSignatures_24 : decode b_OP_checkSeveralSignatures 24 = .ok (.l2i, 1) := by decide +kernel
theorem d_OP_checkSeveralSignatures_25 : decode b_OP_checkSeveralSignatures 25 = .ok (.istore_n 2, 1) := by decide +kernel
theorem d_OP_checkSeveralSignatures_26 : decode b_OP_checkSeveralSignatures 26 = .ok (.aload_n 0, 1) := by decide +kernel
theorem d_OP_checkSeveralSignatures_27 : decode b_OP_checkSeveralSignatures 27 = .ok (.iload_n 2, 1) := by decide +kernel
theorem d_OP_checkSeveralSignatures_28 : decode b_OP_checkSeveralSignatures 28 = .ok (.iconst 1, 1) := by decide +kernel
theorem d_OP_checkSeveralSignatures_29 : decode b_OP_checkSeveralSignatures 29 = .ok (.iadd, 1) := by decide +kernel
theorem d_OP_checkSeveralSignatures_30 : decode b_OP_checkSeveralSignatures 30 = .ok (.iload_n 2, 1) := by decide +kernel
theorem d_OP_checkSeveralSignatures_31 : decode b_OP_checkSeveralSignatures 31 = .ok (.invokevirtual 75, 3) := by decide +kernel
theorem d_OP_checkSeveralSignatures_34 : decode b_OP_checkSeveralSignatures 34 = .ok (.istore_n 1, 1) := by decide +kernel
theorem d_OP_checkSeveralSignatures_35 : decode b_OP_checkSeveralSignatures 35 = .ok (.iload_n 1, 1) := by decide +kernel
theorem d_OP_checkSeveralSignatures_36 : decode b_OP_checkSeveralSignatures 36 = .ok (.ifCond .eq 5, 3) := by decide +kernel
theorem d_OP_checkSeveralSignatures_39 : decode b_OP_checkSeveralSignatures 39 = .ok (.iload_n 1, 1) := by decide +kernel
theorem d_OP_checkSeveralSignatures_40 : decode b_OP_checkSeveralSignatures 40 = .ok (.ireturn, 1) := by decide +kernel
theorem d_OP_checkSeveralSignatures_41 : decode b_OP_checkSeveralSignatures 41 = .ok (.aload_n 0, 1) := by decide +kernel
theorem d_OP_checkSeveralSignatures_42 : decode b_OP_checkSeveralSignatures 42 = .ok (.getfield 9, 3) := by decide +kernel
theorem d_OP_checkSeveralSignatures_45 : decode b_OP_checkSeveralSignatures 45 = .ok (.iload_n 2, 1) := by decide +kernel
theorem d_OP_checkSeveralSignatures_46 : decode b_OP_checkSeveralSignatures 46 = .ok (.iconst 1, 1) := by decide +kernel
theorem d_OP_checkSeveralSignatures_47 : decode b_OP_checkSeveralSignatures 47 = .ok (.iadd, 1) := by decide +kernel
theorem d_OP_checkSeveralSignatures_48 : decode b_OP_checkSeveralSignatures 48 = .ok (.invokevirtual 59, 3) := by decide +kernel
theorem d_OP_checkSeveralSignatures_51 : decode b_OP_checkSeveralSignatures 51 = .ok (.invokevirtual 79, 3) := by decide +kernel
theorem d_OP_checkSeveralSignatures_54 : decode b_OP_checkSeveralSignatures 54 = .ok (.l2i, 1) := by decide +kernel
theorem d_OP_checkSeveralSignatures_55 : decode b_OP_checkSeveralSignatures 55 = .ok (.istore_n 3, 1) := by decide +kernel
theorem d_OP_checkSeveralSignatures_56 : decode b_OP_checkSeveralSignatures 56 = .ok (.iload_n 2, 1) := by decide +kernel
theorem d_OP_checkSeveralSignatures_57 : decode b_OP_checkSeveralSignatures 57 = .ok (.iload_n 3, 1) := by decide +kernel
theorem d_OP_checkSeveralSignatures_58 : decode b_OP_checkSeveralSignatures 58 = .ok (.iadd, 1) := by decide +kernel
theorem d_OP_checkSeveralSignatures_59 : decode b_OP_checkSeveralSignatures 59 = .ok (.iconst 3, 1) := by decide +kernel
theorem d_OP_checkSeveralSignatures_60 : decode b_OP_checkSeveralSignatures 60 = .ok (.iadd, 1) := by decide +kernel
theorem d_OP_checkSeveralSignatures_61 : decode b_OP_checkSeveralSignatures 61 = .ok (.istore 4, 2) := by decide +kernel
theorem d_OP_checkSeveralSignatures_63 : decode b_OP_checkSeveralSignatures 63 = .ok (.aload_n 0, 1) := by decide +kernel
theorem d_OP_checkSeveralSignatures_64 : decode b_OP_checkSeveralSignatures 64 = .ok (.getfield 9, 3) := by decide +kernel
theorem d_OP_checkSeveralSignatures_67 : decode b_OP_checkSeveralSignatures 67 = .ok (.invokevirtual 83, 3) := by decide +kernel
theorem d_OP_checkSeveralSignatures_70 : decode b_OP_checkSeveralSignatures 70 = .ok (.iload 4, 2) := by decide +kernel
theorem d_OP_checkSeveralSignatures_72 : decode b_OP_checkSeveralSignatures 72 = .ok (.if_icmp .ge 6, 3) := by decide +kernel
theorem d_OP_checkSeveralSignatures_75 : decode b_OP_checkSeveralSignatures 75 = .ok (.bipush 11, 2) := by decide +kernel
theorem d_OP_checkSeveralSignatures_77 : decode b_OP_checkSeveralSignatures 77 = .ok (.ireturn, 1) := by decide +kernel
theorem d_OP_checkSeveralSignatures_78 : decode b_OP_checkSeveralSignatures 78 = .ok (.aload_n 0, 1) := by decide +kernel
theorem d_OP_checkSeveralSignatures_79 : decode b_OP_checkSeveralSignatures 79 = .ok (.iload 4, 2) := by decide +kernel
theorem d_OP_checkSeveralSignatures_81 : decode b_OP_checkSeveralSignatures 81 = .ok (.aload_n 0, 1) := by decide +kernel
theorem d_OP_checkSeveralSignatures_82 : decode b_OP_checkSeveralSignatures 82 = .ok (.iload_n 2, 1) := by decide +kernel
theorem d_OP_checkSeveralSignatures_83 : decode b_OP_checkSeveralSignatures 83 = .ok (.iload_n 3, 1) := by decide +kernel
theorem d_OP_checkSeveralSignatures_84 : decode b_OP_checkSeveralSignatures 84 = .ok (.invokevirtual 99, 3) := by decide +kernel
theorem d_OP_checkSeveralSignatures_87 : decode b_OP_checkSeveralSignatures 87 = .ok (.invokevirtual 103, 3) := by decide +kernel
theorem d_OP_checkSeveralSignatures_90 : decode b_OP_checkSeveralSignatures 90 = .ok (.iconst 0, 1) := by decide +kernel
theorem d_OP_checkSeveralSignatures_91 : decode b_OP_checkSeveralSignatures 91 = .ok (.ireturn, 1) := by decide +kernel
theorem wv_OP_99 : xh_V "SpendScript$Operations" 99 5 y_OP_allSigned b_OP_allSigned 5 (some .boolean) 2 := ⟨(sp_tb (List.mem_of_getElem? (i := 416) (by decide +kernel))), (sp_tb (List.mem_of_getElem? (i := 7) (by decide +kernel))), (sp_tb (List.mem_of_getElem? (i := 413) (by decide +kernel))), ⟨by decide +kernel, by decide +kernel, by decide +kernel⟩, (sp_tb (List.mem_of_getElem? (i := 415) (by decide +kernel))), (sp_pv (q := (y_OP_allSigned, 3)) (List.mem_of_getElem? (i := 13) (by decide +kernel))), F_OP, 3, rfl⟩
theorem wv_OP_103 : xh_V "SpendScript$Operations" 103 5 y_OP_answer b_OP_answer 3 none 2 := ⟨(sp_tb (List.mem_of_getElem? (i := 430) (by decide +kernel))), (sp_tb (List.mem_of_getElem? (i := 7) (by decide +kernel))), (sp_tb (List.mem_of_getElem? (i := 427) (by decide +kernel))), ⟨by decide +kernel, by decide +kernel, by decide +kernel⟩, (sp_tb (List.mem_of_getElem? (i := 429) (by decide +kernel))), (sp_pv (q := (y_OP_answer, 3)) (List.mem_of_getElem? (i := 14) (by decide +kernel))), F_OP, 3, rfl⟩
abbrev rm_OP_checkSeveralSignatures : Room := { frames := 3, cells := 0, slots := 0, locals := 128 }
def fx_OP_checkSeveralSignatures (X : xh_T) : Option (Int32 × xh_T) :=
  xh_b (fx_OP_countFault 0 4 X) (fun (r1 : Int32) (X1 : xh_T) =>
  xh_n r1 (fun v5 : Int32 =>
  if v5 = 0 then
  xh_b (fx_IS_item 10 0 X1) (fun (q9 : Nat) (X2 : xh_T) =>
  xh_b (fx_BS_number q9 X2) (fun (r12 : Int64) (X3 : xh_T) =>
  xh_n ((r12 : Int64).toInt32) (fun v14 : Int32 =>
  xh_b (fx_OP_countFault (v14 + 1) v14 X3) (fun (r15 : Int32) (X4 : xh_T) =>
  xh_n r15 (fun v19 : Int32 =>
  if v19 = 0 then
  xh_b (fx_IS_item 10 (v14 + 1) X4) (fun (q23 : Nat) (X5 : xh_T) =>
  xh_b (fx_BS_number q23 X5) (fun (r26 : Int64) (X6 : xh_T) =>
  xh_n ((r26 : Int64).toInt32) (fun v28 : Int32 =>
  xh_n ((v14 + v28) + 3) (fun v29 : Int32 =>
  xh_b (fx_IS_size 10 X6) (fun (r30 : Int32) (X7 : xh_T) =>
  if v29 ≤ r30 then
  xh_b (fx_OP_allSigned v14 v28 X7) (fun (r35 : Int32) (X8 : xh_T) =>
  xh_b (fx_OP_answer v29 r35 X8) (fun (_ : Unit) (X9 : xh_T) =>
  some (0, X9)))
  else some (11, X7))))))
  else some (v19, X4))))))
  else some (v5, X1)))
set_option maxRecDepth 100000 in
set_option maxHeartbeats 4000000 in
theorem cx_OP_checkSeveralSignatures (l : Launch) (D : va_G) (G : xh_G) (hD : xh_D G) (X : xh_T) : xh_M xh_Qi l D G y_OP_checkSeveralSignatures b_OP_checkSeveralSignatures 5 (some .int) rm_OP_checkSeveralSignatures [.ref (G.1 205)] X (fx_OP_checkSeveralSignatures X) := by
  refine xh_enter (ls := [(0, .ref (G.1 205))]) hD (by decide +kernel) (Nat.le_of_ble_eq_true rfl) rfl ?_
  intro p e s m args below meth c hz hr hlk
  unfold fx_OP_checkSeveralSignatures
  refine jr_aload_n hz d_OP_checkSeveralSignatures_0 rfl 0 rfl ?_
  refine jr_iconst (v := 0) hz d_OP_checkSeveralSignatures_1 (by decide) ?_
  refine jr_iconst (v := 4) hz d_OP_checkSeveralSignatures_2 (by decide) ?_
  refine jr_callVi (As := [.int 0, .int 4]) (a := 205) (ci := 5) (st := []) hz (cx_OP_countFault l D G hz.2.2.2.2.2.2.1 0 4 X) (fun _ _ => ⟨lq_205, _, ly_205⟩) wv_OP_75 ⟨rfl, rfl, Nat.le_of_ble_eq_true rfl, Nat.le_of_ble_eq_true rfl⟩ ⟨Nat.zero_le _, Nat.zero_le _⟩ rfl rfl (Nat.le_of_ble_eq_true rfl) d_OP_checkSeveralSignatures_3 (fun r1 X1 => ?_)
  refine jr_istore_n (lf := [(0, .ref (G.1 205))]) hz d_OP_checkSeveralSignatures_6 rfl (by decide) rfl (fun v5 => ?_)
  refine jr_iload_n hz d_OP_checkSeveralSignatures_7 rfl 0 rfl ?_
  refine jr_if_eq (tgt := 13) hz d_OP_checkSeveralSignatures_8 (by decide) ?_ ?_
  · refine jr_aload_n hz d_OP_checkSeveralSignatures_13 rfl 1 rfl ?_
    refine jr_getr (j := 0) (t := 10) hz lq_205 ly_205 rfl wf_OP_9 d_OP_checkSeveralSignatures_14 ?_
    refine jr_iconst (v := 0) hz d_OP_checkSeveralSignatures_17 (by decide) ?_
    refine jr_callVr (As := [.int 0]) (a := 10) (ci := 1) (st := []) hz (cx_IS_item l D G hz.2.2.2.2.2.2.1 10 0 X1) (fun z h => sp_is_v (xh_k_t h)) wv_OP_59 ⟨rfl, rfl, Nat.le_of_ble_eq_true rfl, Nat.le_of_ble_eq_true rfl⟩ ⟨Nat.zero_le _, Nat.zero_le _⟩ rfl rfl (Nat.le_of_ble_eq_true rfl) d_OP_checkSeveralSignatures_18 (fun q9 X2 => ?_)
    refine jr_callVl (As := []) (a := q9) (ci := 0) (st := []) hz (cx_BS_number l D G hz.2.2.2.2.2.2.1 q9 X2) (fun z h => sp_bs_v (xh_k_t h)) wv_OP_79 ⟨rfl, rfl, Nat.le_of_ble_eq_true rfl, Nat.le_of_ble_eq_true rfl⟩ ⟨Nat.zero_le _, Nat.zero_le _⟩ rfl rfl (Nat.le_of_ble_eq_true rfl) d_OP_checkSeveralSignatures_21 (fun r12 X3 => ?_)
    refine jr_l2i hz d_OP_checkSeveralSignatures_24 ?_
    refine jr_istore_n (lf := [(1, .int v5), (0, .ref (G.1 205))]) hz d_OP_checkSeveralSignatures_25 rfl (by decide) rfl (fun v14 => ?_)
    refine jr_aload_n hz d_OP_checkSeveralSignatures_26 rfl 2 rfl ?_
    refine jr_iload_n hz d_OP_checkSeveralSignatures_27 rfl 0 rfl ?_
    refine jr_iconst (v := 1) hz d_OP_checkSeveralSignatures_28 (by decide) ?_
    refine jr_iadd hz d_OP_checkSeveralSignatures_29 ?_
    refine jr_iload_n hz d_OP_checkSeveralSignatures_30 rfl 0 rfl ?_
    refine jr_callVi (As := [.int (v14 + 1), .int v14]) (a := 205) (ci := 5) (st := []) hz (cx_OP_countFault l D G hz.2.2.2.2.2.2.1 (v14 + 1) v14 X3) (fun _ _ => ⟨lq_205, _, ly_205⟩) wv_OP_75 ⟨rfl, rfl, Nat.le_of_ble_eq_true rfl, Nat.le_of_ble_eq_true rfl⟩ ⟨Nat.zero_le _, Nat.zero_le _⟩ rfl rfl (Nat.le_of_ble_eq_true rfl) d_OP_checkSeveralSignatures_31 (fun r15 X4 => ?_)
    refine jr_istore_n (lf := [(2, .int v14), (0, .ref (G.1 205))]) hz d_OP_checkSeveralSignatures_34 rfl (by decide) rfl (fun v19 => ?_)
    refine jr_iload_n hz d_OP_checkSeveralSignatures_35 rfl 0 rfl ?_
    refine jr_if_eq (tgt := 41) hz d_OP_checkSeveralSignatures_36 (by decide) ?_ ?_
    · refine jr_aload_n hz d_OP_checkSeveralSignatures_41 rfl 2 rfl ?_
      refine jr_getr (j := 0) (t := 10) hz lq_205 ly_205 rfl wf_OP_9 d_OP_checkSeveralSignatures_42 ?_
      refine jr_iload_n hz d_OP_checkSeveralSignatures_45 rfl 1 rfl ?_
      refine jr_iconst (v := 1) hz d_OP_checkSeveralSignatures_46 (by decide) ?_
      refine jr_iadd hz d_OP_checkSeveralSignatures_47 ?_
      refine jr_callVr (As := [.int (v14 + 1)]) (a := 10) (ci := 1) (st := []) hz (cx_IS_item l D G hz.2.2.2.2.2.2.1 10 (v14 + 1) X4) (fun z h => sp_is_v (xh_k_t h)) wv_OP_59 ⟨rfl, rfl, Nat.le_of_ble_eq_true rfl, Nat.le_of_ble_eq_true rfl⟩ ⟨Nat.zero_le _, Nat.zero_le _⟩ rfl rfl (Nat.le_of_ble_eq_true rfl) d_OP_checkSeveralSignatures_48 (fun q23 X5 => ?_)
      refine jr_callVl (As := []) (a := q23) (ci := 0) (st := []) hz (cx_BS_number l D G hz.2.2.2.2.2.2.1 q23 X5) (fun z h => sp_bs_v (xh_k_t h)) wv_OP_79 ⟨rfl, rfl, Nat.le_of_ble_eq_true rfl, Nat.le_of_ble_eq_true rfl⟩ ⟨Nat.zero_le _, Nat.zero_le _⟩ rfl rfl (Nat.le_of_ble_eq_true rfl) d_OP_checkSeveralSignatures_51 (fun r26 X6 => ?_)
      refine jr_l2i hz d_OP_checkSeveralSignatures_54 ?_
      refine jr_istore_n (lf := [(1, .int v19), (2, .int v14), (0, .ref (G.1 205))]) hz d_OP_checkSeveralSignatures_55 rfl (by decide) rfl (fun v28 => ?_)
      refine jr_iload_n hz d_OP_checkSeveralSignatures_56 rfl 2 rfl ?_
      refine jr_iload_n hz d_OP_checkSeveralSignatures_57 rfl 0 rfl ?_
      refine jr_iadd hz d_OP_checkSeveralSignatures_58 ?_
      refine jr_iconst (v := 3) hz d_OP_checkSeveralSignatures_59 (by decide) ?_
      refine jr_iadd hz d_OP_checkSeveralSignatures_60 ?_
      refine jr_istore (lf := [(3, .int v28), (1, .int v19), (2, .int v14), (0, .ref (G.1 205))]) hz d_OP_checkSeveralSignatures_61 (by decide) rfl (fun v29 => ?_)
      refine jr_aload_n hz d_OP_checkSeveralSignatures_63 rfl 4 rfl ?_
      refine jr_getr (j := 0) (t := 10) hz lq_205 ly_205 rfl wf_OP_9 d_OP_checkSeveralSignatures_64 ?_
      refine jr_callVi (As := []) (a := 10) (ci := 1) (st := []) hz (cx_IS_size l D G hz.2.2.2.2.2.2.1 10 X6) (fun z h => sp_is_v (xh_k_t h)) wv_OP_83 ⟨rfl, rfl, Nat.le_of_ble_eq_true rfl, Nat.le_of_ble_eq_true rfl⟩ ⟨Nat.zero_le _, Nat.zero_le _⟩ rfl rfl (Nat.le_of_ble_eq_true rfl) d_OP_checkSeveralSignatures_67 (fun r30 X7 => ?_)
      refine jr_iload hz d_OP_checkSeveralSignatures_70 0 rfl ?_
      refine jr_icmp_ge (tgt := 78) hz d_OP_checkSeveralSignatures_72 (by decide) ?_ ?_
      · refine jr_aload_n hz d_OP_checkSeveralSignatures_78 rfl 4 rfl ?_
        refine jr_iload hz d_OP_checkSeveralSignatures_79 0 rfl ?_
        refine jr_aload_n hz d_OP_checkSeveralSignatures_81 rfl 4 rfl ?_
        refine jr_iload_n hz d_OP_checkSeveralSignatures_82 rfl 3 rfl ?_
        refine jr_iload_n hz d_OP_checkSeveralSignatures_83 rfl 1 rfl ?_
        refine jr_callVi (As := [.int v14, .int v28]) (a := 205) (ci := 5) (st := [.int v29, .ref (G.1 205)]) hz (cx_OP_allSigned l D G hz.2.2.2.2.2.2.1 v14 v28 X7) (fun _ _ => ⟨lq_205, _, ly_205⟩) wv_OP_99 ⟨rfl, rfl, Nat.le_of_ble_eq_true rfl, Nat.le_of_ble_eq_true rfl⟩ ⟨Nat.zero_le _, Nat.zero_le _⟩ rfl rfl (Nat.le_of_ble_eq_true rfl) d_OP_checkSeveralSignatures_84 (fun r35 X8 => ?_)
        refine jr_callVv (As := [.int v29, .int r35]) (a := 205) (ci := 5) (st := []) hz (cx_OP_answer l D G hz.2.2.2.2.2.2.1 v29 r35 X8) (fun _ _ => ⟨lq_205, _, ly_205⟩) wv_OP_103 ⟨rfl, rfl, Nat.le_of_ble_eq_true rfl, Nat.le_of_ble_eq_true rfl⟩ ⟨Nat.zero_le _, Nat.zero_le _⟩ rfl rfl (Nat.le_of_ble_eq_true rfl) d_OP_checkSeveralSignatures_87 (fun _ X9 => ?_)
        refine jr_iconst (v := 0) hz d_OP_checkSeveralSignatures_90 (by decide) ?_
        exact jr_iret hz hr hlk d_OP_checkSeveralSignatures_91
      · refine jr_bipush (v := 11) hz d_OP_checkSeveralSignatures_75 (by decide) ?_
        exact jr_iret hz hr hlk d_OP_checkSeveralSignatures_77
    · refine jr_iload_n hz d_OP_checkSeveralSignatures_39 rfl 0 rfl ?_
      exact jr_iret hz hr hlk d_OP_checkSeveralSignatures_40
  · refine jr_iload_n hz d_OP_checkSeveralSignatures_11 rfl 0 rfl ?_
    exact jr_iret hz hr hlk d_OP_checkSeveralSignatures_12
theorem d_OP_itemsNamed_0 : decode b_OP_itemsNamed 0 = .ok (.iload_n 0, 1) := by decide +kernel
theorem d_OP_itemsNamed_1 : decode b_OP_itemsNamed 1 = .ok (.lookupswitch 113 #[(109, 109), (110, 109), (116, 107), (119, 109), (120, 109), (123, 111), (124, 109), (125, 109), (135, 109), (136, 109), (172, 109), (173, 109)], 107) := by decide +kernel
theorem d_OP_itemsNamed_108 : decode b_OP_itemsNamed 108 = .ok (.iconst 0, 1) := by decide +kernel
theorem d_OP_itemsNamed_109 : decode b_OP_itemsNamed 109 = .ok (.ireturn, 1) := by decide +kernel
theorem d_OP_itemsNamed_110 : decode b_OP_itemsNamed 110 = .ok (.iconst 2, 1) := by decide +kernel
theorem d_OP_itemsNamed_111 : decode b_OP_itemsNamed 111 = .ok (.ireturn, 1) := by decide +kernel
theorem d_OP_itemsNamed_112 : decode b_OP_itemsNamed 112 = .ok (.iconst 3, 1) := by decide +kernel
theorem d_OP_itemsNamed_113 : decode b_OP_itemsNamed 113 = .ok (.ireturn, 1) := by decide +kernel
theorem d_OP_itemsNamed_114 : decode b_OP_itemsNamed 114 = .ok (.iconst 1, 1) := by decide +kernel
theorem d_OP_itemsNamed_115 : decode b_OP_itemsNamed 115 = .ok (.ireturn, 1) := by decide +kernel
abbrev rm_OP_itemsNamed : Room := { frames := 0, cells := 0, slots := 0, locals := 0 }
def fx_OP_itemsNamed (p1 : Int32) (X : xh_T) : Option (Int32 × xh_T) :=
  if p1 = 109 then
  some (2, X)
  else if p1 = 110 then
  some (2, X)
  else if p1 = 116 then
  some (0, X)
  else if p1 = 119 then
  some (2, X)
  else if p1 = 120 then
  some (2, X)
  else if p1 = 123 then
  some (3, X)
  else if p1 = 124 then
  some (2, X)
  else if p1 = 125 then
  some (2, X)
  else if p1 = 135 then
  some (2, X)
  else if p1 = 136 then
  some (2, X)
  else if p1 = 172 then
  some (2, X)
  else if p1 = 173 then
  some (2, X)
  else some (1, X)
set_option maxRecDepth 100000 in
set_option maxHeartbeats 4000000 in
theorem cx_OP_itemsNamed (l : Launch) (D : va_G) (G : xh_G) (hD : xh_D G) (p1 : Int32) (X : xh_T) : xh_M xh_Qi l D G y_OP_itemsNamed b_OP_itemsNamed 1 (some .int) rm_OP_itemsNamed [.int p1] X (fx_OP_itemsNamed p1 X) := by
  refine xh_enter (ls := [(0, .int p1)]) hD (by decide +kernel) (Nat.le_of_ble_eq_true rfl) rfl ?_
  intro p e s m args below meth c hz hr hlk
  unfold fx_OP_itemsNamed
  refine jr_iload_n hz d_OP_itemsNamed_0 rfl 0 rfl ?_
  refine jr_ite (fun hs0 => ?_) (fun hs0 => ?_)
  · refine jr_lookup (off := 109) (tgt := 110) hz d_OP_itemsNamed_1 (by decide) (by rw [hs0]; first | done | decide | rfl) (by decide) ?_
    refine jr_iconst (v := 2) hz d_OP_itemsNamed_110 (by decide) ?_
    exact jr_iret hz hr hlk d_OP_itemsNamed_111
  refine jr_ite (fun hs1 => ?_) (fun hs1 => ?_)
  · refine jr_lookup (off := 109) (tgt := 110) hz d_OP_itemsNamed_1 (by decide) (by rw [hs1]; first | done | decide | rfl) (by decide) ?_
    refine jr_iconst (v := 2) hz d_OP_itemsNamed_110 (by decide) ?_
    exact jr_iret hz hr hlk d_OP_itemsNamed_111
  refine jr_ite (fun hs2 => ?_) (fun hs2 => ?_)
  · refine jr_lookup (off := 107) (tgt := 108) hz d_OP_itemsNamed_1 (by decide) (by rw [hs2]; first | done | decide | rfl) (by decide) ?_
    refine jr_iconst (v := 0) hz d_OP_itemsNamed_108 (by decide) ?_
    exact jr_iret hz hr hlk d_OP_itemsNamed_109
  refine jr_ite (fun hs3 => ?_) (fun hs3 => ?_)
  · refine jr_lookup (off := 109) (tgt := 110) hz d_OP_itemsNamed_1 (by decide) (by rw [hs3]; first | done | decide | rfl) (by decide) ?_
    refine jr_iconst (v := 2) hz d_OP_itemsNamed_110 (by decide) ?_
    exact jr_iret hz hr hlk d_OP_itemsNamed_111
  refine jr_ite (fun hs4 => ?_) (fun hs4 => ?_)
  · refine jr_lookup (off := 109) (tgt := 110) hz d_OP_itemsNamed_1 (by decide) (by rw [hs4]; first | done | decide | rfl) (by decide) ?_
    refine jr_iconst (v := 2) hz d_OP_itemsNamed_110 (by decide) ?_
    exact jr_iret hz hr hlk d_OP_itemsNamed_111
  refine jr_ite (fun hs5 => ?_) (fun hs5 => ?_)
  · refine jr_lookup (off := 111) (tgt := 112) hz d_OP_itemsNamed_1 (by decide) (by rw [hs5]; first | done | decide | rfl) (by decide) ?_
    refine jr_iconst (v := 3) hz d_OP_itemsNamed_112 (by decide) ?_
    exact jr_iret hz hr hlk d_OP_itemsNamed_113
  refine jr_ite (fun hs6 => ?_) (fun hs6 => ?_)
  · refine jr_lookup (off := 109) (tgt := 110) hz d_OP_itemsNamed_1 (by decide) (by rw [hs6]; first | done | decide | rfl) (by decide) ?_
    refine jr_iconst (v := 2) hz d_OP_itemsNamed_110 (by decide) ?_
    exact jr_iret hz hr hlk d_OP_itemsNamed_111
  refine jr_ite (fun hs7 => ?_) (fun hs7 => ?_)
  · refine jr_lookup (off := 109) (tgt := 110) hz d_OP_itemsNamed_1 (by decide) (by rw [hs7]; first | done | decide | rfl) (by decide) ?_
    refine jr_iconst (v := 2) hz d_OP_itemsNamed_110 (by decide) ?_
    exact jr_iret hz hr hlk d_OP_itemsNamed_111
  refine jr_ite (fun hs8 => ?_) (fun hs8 => ?_)
  · refine jr_lookup (off := 109) (tgt := 110) hz d_OP_itemsNamed_1 (by decide) (by rw [hs8]; first | done | decide | rfl) (by decide) ?_
    refine jr_iconst (v := 2) hz d_OP_itemsNamed_110 (by decide) ?_
    exact jr_iret hz hr hlk d_OP_itemsNamed_111
  refine jr_ite (fun hs9 => ?_) (fun hs9 => ?_)
  · refine jr_lookup (off := 109) (tgt := 110) hz d_OP_itemsNamed_1 (by decide) (by rw [hs9]; first | done | decide | rfl) (by decide) ?_
    refine jr_iconst (v := 2) hz d_OP_itemsNamed_110 (by decide) ?_
    exact jr_iret hz hr hlk d_OP_itemsNamed_111
  refine jr_ite (fun hs10 => ?_) (fun hs10 => ?_)
  · refine jr_lookup (off := 109) (tgt := 110) hz d_OP_itemsNamed_1 (by decide) (by rw [hs10]; first | done | decide | rfl) (by decide) ?_
    refine jr_iconst (v := 2) hz d_OP_itemsNamed_110 (by decide) ?_
    exact jr_iret hz hr hlk d_OP_itemsNamed_111
  refine jr_ite (fun hs11 => ?_) (fun hs11 => ?_)
  · refine jr_lookup (off := 109) (tgt := 110) hz d_OP_itemsNamed_1 (by decide) (by rw [hs11]; first | done | decide | rfl) (by decide) ?_
    refine jr_iconst (v := 2) hz d_OP_itemsNamed_110 (by decide) ?_
    exact jr_iret hz hr hlk d_OP_itemsNamed_111
  refine jr_lookup (off := 113) (tgt := 114) hz d_OP_itemsNamed_1 (by decide) (by show Op.lookupswitch.offset [(109, 109), (110, 109), (116, 107), (119, 109), (120, 109), (123, 111), (124, 109), (125, 109), (135, 109), (136, 109), (172, 109), (173, 109)] 113 _ = 113; rw [lv_osw hs0 (k := 109) (by decide), lv_osw hs1 (k := 110) (by decide), lv_osw hs2 (k := 116) (by decide), lv_osw hs3 (k := 119) (by decide), lv_osw hs4 (k := 120) (by decide), lv_osw hs5 (k := 123) (by decide), lv_osw hs6 (k := 124) (by decide), lv_osw hs7 (k := 125) (by decide), lv_osw hs8 (k := 135) (by decide), lv_osw hs9 (k := 136) (by decide), lv_osw hs10 (k := 172) (by decide), lv_osw hs11 (k := 173) (by decide)]; first | done | rfl) (by decide) ?_
  refine jr_iconst (v := 1) hz d_OP_itemsNamed_114 (by decide) ?_
  exact jr_iret hz hr hlk d_OP_itemsNamed_115
theorem d_OP_isVerified_0 : decode b_OP_isVerified 0 = .ok (.iload_n 1, 1) := by decide +kernel
theorem d_OP_isVerified_1 : decode b_OP_isVerified 1 = .ok (.lookupswitch 91 #[(105, 35), (136, 47), (173, 67)], 35) := by decide +kernel
theorem d_OP_isVerified_36 : decode b_OP_isVerified 36 = .ok (.aload_n 0, 1) := by decide +kernel
theorem d_OP_isVerified_37 : decode b_OP_isVerified 37 = .ok (.getfield 9, 3) := by decide +kernel
theorem d_OP_isVerified_40 : decode b_OP_isVerified 40 = .ok (.iconst 0, 1) := by decide +kernel
theorem d_OP_isVerified_41 : decode b_OP_isVerified 41 = .ok (.invokevirtual 59, 3) := by decide +kernel
theorem d_OP_isVerified_44 : decode b_OP_isVerified 44 = .ok (.invokevirtual 150, 3) := by decide +kernel
theorem d_OP_isVerified_47 : decode b_OP_isVerified 47 = .ok (.ireturn, 1) := by decide +kernel
theorem d_OP_isVerified_48 : decode b_OP_isVerified 48 = .ok (.aload_n 0, 1) := by decide +kernel
theorem d_OP_isVerified_49 : decode b_OP_isVerified 49 = .ok (.getfield 9, 3) := by decide +kernel
theorem d_OP_isVerified_52 : decode b_OP_isVerified 52 = .ok (.iconst 0, 1) := by decide +kernel
theorem d_OP_isVerified_53 : decode b_OP_isVerified 53 = .ok (.invokevirtual 59, 3) := by decide +kernel
theorem d_OP_isVerified_56 : decode b_OP_isVerified 56 = .ok (.aload_n 0, 1) := by decide +kernel
theorem d_OP_isVerified_57 : decode b_OP_isVerified 57 = .ok (.getfield 9, 3) := by decide +kernel
theorem d_OP_isVerified_60 : decode b_OP_isVerified 60 = .ok (.iconst 1, 1) := by decide +kernel
theorem d_OP_isVerified_61 : decode b_OP_isVerified 61 = .ok (.invokevirtual 59, 3) := by decide +kernel
theorem d_OP_isVerified_64 : decode b_OP_isVerified 64 = .ok (.invokevirtual 153, 3) := by decide +kernel
theorem d_OP_isVerified_67 : decode b_OP_isVerified 67 = .ok (.ireturn, 1) := by decide +kernel
theorem d_OP_isVerified_68 : decode b_OP_isVerified 68 = .ok (.aload_n 0, 1) := by decide +kernel
theorem d_OP_isVerified_69 : decode b_OP_isVerified 69 = .ok (.getfield 18, 3) := by decide +kernel
theorem d_OP_isVerified_72 : decode b_OP_isVerified 72 = .ok (.aload_n 0, 1) := by decide +kernel
theorem d_OP_isVerified_73 : decode b_OP_isVerified 73 = .ok (.getfield 9, 3) := by decide +kernel
theorem d_OP_isVerified_76 : decode b_OP_isVerified 76 = .ok (.iconst 1, 1) := by decide +kernel
theorem d_OP_isVerified_77 : decode b_OP_isVerified 77 = .ok (.invokevirtual 59, 3) := by decide +kernel
theorem d_OP_isVerified_80 : decode b_OP_isVerified 80 = .ok (.aload_n 0, 1) := by decide +kernel
theorem d_OP_isVerified_81 : decode b_OP_isVerified 81 = .ok (.getfield 9, 3) := by decide +kernel
theorem d_OP_isVerified_84 : decode b_OP_isVerified 84 = .ok (.iconst 0, 1) := by decide +kernel
theorem d_OP_isVerified_85 : decode b_OP_isVerified 85 = .ok (.invokevirtual 59, 3) := by decide +kernel
theorem d_OP_isVerified_88 : decode b_OP_isVerified 88 = .ok (.invokevirtual 107, 3) := by decide +kernel
theorem d_OP_isVerified_91 : decode b_OP_isVerified 91 = .ok (.ireturn, 1) := by decide +kernel
theorem d_OP_isVerified_92 : decode b_OP_isVerified 92 = .ok (.iconst 1, 1) := by decide +kernel
theorem d_OP_isVerified_93 : decode b_OP_isVerified 93 = .ok (.ireturn, 1) := by decide +kernel
theorem wv_OP_150 : xh_V "SpendScript$Operations" 150 0 y_BS_isTrue b_BS_isTrue 3 (some .boolean) 0 := ⟨(sp_tb (List.mem_of_getElem? (i := 304) (by decide +kernel))), (sp_tb (List.mem_of_getElem? (i := 2) (by decide +kernel))), (sp_tb (List.mem_of_getElem? (i := 442) (by decide +kernel))), ⟨by decide +kernel, by decide +kernel, by decide +kernel⟩, (sp_tb (List.mem_of_getElem? (i := 302) (by decide +kernel))), (sp_tb (List.mem_of_getElem? (i := 303) (by decide +kernel))), F_BS, 2, rfl⟩
theorem wv_OP_153 : xh_V "SpendScript$Operations" 153 0 y_BS_sameBytesAs b_BS_sameBytesAs 3 (some .boolean) 1 := ⟨(sp_tb (List.mem_of_getElem? (i := 446) (by decide +kernel))), (sp_tb (List.mem_of_getElem? (i := 2) (by decide +kernel))), (sp_tb (List.mem_of_getElem? (i := 443) (by decide +kernel))), ⟨by decide +kernel, by decide +kernel, by decide +kernel⟩, (sp_tb (List.mem_of_getElem? (i := 444) (by decide +kernel))), (sp_tb (List.mem_of_getElem? (i := 445) (by decide +kernel))), F_BS, 2, rfl⟩
abbrev rm_OP_isVerified : Room := { frames := 2, cells := 0, slots := 0, locals := 49 }
def fx_OP_isVerified (p1 : Int32) (X : xh_T) : Option (Int32 × xh_T) :=
  if p1 = 105 then
  xh_b (fx_IS_item 10 0 X) (fun (q4 : Nat) (X1 : xh_T) =>
  xh_b (fx_BS_isTrue q4 X1) (fun (r6 : Int32) (X2 : xh_T) =>
  xh_z r6 (some (r6, X2))))
  else if p1 = 136 then
  xh_b (fx_IS_item 10 0 X) (fun (q12 : Nat) (X3 : xh_T) =>
  xh_b (fx_IS_item 10 1 X3) (fun (q16 : Nat) (X4 : xh_T) =>
  xh_b (fx_BS_sameBytesAs q12 q16 X4) (fun (r18 : Int32) (X5 : xh_T) =>
  xh_z r18 (some (r18, X5)))))
  else if p1 = 173 then
  xh_b (fx_IS_item 10 1 X) (fun (q24 : Nat) (X6 : xh_T) =>
  xh_b (fx_IS_item 10 0 X6) (fun (q28 : Nat) (X7 : xh_T) =>
  xh_b (fx_ST_isValid q24 q28 X7) (fun (r30 : Int32) (X8 : xh_T) =>
  xh_z r30 (some (r30, X8)))))
  else some (1, X)
set_option maxRecDepth 100000 in
set_option maxHeartbeats 4000000 in
theorem cx_OP_isVerified (l : Launch) (D : va_G) (G : xh_G) (hD : xh_D G) (p1 : Int32) (X : xh_T) : xh_M xh_Qi l D G y_OP_isVerified b_OP_isVerified 2 (some .boolean) rm_OP_isVerified [.ref (G.1 205), .int p1] X (fx_OP_isVerified p1 X) := by
  refine xh_enter (ls := [(0, .ref (G.1 205)), (1, .int p1)]) hD (by decide +kernel) (Nat.le_of_ble_eq_true rfl) rfl ?_
  intro p e s m args below meth c hz hr hlk
  unfold fx_OP_isVerified
  refine jr_iload_n hz d_OP_isVerified_0 rfl 1 rfl ?_
  refine jr_ite (fun hs0 => ?_) (fun hs0 => ?_)
  · refine jr_lookup (off := 35) (tgt := 36) hz d_OP_isVerified_1 (by decide) (by rw [hs0]; first | done | decide | rfl) (by decide) ?_
    refine jr_aload_n hz d_OP_isVerified_36 rfl 0 rfl ?_
    refine jr_getr (j := 0) (t := 10) hz lq_205 ly_205 rfl wf_OP_9 d_OP_isVerified_37 ?_
    refine jr_iconst (v := 0) hz d_OP_isVerified_40 (by decide) ?_
    refine jr_callVr (As := [.int 0]) (a := 10) (ci := 1) (st := []) hz (cx_IS_item l D G hz.2.2.2.2.2.2.1 10 0 X) (fun z h => sp_is_v (xh_k_t h)) wv_OP_59 ⟨rfl, rfl, Nat.le_of_ble_eq_true rfl, Nat.le_of_ble_eq_true rfl⟩ ⟨Nat.zero_le _, Nat.zero_le _⟩ rfl rfl (Nat.le_of_ble_eq_true rfl) d_OP_isVerified_41 (fun q4 X1 => ?_)
    refine jr_callVi (As := []) (a := q4) (ci := 0) (st := []) hz (cx_BS_isTrue l D G hz.2.2.2.2.2.2.1 q4 X1) (fun z h => sp_bs_v (xh_k_t h)) wv_OP_150 ⟨rfl, rfl, Nat.le_of_ble_eq_true rfl, Nat.le_of_ble_eq_true rfl⟩ ⟨Nat.zero_le _, Nat.zero_le _⟩ rfl rfl (Nat.le_of_ble_eq_true rfl) d_OP_isVerified_44 (fun r6 X2 => ?_)
    refine jr_z (fun hz01 => ?_)
    exact jr_zret hz hr hlk (xh_nar hz01) d_OP_isVerified_47
  refine jr_ite (fun hs1 => ?_) (fun hs1 => ?_)
  · refine jr_lookup (off := 47) (tgt := 48) hz d_OP_isVerified_1 (by decide) (by rw [hs1]; first | done | decide | rfl) (by decide) ?_
    refine jr_aload_n hz d_OP_isVerified_48 rfl 0 rfl ?_
    refine jr_getr (j := 0) (t := 10) hz lq_205 ly_205 rfl wf_OP_9 d_OP_isVerified_49 ?_
    refine jr_iconst (v := 0) hz d_OP_isVerified_52 (by decide) ?_
    refine jr_callVr (As := [.int 0]) (a := 10) (ci := 1) (st := []) hz (cx_IS_item l D G hz.2.2.2.2.2.2.1 10 0 X) (fun z h => sp_is_v (xh_k_t h)) wv_OP_59 ⟨rfl, rfl, Nat.le_of_ble_eq_true rfl, Nat.le_of_ble_eq_true rfl⟩ ⟨Nat.zero_le _, Nat.zero_le _⟩ rfl rfl (Nat.le_of_ble_eq_true rfl) d_OP_isVerified_53 (fun q12 X3 => ?_)
    refine jr_aload_n hz d_OP_isVerified_56 rfl 0 rfl ?_
    refine jr_getr (j := 0) (t := 10) hz lq_205 ly_205 rfl wf_OP_9 d_OP_isVerified_57 ?_
    refine jr_iconst (v := 1) hz d_OP_isVerified_60 (by decide) ?_
    refine jr_callVr (As := [.int 1]) (a := 10) (ci := 1) (st := [.ref (G.1 q12)]) hz (cx_IS_item l D G hz.2.2.2.2.2.2.1 10 1 X3) (fun z h => sp_is_v (xh_k_t h)) wv_OP_59 ⟨rfl, rfl, Nat.le_of_ble_eq_true rfl, Nat.le_of_ble_eq_true rfl⟩ ⟨Nat.zero_le _, Nat.zero_le _⟩ rfl rfl (Nat.le_of_ble_eq_true rfl) d_OP_isVerified_61 (fun q16 X4 => ?_)
    refine jr_callVi (As := [.ref (G.1 q16)]) (a := q12) (ci := 0) (st := []) hz (cx_BS_sameBytesAs l D G hz.2.2.2.2.2.2.1 q12 q16 X4) (fun z h => sp_bs_v (xh_k_t h)) wv_OP_153 ⟨rfl, rfl, Nat.le_of_ble_eq_true rfl, Nat.le_of_ble_eq_true rfl⟩ ⟨Nat.zero_le _, Nat.zero_le _⟩ rfl rfl (Nat.le_of_ble_eq_true rfl) d_OP_isVerified_64 (fun r18 X5 => ?_)
    refine jr_z (fun hz01 => ?_)
    exact jr_zret hz hr hlk (xh_nar hz01) d_OP_isVerified_67
  refine jr_ite (fun hs2 => ?_) (fun hs2 => ?_)
  · refine jr_lookup (off := 67) (tgt := 68) hz d_OP_isVerified_1 (by decide) (by rw [hs2]; first | done | decide | rfl) (by decide) ?_
    refine jr_aload_n hz d_OP_isVerified_68 rfl 0 rfl ?_
    refine jr_getr (j := 2) (t := 7) hz lq_205 ly_205 rfl wf_OP_18 d_OP_isVerified_69 ?_
    refine jr_aload_n hz d_OP_isVerified_72 rfl 0 rfl ?_
    refine jr_getr (j := 0) (t := 10) hz lq_205 ly_205 rfl wf_OP_9 d_OP_isVerified_73 ?_
    refine jr_iconst (v := 1) hz d_OP_isVerified_76 (by decide) ?_
    refine jr_callVr (As := [.int 1]) (a := 10) (ci := 1) (st := [.ref (G.1 7)]) hz (cx_IS_item l D G hz.2.2.2.2.2.2.1 10 1 X) (fun z h => sp_is_v (xh_k_t h)) wv_OP_59 ⟨rfl, rfl, Nat.le_of_ble_eq_true rfl, Nat.le_of_ble_eq_true rfl⟩ ⟨Nat.zero_le _, Nat.zero_le _⟩ rfl rfl (Nat.le_of_ble_eq_true rfl) d_OP_isVerified_77 (fun q24 X6 => ?_)
    refine jr_aload_n hz d_OP_isVerified_80 rfl 0 rfl ?_
    refine jr_getr (j := 0) (t := 10) hz lq_205 ly_205 rfl wf_OP_9 d_OP_isVerified_81 ?_
    refine jr_iconst (v := 0) hz d_OP_isVerified_84 (by decide) ?_
    refine jr_callVr (As := [.int 0]) (a := 10) (ci := 1) (st := [.ref (G.1 q24), .ref (G.1 7)]) hz (cx_IS_item l D G hz.2.2.2.2.2.2.1 10 0 X6) (fun z h => sp_is_v (xh_k_t h)) wv_OP_59 ⟨rfl, rfl, Nat.le_of_ble_eq_true rfl, Nat.le_of_ble_eq_true rfl⟩ ⟨Nat.zero_le _, Nat.zero_le _⟩ rfl rfl (Nat.le_of_ble_eq_true rfl) d_OP_isVerified_85 (fun q28 X7 => ?_)
    refine jr_callVi (As := [.ref (G.1 q24), .ref (G.1 q28)]) (a := 7) (ci := 2) (st := []) hz (cx_ST_isValid l D G hz.2.2.2.2.2.2.1 q24 q28 X7) (fun _ _ => ⟨lq_7, _, ly_7⟩) wv_OP_107 ⟨rfl, rfl, Nat.le_of_ble_eq_true rfl, Nat.le_of_ble_eq_true rfl⟩ ⟨Nat.zero_le _, Nat.zero_le _⟩ rfl rfl (Nat.le_of_ble_eq_true rfl) d_OP_isVerified_88 (fun r30 X8 => ?_)
    refine jr_z (fun hz01 => ?_)
    exact jr_zret hz hr hlk (xh_nar hz01) d_OP_isVerified_91
  refine jr_lookup (off := 91) (tgt := 92) hz d_OP_isVerified_1 (by decide) (by show Op.lookupswitch.offset [(105, 35), (136, 47), (173, 67)] 91 _ = 91; rw [lv_osw hs0 (k := 105) (by decide), lv_osw hs1 (k := 136) (by decide), lv_osw hs2 (k := 173) (by decide)]; first | done | rfl) (by decide) ?_
  refine jr_iconst (v := 1) hz d_OP_isVerified_92 (by decide) ?_
  exact jr_zret hz hr hlk (by decide) d_OP_isVerified_93
theorem d_OP_itemsMore_0 : decode b_OP_itemsMore 0 = .ok (.iload_n 1, 1) := by decide +kernel
theorem d_OP_itemsMore_1 : decode b_OP_itemsMore 1 = .ok (.tableswitch 118 110 130 #[99, 118, 118, 118, 118, 101, 116, 118, 116, 118, 116, 118, 118, 118, 118, 116, 118, 118, 118, 118, 116], 99) := by decide +kernel
theorem d_OP_itemsMore_100 : decode b_OP_itemsMore 100 = .ok (.iconst 2, 1) := by decide +kernel
theorem d_OP_itemsMore_101 : decode b_OP_itemsMore 101 = .ok (.ireturn, 1) := by decide +kernel
theorem d_OP_itemsMore_102 : decode b_OP_itemsMore 102 = .ok (.aload_n 0, 1) := by decide +kernel
theorem d_OP_itemsMore_103 : decode b_OP_itemsMore 103 = .ok (.getfield 9, 3) := by decide +kernel
theorem d_OP_itemsMore_106 : decode b_OP_itemsMore 106 = .ok (.iconst 0, 1) := by decide +kernel
theorem d_OP_itemsMore_107 : decode b_OP_itemsMore 107 = .ok (.invokevirtual 59, 3) := by decide +kernel
theorem d_OP_itemsMore_110 : decode b_OP_itemsMore 110 = .ok (.invokevirtual 150, 3) := by decide +kernel
theorem d_OP_itemsMore_113 : decode b_OP_itemsMore 113 = .ok (.invokestatic 121, 3) := by decide +kernel
theorem d_OP_itemsMore_116 : decode b_OP_itemsMore 116 = .ok (.ireturn, 1) := by decide +kernel
theorem d_OP_itemsMore_117 : decode b_OP_itemsMore 117 = .ok (.iconst 1, 1) := by decide +kernel
theorem d_OP_itemsMore_118 : decode b_OP_itemsMore 118 = .ok (.ireturn, 1) := by decide +kernel
theorem d_OP_itemsMore_119 : decode b_OP_itemsMore 119 = .ok (.iconst 0, 1) := by decide +kernel
theorem d_OP_itemsMore_120 : decode b_OP_itemsMore 120 = .ok (.ireturn, 1) := by decide +kernel
abbrev rm_OP_itemsMore : Room := { frames := 1, cells := 0, slots := 0, locals := 22 }
def fx_OP_itemsMore (p1 : Int32) (X : xh_T) : Option (Int32 × xh_T) :=
  if p1 = 110 then
  some (2, X)
  else if p1 = 111 then
  some (0, X)
  else if p1 = 112 then
  some (0, X)
  else if p1 = 113 then
  some (0, X)
  else if p1 = 114 then
  some (0, X)
  else if p1 = 115 then
  xh_b (fx_IS_item 10 0 X) (fun (q4 : Nat) (X1 : xh_T) =>
  xh_b (fx_BS_isTrue q4 X1) (fun (r6 : Int32) (X2 : xh_T) =>
  xh_b (fx_OP_oneIf r6 X2) (fun (r9 : Int32) (X3 : xh_T) =>
  some (r9, X3))))
  else if p1 = 116 then
  some (1, X)
  else if p1 = 117 then
  some (0, X)
  else if p1 = 118 then
  some (1, X)
  else if p1 = 119 then
  some (0, X)
  else if p1 = 120 then
  some (1, X)
  else if p1 = 121 then
  some (0, X)
  else if p1 = 122 then
  some (0, X)
  else if p1 = 123 then
  some (0, X)
  else if p1 = 124 then
  some (0, X)
  else if p1 = 125 then
  some (1, X)
  else if p1 = 126 then
  some (0, X)
  else if p1 = 127 then
  some (0, X)
  else if p1 = 128 then
  some (0, X)
  else if p1 = 129 then
  some (0, X)
  else if p1 = 130 then
  some (1, X)
  else some (0, X)
set_option maxRecDepth 100000 in
set_option maxHeartbeats 4000000 in
theorem cx_OP_itemsMore (l : Launch) (D : va_G) (G : xh_G) (hD : xh_D G) (p1 : Int32) (X : xh_T) : xh_M xh_Qi l D G y_OP_itemsMore b_OP_itemsMore 2 (some .int) rm_OP_itemsMore [.ref (G.1 205), .int p1] X (fx_OP_itemsMore p1 X) := by
  refine xh_enter (ls := [(0, .ref (G.1 205)), (1, .int p1)]) hD (by decide +kernel) (Nat.le_of_ble_eq_true rfl) rfl ?_
  intro p e s m args below meth c hz hr hlk
  unfold fx_OP_itemsMore
  refine jr_iload_n hz d_OP_itemsMore_0 rfl 1 rfl ?_
  refine jr_ite (fun hs0 => ?_) (fun hs0 => ?_)
  · refine jr_tableIn (off := 99) (tgt := 100) hz d_OP_itemsMore_1 (by rw [hs0]; decide) (by rw [hs0]; decide) (by rw [hs0]; first | done | decide | rfl) (by decide) ?_
    refine jr_iconst (v := 2) hz d_OP_itemsMore_100 (by decide) ?_
    exact jr_iret hz hr hlk d_OP_itemsMore_101
  refine jr_ite (fun hs1 => ?_) (fun hs1 => ?_)
  · refine jr_tableIn (off := 118) (tgt := 119) hz d_OP_itemsMore_1 (by rw [hs1]; decide) (by rw [hs1]; decide) (by rw [hs1]; first | done | decide | rfl) (by decide) ?_
    refine jr_iconst (v := 0) hz d_OP_itemsMore_119 (by decide) ?_
    exact jr_iret hz hr hlk d_OP_itemsMore_120
  refine jr_ite (fun hs2 => ?_) (fun hs2 => ?_)
  · refine jr_tableIn (off := 118) (tgt := 119) hz d_OP_itemsMore_1 (by rw [hs2]; decide) (by rw [hs2]; decide) (by rw [hs2]; first | done | decide | rfl) (by decide) ?_
    refine jr_iconst (v := 0) hz d_OP_itemsMore_119 (by decide) ?_
    exact jr_iret hz hr hlk d_OP_itemsMore_120
  refine jr_ite (fun hs3 => ?_) (fun hs3 => ?_)
  · refine jr_tableIn (off := 118) (tgt := 119) hz d_OP_itemsMore_1 (by rw [hs3]; decide) (by rw [hs3]; decide) (by rw [hs3]; first | done | decide | rfl) (by decide) ?_
    refine jr_iconst (v := 0) hz d_OP_itemsMore_119 (by decide) ?_
    exact jr_iret hz hr hlk d_OP_itemsMore_120
  refine jr_ite (fun hs4 => ?_) (fun hs4 => ?_)
  · refine jr_tableIn (off := 118) (tgt := 119) hz d_OP_itemsMore_1 (by rw [hs4]; decide) (by rw [hs4]; decide) (by rw [hs4]; first | done | decide | rfl) (by decide) ?_
    refine jr_iconst (v := 0) hz d_OP_itemsMore_119 (by decide) ?_
    exact jr_iret hz hr hlk d_OP_itemsMore_120
  refine jr_ite (fun hs5 => ?_) (fun hs5 => ?_)
  · refine jr_tableIn (off := 101) (tgt := 102) hz d_OP_itemsMore_1 (by rw [hs5]; decide) (by rw [hs5]; decide) (by rw [hs5]; first | done | decide | rfl) (by decide) ?_
    refine jr_aload_n hz d_OP_itemsMore_102 rfl 0 rfl ?_
    refine jr_getr (j := 0) (t := 10) hz lq_205 ly_205 rfl wf_OP_9 d_OP_itemsMore_103 ?_
    refine jr_iconst (v := 0) hz d_OP_itemsMore_106 (by decide) ?_
    refine jr_callVr (As := [.int 0]) (a := 10) (ci := 1) (st := []) hz (cx_IS_item l D G hz.2.2.2.2.2.2.1 10 0 X) (fun z h => sp_is_v (xh_k_t h)) wv_OP_59 ⟨rfl, rfl, Nat.le_of_ble_eq_true rfl, Nat.le_of_ble_eq_true rfl⟩ ⟨Nat.zero_le _, Nat.zero_le _⟩ rfl rfl (Nat.le_of_ble_eq_true rfl) d_OP_itemsMore_107 (fun q4 X1 => ?_)
    refine jr_callVi (As := []) (a := q4) (ci := 0) (st := []) hz (cx_BS_isTrue l D G hz.2.2.2.2.2.2.1 q4 X1) (fun z h => sp_bs_v (xh_k_t h)) wv_OP_150 ⟨rfl, rfl, Nat.le_of_ble_eq_true rfl, Nat.le_of_ble_eq_true rfl⟩ ⟨Nat.zero_le _, Nat.zero_le _⟩ rfl rfl (Nat.le_of_ble_eq_true rfl) d_OP_itemsMore_110 (fun r6 X2 => ?_)
    refine jr_callSi (As := [.int r6]) (st := []) hz (cx_OP_oneIf l D G hz.2.2.2.2.2.2.1 r6 X2) ws_OP_121 ⟨rfl, rfl, Nat.le_of_ble_eq_true rfl, Nat.le_of_ble_eq_true rfl⟩ ⟨Nat.zero_le _, Nat.zero_le _⟩ rfl rfl (Nat.le_of_ble_eq_true rfl) d_OP_itemsMore_113 (fun r9 X3 => ?_)
    exact jr_iret hz hr hlk d_OP_itemsMore_116
  refine jr_ite (fun hs6 => ?_) (fun hs6 => ?_)
  · refine jr_tableIn (off := 116) (tgt := 117) hz d_OP_itemsMore_1 (by rw [hs6]; decide) (by rw [hs6]; decide) (by rw [hs6]; first | done | decide | rfl) (by decide) ?_
    refine jr_iconst (v := 1) hz d_OP_itemsMore_117 (by decide) ?_
    exact jr_iret hz hr hlk d_OP_itemsMore_118
  refine jr_ite (fun hs7 => ?_) (fun hs7 => ?_)
  · refine jr_tableIn (off := 118) (tgt := 119) hz d_OP_itemsMore_1 (by rw [hs7]; decide) (by rw [hs7]; decide) (by rw [hs7]; first | done | decide | rfl) (by decide) ?_
    refine jr_iconst (v := 0) hz d_OP_itemsMore_119 (by decide) ?_
    exact jr_iret hz hr hlk d_OP_itemsMore_120
  refine jr_ite (fun hs8 => ?_) (fun hs8 => ?_)
  · refine jr_tableIn (off := 116) (tgt := 117) hz d_OP_itemsMore_1 (by rw [hs8]; decide) (by rw [hs8]; decide) (by rw [hs8]; first | done | decide | rfl) (by decide) ?_
    refine jr_iconst (v := 1) hz d_OP_itemsMore_117 (by decide) ?_
    exact jr_iret hz hr hlk d_OP_itemsMore_118
  refine jr_ite (fun hs9 => ?_) (fun hs9 => ?_)
  · refine jr_tableIn (off := 118) (tgt := 119) hz d_OP_itemsMore_1 (by rw [hs9]; decide) (by rw [hs9]; decide) (by rw [hs9]; first | done | decide | rfl) (by decide) ?_
    refine jr_iconst (v := 0) hz d_OP_itemsMore_119 (by decide) ?_
    exact jr_iret hz hr hlk d_OP_itemsMore_120
  refine jr_ite (fun hs10 => ?_) (fun hs10 => ?_)
  · refine jr_tableIn (off := 116) (tgt := 117) hz d_OP_itemsMore_1 (by rw [hs10]; decide) (by rw [hs10]; decide) (by rw [hs10]; first | done | decide | rfl) (by decide) ?_
    refine jr_iconst (v := 1) hz d_OP_itemsMore_117 (by decide) ?_
    exact jr_iret hz hr hlk d_OP_itemsMore_118
  refine jr_ite (fun hs11 => ?_) (fun hs11 => ?_)
  · refine jr_tableIn (off := 118) (tgt := 119) hz d_OP_itemsMore_1 (by rw [hs11]; decide) (by rw [hs11]; decide) (by rw [hs11]; first | done | decide | rfl) (by decide) ?_
    refine jr_iconst (v := 0) hz d_OP_itemsMore_119 (by decide) ?_
    exact jr_iret hz hr hlk d_OP_itemsMore_120
  refine jr_ite (fun hs12 => ?_) (fun hs12 => ?_)
  · refine jr_tableIn (off := 118) (tgt := 119) hz d_OP_itemsMore_1 (by rw [hs12]; decide) (by rw [hs12]; decide) (by rw [hs12]; first | done | decide | rfl) (by decide) ?_
    refine jr_iconst (v := 0) hz d_OP_itemsMore_119 (by decide) ?_
    exact jr_iret hz hr hlk d_OP_itemsMore_120
  refine jr_ite (fun hs13 => ?_) (fun hs13 => ?_)
  · refine jr_tableIn (off := 118) (tgt := 119) hz d_OP_itemsMore_1 (by rw [hs13]; decide) (by rw [hs13]; decide) (by rw [hs13]; first | done | decide | rfl) (by decide) ?_
    refine jr_iconst (v := 0) hz d_OP_itemsMore_119 (by decide) ?_
    exact jr_iret hz hr hlk d_OP_itemsMore_120
  refine jr_ite (fun hs14 => ?_) (fun hs14 => ?_)
  · refine jr_tableIn (off := 118) (tgt := 119) hz d_OP_itemsMore_1 (by rw [hs14]; decide) (by rw [hs14]; decide) (by rw [hs14]; first | done | decide | rfl) (by decide) ?_
    refine jr_iconst (v := 0) hz d_OP_itemsMore_119 (by decide) ?_
    exact jr_iret hz hr hlk d_OP_itemsMore_120
  refine jr_ite (fun hs15 => ?_) (fun hs15 => ?_)
  · refine jr_tableIn (off := 116) (tgt := 117) hz d_OP_itemsMore_1 (by rw [hs15]; decide) (by rw [hs15]; decide) (by rw [hs15]; first | done | decide | rfl) (by decide) ?_
    refine jr_iconst (v := 1) hz d_OP_itemsMore_117 (by decide) ?_
    exact jr_iret hz hr hlk d_OP_itemsMore_118
  refine jr_ite (fun hs16 => ?_) (fun hs16 => ?_)
  · refine jr_tableIn (off := 118) (tgt := 119) hz d_OP_itemsMore_1 (by rw [hs16]; decide) (by rw [hs16]; decide) (by rw [hs16]; first | done | decide | rfl) (by decide) ?_
    refine jr_iconst (v := 0) hz d_OP_itemsMore_119 (by decide) ?_
    exact jr_iret hz hr hlk d_OP_itemsMore_120
  refine jr_ite (fun hs17 => ?_) (fun hs17 => ?_)
  · refine jr_tableIn (off := 118) (tgt := 119) hz d_OP_itemsMore_1 (by rw [hs17]; decide) (by rw [hs17]; decide) (by rw [hs17]; first | done | decide | rfl) (by decide) ?_
    refine jr_iconst (v := 0) hz d_OP_itemsMore_119 (by decide) ?_
    exact jr_iret hz hr hlk d_OP_itemsMore_120
  refine jr_ite (fun hs18 => ?_) (fun hs18 => ?_)
  · refine jr_tableIn (off := 118) (tgt := 119) hz d_OP_itemsMore_1 (by rw [hs18]; decide) (by rw [hs18]; decide) (by rw [hs18]; first | done | decide | rfl) (by decide) ?_
    refine jr_iconst (v := 0) hz d_OP_itemsMore_119 (by decide) ?_
    exact jr_iret hz hr hlk d_OP_itemsMore_120
  refine jr_ite (fun hs19 => ?_) (fun hs19 => ?_)
  · refine jr_tableIn (off := 118) (tgt := 119) hz d_OP_itemsMore_1 (by rw [hs19]; decide) (by rw [hs19]; decide) (by rw [hs19]; first | done | decide | rfl) (by decide) ?_
    refine jr_iconst (v := 0) hz d_OP_itemsMore_119 (by decide) ?_
    exact jr_iret hz hr hlk d_OP_itemsMore_120
  refine jr_ite (fun hs20 => ?_) (fun hs20 => ?_)
  · refine jr_tableIn (off := 116) (tgt := 117) hz d_OP_itemsMore_1 (by rw [hs20]; decide) (by rw [hs20]; decide) (by rw [hs20]; first | done | decide | rfl) (by decide) ?_
    refine jr_iconst (v := 1) hz d_OP_itemsMore_117 (by decide) ?_
    exact jr_iret hz hr hlk d_OP_itemsMore_118
  refine jr_tableOut (tgt := 119) hz d_OP_itemsMore_1 (by have := lv_neT (k := 110) hs0 (show _ = (110 : Int) by decide); have := lv_neT (k := 111) hs1 (show _ = (111 : Int) by decide); have := lv_neT (k := 112) hs2 (show _ = (112 : Int) by decide); have := lv_neT (k := 113) hs3 (show _ = (113 : Int) by decide); have := lv_neT (k := 114) hs4 (show _ = (114 : Int) by decide); have := lv_neT (k := 115) hs5 (show _ = (115 : Int) by decide); have := lv_neT (k := 116) hs6 (show _ = (116 : Int) by decide); have := lv_neT (k := 117) hs7 (show _ = (117 : Int) by decide); have := lv_neT (k := 118) hs8 (show _ = (118 : Int) by decide); have := lv_neT (k := 119) hs9 (show _ = (119 : Int) by decide); have := lv_neT (k := 120) hs10 (show _ = (120 : Int) by decide); have := lv_neT (k := 121) hs11 (show _ = (121 : Int) by decide); have := lv_neT (k := 122) hs12 (show _ = (122 : Int) by decide); have := lv_neT (k := 123) hs13 (show _ = (123 : Int) by decide); have := lv_neT (k := 124) hs14 (show _ = (124 : Int) by decide); have := lv_neT (k := 125) hs15 (show _ = (125 : Int) by decide); have := lv_neT (k := 126) hs16 (show _ = (126 : Int) by decide); have := lv_neT (k := 127) hs17 (show _ = (127 : Int) by decide); have := lv_neT (k := 128) hs18 (show _ = (128 : Int) by decide); have := lv_neT (k := 129) hs19 (show _ = (129 : Int) by decide); have := lv_neT (k := 130) hs20 (show _ = (130 : Int) by decide); omega) (by decide) ?_
  refine jr_iconst (v := 0) hz d_OP_itemsMore_119 (by decide) ?_
  exact jr_iret hz hr hlk d_OP_itemsMore_120
theorem d_OP_itemsFault_0 : decode b_OP_itemsFault 0 = .ok (.aload_n 0, 1) := by decide +kernel
theorem d_OP_itemsFault_1 : decode b_OP_itemsFault 1 = .ok (.getfield 9, 3) := by decide +kernel
theorem d_OP_itemsFault_4 : decode b_OP_itemsFault 4 = .ok (.invokevirtual 83, 3) := by decide +kernel
theorem d_OP_itemsFault_7 : decode b_OP_itemsFault 7 = .ok (.iload_n 1, 1) := by decide +kernel
theorem d_OP_itemsFault_8 : decode b_OP_itemsFault 8 = .ok (.invokestatic 141, 3) := by decide +kernel
theorem d_OP_itemsFault_11 : decode b_OP_itemsFault 11 = .ok (.if_icmp .ge 6, 3) := by decide +kernel
theorem d_OP_itemsFault_14 : decode b_OP_itemsFault 14 = .ok (.bipush 11, 2) := by decide +kernel
theorem d_OP_itemsFault_16 : decode b_OP_itemsFault 16 = .ok (.ireturn, 1) := by decide +kernel
theorem d_OP_itemsFault_17 : decode b_OP_itemsFault 17 = .ok (.aload_n 0, 1) := by decide +kernel
theorem d_OP_itemsFault_18 : decode b_OP_itemsFault 18 = .ok (.iload_n 1, 1) := by decide +kernel
theorem d_OP_itemsFault_19 : decode b_OP_itemsFault 19 = .ok (.invokevirtual 144, 3) := by decide +kernel
theorem d_OP_itemsFault_22 : decode b_OP_itemsFault 22 = .ok (.ifCond .ne 6, 3) := by decide +kernel
theorem d_OP_itemsFault_25 : decode b_OP_itemsFault 25 = .ok (.bipush 9, 2) := by decide +kernel
theorem d_OP_itemsFault_27 : decode b_OP_itemsFault 27 = .ok (.ireturn, 1) := by decide +kernel
theorem d_OP_itemsFault_28 : decode b_OP_itemsFault 28 = .ok (.aload_n 0, 1) := by decide +kernel
theorem d_OP_itemsFault_29 : decode b_OP_itemsFault 29 = .ok (.getfield 9, 3) := by decide +kernel
theorem d_OP_itemsFault_32 : decode b_OP_itemsFault 32 = .ok (.invokevirtual 83, 3) := by decide +kernel
theorem d_OP_itemsFault_35 : decode b_OP_itemsFault 35 = .ok (.aload_n 0, 1) := by decide +kernel
theorem d_OP_itemsFault_36 : decode b_OP_itemsFault 36 = .ok (.getfield 15, 3) := by decide +kernel
theorem d_OP_itemsFault_39 : decode b_OP_itemsFault 39 = .ok (.invokevirtual 83, 3) := by decide +kernel
theorem d_OP_itemsFault_42 : decode b_OP_itemsFault 42 = .ok (.iadd, 1) := by decide +kernel
theorem d_OP_itemsFault_43 : decode b_OP_itemsFault 43 = .ok (.aload_n 0, 1) := by decide +kernel
theorem d_OP_itemsFault_44 : decode b_OP_itemsFault 44 = .ok (.iload_n 1, 1) := by decide +kernel
theorem d_OP_itemsFault_45 : decode b_OP_itemsFault 45 = .ok (.invokevirtual 147, 3) := by decide +kernel
theorem d_OP_itemsFault_48 : decode b_OP_itemsFault 48 = .ok (.iadd, 1) := by decide +kernel
theorem d_OP_itemsFault_49 : decode b_OP_itemsFault 49 = .ok (.bipush 30, 2) := by decide +kernel
theorem d_OP_itemsFault_51 : decode b_OP_itemsFault 51 = .ok (.if_icmp .gt 7, 3) := by decide +kernel
theorem d_OP_itemsFault_54 : decode b_OP_itemsFault 54 = .ok (.iconst 1, 1) := by decide +kernel
theorem d_OP_itemsFault_55 : decode b_OP_itemsFault 55 = .ok (.goto 4, 3) := by decide +kernel
theorem d_OP_itemsFault_58 : decode b_OP_itemsFault 58 = .ok (.iconst 0, 1) := by decide +kernel
theorem d_OP_itemsFault_59 : decode b_OP_itemsFault 59 = .ok (.istore_n 2, 1) := by decide +kernel
theorem d_OP_itemsFault_60 : decode b_OP_itemsFault 60 = .ok (.iload_n 2, 1) := by decide +kernel
theorem d_OP_itemsFault_61 : decode b_OP_itemsFault 61 = .ok (.ifCond .eq 7, 3) := by decide +kernel
theorem d_OP_itemsFault_64 : decode b_OP_itemsFault 64 = .ok (.iconst 0, 1) := by decide +kernel
theorem d_OP_itemsFault_65 : decode b_OP_itemsFault 65 = .ok (.goto 5, 3) := by decide +kernel
theorem d_OP_itemsFault_68 : decode b_OP_itemsFault 68 = .ok (.bipush 14, 2) := by decide +kernel
theorem d_OP_itemsFault_70 : decode b_OP_itemsFault 70 = .ok (.ireturn, 1) := by decide +kernel
theorem ws_OP_141 : xh_S "SpendScript$Operations" 141 y_OP_itemsNamed b_OP_itemsNamed 1 (some .int) 1 := ⟨(sp_tb (List.mem_of_getElem? (i := 437) (by decide +kernel))), (sp_tb (List.mem_of_getElem? (i := 7) (by decide +kernel))), (sp_tb (List.mem_of_getElem? (i := 435) (by decide +kernel))), ⟨by decide +kernel, by decide +kernel, by decide +kernel⟩, (sp_tb (List.mem_of_getElem? (i := 436) (by decide +kernel)))⟩
theorem wv_OP_144 : xh_V "SpendScript$Operations" 144 5 y_OP_isVerified b_OP_isVerified 2 (some .boolean) 1 := ⟨(sp_tb (List.mem_of_getElem? (i := 441) (by decide +kernel))), (sp_tb (List.mem_of_getElem? (i := 7) (by decide +kernel))), (sp_tb (List.mem_of_getElem? (i := 438) (by decide +kernel))), ⟨by decide +kernel, by decide +kernel, by decide +kernel⟩, (sp_tb (List.mem_of_getElem? (i := 440) (by decide +kernel))), (sp_pv (q := (y_OP_isVerified, 3)) (List.mem_of_getElem? (i := 16) (by decide +kernel))), F_OP, 3, rfl⟩
theorem wv_OP_147 : xh_V "SpendScript$Operations" 147 5 y_OP_itemsMore b_OP_itemsMore 2 (some .int) 1 := ⟨(sp_tb (List.mem_of_getElem? (i := 450) (by decide +kernel))), (sp_tb (List.mem_of_getElem? (i := 7) (by decide +kernel))), (sp_tb (List.mem_of_getElem? (i := 447) (by decide +kernel))), ⟨by decide +kernel, by decide +kernel, by decide +kernel⟩, (sp_tb (List.mem_of_getElem? (i := 449) (by decide +kernel))), (sp_pv (q := (y_OP_itemsMore, 3)) (List.mem_of_getElem? (i := 17) (by decide +kernel))), F_OP, 3, rfl⟩
abbrev rm_OP_itemsFault : Room := { frames := 3, cells := 0, slots := 0, locals := 70 }
def fx_OP_itemsFault_b59 (s0 : Int32) (X : xh_T) : Option (Int32 × xh_T) :=
  xh_n s0 (fun v25 : Int32 =>
  if v25 = 0 then
  some (14, X)
  else some (0, X))
set_option maxRecDepth 100000 in
set_option maxHeartbeats 4000000 in
theorem jb_OP_itemsFault_b59 {p : Program} {l : Launch} {e : Env} {s : State} {m : MethodId} {args : Array Value} {below : List Frame} {meth : Method} {c : Code} {D : va_G} {G : xh_G} (hz : xh_C p s m args c b_OP_itemsFault 3 "SpendScript$Operations" D G (xh_A G s.heap.size)) (hr : meth.sig.returnType = (some .int)) (hlk : meth.locks = false) (s0 : Int32) (X : xh_T) : xh_J p l e rm_OP_itemsFault s m args below meth c 0 0 D G (xh_A G s.heap.size) 3 (fun r X' => MQ below (xh_Qi D G (xh_A G s.heap.size) r X') args s 0 0 (xh_A G s.heap.size)) 59 [] [.int s0] X (fx_OP_itemsFault_b59 s0 X) := by
  unfold fx_OP_itemsFault_b59
  refine jr_istore_n (lf := []) hz d_OP_itemsFault_59 rfl (by decide) rfl (fun v25 => ?_)
  refine jr_iload_n hz d_OP_itemsFault_60 rfl 0 rfl ?_
  refine jr_if_eq (tgt := 68) hz d_OP_itemsFault_61 (by decide) ?_ ?_
  · refine jr_bipush (v := 14) hz d_OP_itemsFault_68 (by decide) ?_
    exact jr_iret hz hr hlk d_OP_itemsFault_70
  · refine jr_iconst (v := 0) hz d_OP_itemsFault_64 (by decide) ?_
    refine jr_goto (tgt := 70) hz d_OP_itemsFault_65 (by decide) ?_
    exact jr_iret hz hr hlk d_OP_itemsFault_70
def fx_OP_itemsFault (p1 : Int32) (X : xh_T) : Option (Int32 × xh_T) :=
  xh_b (fx_IS_size 10 X) (fun (r1 : Int32) (X1 : xh_T) =>
  xh_b (fx_OP_itemsNamed p1 X1) (fun (r5 : Int32) (X2 : xh_T) =>
  if r5 ≤ r1 then
  xh_b (fx_OP_isVerified p1 X2) (fun (r10 : Int32) (X3 : xh_T) =>
  if r10 = 0 then
  some (9, X3)
  else xh_b (fx_IS_size 10 X3) (fun (r13 : Int32) (X4 : xh_T) =>
  xh_b (fx_IS_size 139 X4) (fun (r17 : Int32) (X5 : xh_T) =>
  xh_b (fx_OP_itemsMore p1 X5) (fun (r21 : Int32) (X6 : xh_T) =>
  if 30 < ((r13 + r17) + r21) then
  fx_OP_itemsFault_b59 0 X6
  else fx_OP_itemsFault_b59 1 X6))))
  else some (11, X2)))
set_option maxRecDepth 100000 in
set_option maxHeartbeats 4000000 in
theorem cx_OP_itemsFault (l : Launch) (D : va_G) (G : xh_G) (hD : xh_D G) (p1 : Int32) (X : xh_T) : xh_M xh_Qi l D G y_OP_itemsFault b_OP_itemsFault 3 (some .int) rm_OP_itemsFault [.ref (G.1 205), .int p1] X (fx_OP_itemsFault p1 X) := by
  refine xh_enter (ls := [(0, .ref (G.1 205)), (1, .int p1)]) hD (by decide +kernel) (Nat.le_of_ble_eq_true rfl) rfl ?_
  intro p e s m args below meth c hz hr hlk
  unfold fx_OP_itemsFault
  refine jr_aload_n hz d_OP_itemsFault_0 rfl 0 rfl ?_
  refine jr_getr (j := 0) (t := 10) hz lq_205 ly_205 rfl wf_OP_9 d_OP_itemsFault_1 ?_
  refine jr_callVi (As := []) (a := 10) (ci := 1) (st := []) hz (cx_IS_size l D G hz.2.2.2.2.2.2.1 10 X) (fun z h => sp_is_v (xh_k_t h)) wv_OP_83 ⟨rfl, rfl, Nat.le_of_ble_eq_true rfl, Nat.le_of_ble_eq_true rfl⟩ ⟨Nat.zero_le _, Nat.zero_le _⟩ rfl rfl (Nat.le_of_ble_eq_true rfl) d_OP_itemsFault_4 (fun r1 X1 => ?_)
  refine jr_iload_n hz d_OP_itemsFault_7 rfl 1 rfl ?_
  refine jr_callSi (As := [.int p1]) (st := [.int r1]) hz (cx_OP_itemsNamed l D G hz.2.2.2.2.2.2.1 p1 X1) ws_OP_141 ⟨rfl, rfl, Nat.le_of_ble_eq_true rfl, Nat.le_of_ble_eq_true rfl⟩ ⟨Nat.zero_le _, Nat.zero_le _⟩ rfl rfl (Nat.le_of_ble_eq_true rfl) d_OP_itemsFault_8 (fun r5 X2 => ?_)
  refine jr_icmp_ge (tgt := 17) hz d_OP_itemsFault_11 (by decide) ?_ ?_
  · refine jr_aload_n hz d_OP_itemsFault_17 rfl 0 rfl ?_
    refine jr_iload_n hz d_OP_itemsFault_18 rfl 1 rfl ?_
    refine jr_callVi (As := [.int p1]) (a := 205) (ci := 5) (st := []) hz (cx_OP_isVerified l D G hz.2.2.2.2.2.2.1 p1 X2) (fun _ _ => ⟨lq_205, _, ly_205⟩) wv_OP_144 ⟨rfl, rfl, Nat.le_of_ble_eq_true rfl, Nat.le_of_ble_eq_true rfl⟩ ⟨Nat.zero_le _, Nat.zero_le _⟩ rfl rfl (Nat.le_of_ble_eq_true rfl) d_OP_itemsFault_19 (fun r10 X3 => ?_)
    refine jr_if_ne (tgt := 28) hz d_OP_itemsFault_22 (by decide) ?_ ?_
    · refine jr_aload_n hz d_OP_itemsFault_28 rfl 0 rfl ?_
      refine jr_getr (j := 0) (t := 10) hz lq_205 ly_205 rfl wf_OP_9 d_OP_itemsFault_29 ?_
      refine jr_callVi (As := []) (a := 10) (ci := 1) (st := []) hz (cx_IS_size l D G hz.2.2.2.2.2.2.1 10 X3) (fun z h => sp_is_v (xh_k_t h)) wv_OP_83 ⟨rfl, rfl, Nat.le_of_ble_eq_true rfl, Nat.le_of_ble_eq_true rfl⟩ ⟨Nat.zero_le _, Nat.zero_le _⟩ rfl rfl (Nat.le_of_ble_eq_true rfl) d_OP_itemsFault_32 (fun r13 X4 => ?_)
      refine jr_aload_n hz d_OP_itemsFault_35 rfl 0 rfl ?_
      refine jr_getr (j := 1) (t := 139) hz lq_205 ly_205 rfl wf_OP_15 d_OP_itemsFault_36 ?_
      refine jr_callVi (As := []) (a := 139) (ci := 1) (st := [.int r13]) hz (cx_IS_size l D G hz.2.2.2.2.2.2.1 139 X4) (fun z h => sp_is_v (xh_k_t h)) wv_OP_83 ⟨rfl, rfl, Nat.le_of_ble_eq_true rfl, Nat.le_of_ble_eq_true rfl⟩ ⟨Nat.zero_le _, Nat.zero_le _⟩ rfl rfl (Nat.le_of_ble_eq_true rfl) d_OP_itemsFault_39 (fun r17 X5 => ?_)
      refine jr_iadd hz d_OP_itemsFault_42 ?_
      refine jr_aload_n hz d_OP_itemsFault_43 rfl 0 rfl ?_
      refine jr_iload_n hz d_OP_itemsFault_44 rfl 1 rfl ?_
      refine jr_callVi (As := [.int p1]) (a := 205) (ci := 5) (st := [.int (r13 + r17)]) hz (cx_OP_itemsMore l D G hz.2.2.2.2.2.2.1 p1 X5) (fun _ _ => ⟨lq_205, _, ly_205⟩) wv_OP_147 ⟨rfl, rfl, Nat.le_of_ble_eq_true rfl, Nat.le_of_ble_eq_true rfl⟩ ⟨Nat.zero_le _, Nat.zero_le _⟩ rfl rfl (Nat.le_of_ble_eq_true rfl) d_OP_itemsFault_45 (fun r21 X6 => ?_)
      refine jr_iadd hz d_OP_itemsFault_48 ?_
      refine jr_bipush (v := 30) hz d_OP_itemsFault_49 (by decide) ?_
      refine jr_icmp_gt (tgt := 58) hz d_OP_itemsFault_51 (by decide) ?_ ?_
      · refine jr_iconst (v := 0) hz d_OP_itemsFault_58 (by decide) ?_
        refine jr_sub (ls' := []) [] rfl ?_
        exact jb_OP_itemsFault_b59 hz hr hlk 0 X6
      · refine jr_iconst (v := 1) hz d_OP_itemsFault_54 (by decide) ?_
        refine jr_goto (tgt := 59) hz d_OP_itemsFault_55 (by decide) ?_
        refine jr_sub (ls' := []) [] rfl ?_
        exact jb_OP_itemsFault_b59 hz hr hlk 1 X6
    · refine jr_bipush (v := 9) hz d_OP_itemsFault_25 (by decide) ?_
      exact jr_iret hz hr hlk d_OP_itemsFault_27
  · refine jr_bipush (v := 11) hz d_OP_itemsFault_14 (by decide) ?_
    exact jr_iret hz hr hlk d_OP_itemsFault_16
theorem d_OP_arrange_0 : decode b_OP_arrange 0 = .ok (.iload_n 1, 1) := by decide +kernel
theorem d_OP_arrange_1 : decode b_OP_arrange 1 = .ok (.tableswitch 272 107 125 #[91, 272, 120, 131, 272, 272, 272, 272, 150, 175, 272, 190, 201, 220, 272, 272, 231, 242, 253], 91) := by decide +kernel
theorem d_OP_arrange_92 : decode b_OP_arrange 92 = .ok (.aload_n 0, 1) := by decide +kernel
theorem d_OP_arrange_93 : decode b_OP_arrange 93 = .ok (.getfield 15, 3) := by decide +kernel
theorem d_OP_arrange_96 : decode b_OP_arrange 96 = .ok (.invokevirtual 55, 3) := by decide +kernel
theorem d_OP_arrange_99 : decode b_OP_arrange 99 = .ok (.aload_n 0, 1) := by decide +kernel
theorem d_OP_arrange_100 : decode b_OP_arrange 100 = .ok (.getfield 9, 3) := by decide +kernel
theorem d_OP_arrange_103 : decode b_OP_arrange 103 = .ok (.iconst 0, 1) := by decide +kernel
theorem d_OP_arrange_104 : decode b_OP_arrange 104 = .ok (.invokevirtual 59, 3) := by decide +kernel
theorem d_OP_arrange_107 : decode b_OP_arrange 107 = .ok (.invokevirtual 63, 3) := by decide +kernel
theorem d_OP_arrange_110 : decode b_OP_arrange 110 = .ok (.aload_n 0, 1) := by decide +kernel
theorem d_OP_arrange_111 : decode b_OP_arrange 111 = .ok (.getfield 9, 3) := by decide +kernel
theorem d_OP_arrange_114 : decode b_OP_arrange 114 = .ok (.iconst 1, 1) := by decide +kernel
theorem d_OP_arrange_115 : decode b_OP_arrange 115 = .ok (.invokevirtual 69, 3) := by decide +kernel
theorem d_OP_arrange_118 : decode b_OP_arrange 118 = .ok (.goto 163, 3) := by decide +kernel
theorem d_OP_arrange_121 : decode b_OP_arrange 121 = .ok (.aload_n 0, 1) := by decide +kernel
theorem d_OP_arrange_122 : decode b_OP_arrange 122 = .ok (.getfield 9, 3) := by decide +kernel
theorem d_OP_arrange_125 : decode b_OP_arrange 125 = .ok (.iconst 2, 1) := by decide +kernel
theorem d_OP_arrange_126 : decode b_OP_arrange 126 = .ok (.invokevirtual 69, 3) := by decide +kernel
theorem d_OP_arrange_129 : decode b_OP_arrange 129 = .ok (.goto 152, 3) := by decide +kernel
theorem d_OP_arrange_132 : decode b_OP_arrange 132 = .ok (.aload_n 0, 1) := by decide +kernel
theorem d_OP_arrange_133 : decode b_OP_arrange 133 = .ok (.getfield 9, 3) := by decide +kernel
theorem d_OP_arrange_136 : decode b_OP_arrange 136 = .ok (.iconst 1, 1) := by decide +kernel
theorem d_OP_arrange_137 : decode b_OP_arrange 137 = .ok (.invokevirtual 89, 3) := by decide +kernel
theorem d_OP_arrange_140 : decode b_OP_arrange 140 = .ok (.aload_n 0, 1) := by decide +kernel
theorem d_OP_arrange_141 : decode b_OP_arrange 141 = .ok (.getfield 9, 3) := by decide +kernel
theorem d_OP_arrange_144 : decode b_OP_arrange 144 = .ok (.iconst 1, 1) := by decide +kernel
theorem d_OP_arrange_145 : decode b_OP_arrange 145 = .ok (.invokevirtual 89, 3) := by decide +kernel
theorem d_OP_arrange_148 : decode b_OP_arrange 148 = .ok (.goto 133, 3) := by decide +kernel
theorem d_OP_arrange_151 : decode b_OP_arrange 151 = .ok (.aload_n 0, 1) := by decide +kernel
theorem d_OP_arrange_152 : decode b_OP_arrange 152 = .ok (.getfield 9, 3) := by decide +kernel
theorem d_OP_arrange_155 : decode b_OP_arrange 155 = .ok (.iconst 0, 1) := by decide +kernel
theorem d_OP_arrange_156 : decode b_OP_arrange 156 = .ok (.invokevirtual 59, 3) := by decide +kernel
theorem d_OP_arrange_159 : decode b_OP_arrange 159 = .ok (.invokevirtual 150, 3) := by decide +kernel
theorem d_OP_arrange_162 : decode b_OP_arrange 162 = .ok (.ifCond .eq 119, 3) := by decide +kernel
theorem d_OP_arrange_165 : decode b_OP_arrange 165 = .ok (.aload_n 0, 1) := by decide +kernel
theorem d_OP_arrange_166 : decode b_OP_arrange 166 = .ok (.getfield 9, 3) := by decide +kernel
theorem d_OP_arrange_169 : decode b_OP_arrange 169 = .ok (.iconst 0, 1) := by decide +kernel
theorem d_OP_arrange_170 : decode b_OP_arrange 170 = .ok (.invokevirtual 89, 3) := by decide +kernel
theorem d_OP_arrange_173 : decode b_OP_arrange 173 = .ok (.goto 108, 3) := by decide +kernel
theorem d_OP_arrange_176 : decode b_OP_arrange 176 = .ok (.aload_n 0, 1) := by decide +kernel
theorem d_OP_arrange_177 : decode b_OP_arrange 177 = .ok (.aload_n 0, 1) := by decide +kernel
theorem d_OP_arrange_178 : decode b_OP_arrange 178 = .ok (.getfield 9, 3) := by decide +kernel
theorem d_OP_arrange_181 : decode b_OP_arrange 181 = .ok (.invokevirtual 83, 3) := by decide +kernel
theorem d_OP_arrange_184 : decode b_OP_arrange 184 = .ok (.i2l, 1) := by decide +kernel
theorem d_OP_arrange_185 : decode b_OP_arrange 185 = .ok (.invokevirtual 117, 3) := by decide +kernel
theorem d_OP_arrange_188 : decode b_OP_arrange 188 = .ok (.goto 93, 3) := by decide +kernel
theorem d_OP_arrange_191 : decode b_OP_arrange 191 = .ok (.aload_n 0, 1) := by decide +kernel
theorem d_OP_arrange_192 : decode b_OP_arrange 192 = .ok (.getfield 9, 3) := by decide +kernel
theorem d_OP_arrange_195 : decode b_OP_arrange 195 = .ok (.iconst 0, 1) := by decide +kernel
theorem d_OP_arrange_196 : decode b_OP_arrange 196 = .ok (.invokevirtual 89, 3) := by decide +kernel
theorem d_OP_arrange_199 : decode b_OP_arrange 199 = .ok (.goto 82, 3) := by decide +kernel
theorem d_OP_arrange_202 : decode b_OP_arrange 202 = .ok (.aload_n 0, 1) := by decide +kernel
theorem d_OP_arrange_203 : decode b_OP_arrange 203 = .ok (.getfield 9, 3) := by decide +kernel
theorem d_OP_arrange_206 : decode b_OP_arrange 206 = .ok (.iconst 1, 1) := by decide +kernel
theorem d_OP_arrange_207 : decode b_OP_arrange 207 = .ok (.invokevirtual 86, 3) := by decide +kernel
theorem d_OP_arrange_210 : decode b_OP_arrange 210 = .ok (.aload_n 0, 1) := by decide +kernel
theorem d_OP_arrange_211 : decode b_OP_arrange 211 = .ok (.getfield 9, 3) := by decide +kernel
theorem d_OP_arrange_214 : decode b_OP_arrange 214 = .ok (.iconst 1, 1) := by decide +kernel
theorem d_OP_arrange_215 : decode b_OP_arrange 215 = .ok (.invokevirtual 69, 3) := by decide +kernel
theorem d_OP_arrange_218 : decode b_OP_arrange 218 = .ok (.goto 63, 3) := by decide +kernel
theorem d_OP_arrange_221 : decode b_OP_arrange 221 = .ok (.aload_n 0, 1) := by decide +kernel
theorem d_OP_arrange_222 : decode b_OP_arrange 222 = .ok (.getfield 9, 3) := by decide +kernel
theorem d_OP_arrange_225 : decode b_OP_arrange 225 = .ok (.iconst 1, 1) := by decide +kernel
theorem d_OP_arrange_226 : decode b_OP_arrange 226 = .ok (.invokevirtual 89, 3) := by decide +kernel
theorem d_OP_arrange_229 : decode b_OP_arrange 229 = .ok (.goto 52, 3) := by decide +kernel
theorem d_OP_arrange_232 : decode b_OP_arrange 232 = .ok (.aload_n 0, 1) := by decide +kernel
theorem d_OP_arrange_233 : decode b_OP_arrange 233 = .ok (.getfield 9, 3) := by decide +kernel
theorem d_OP_arrange_236 : decode b_OP_arrange 236 = .ok (.iconst 2, 1) := by decide +kernel
theorem d_OP_arrange_237 : decode b_OP_arrange 237 = .ok (.invokevirtual 86, 3) := by decide +kernel
theorem d_OP_arrange_240 : decode b_OP_arrange 240 = .ok (.goto 41, 3) := by decide +kernel
theorem d_OP_arrange_243 : decode b_OP_arrange 243 = .ok (.aload_n 0, 1) := by decide +kernel
theorem d_OP_arrange_244 : decode b_OP_arrange 244 = .ok (.getfield 9, 3) := by decide +kernel
theorem d_OP_arrange_247 : decode b_OP_arrange 247 = .ok (.iconst 1, 1) := by decide +kernel
theorem d_OP_arrange_248 : decode b_OP_arrange 248 = .ok (.invokevirtual 86, 3) := by decide +kernel
theorem d_OP_arrange_251 : decode b_OP_arrange 251 = .ok (.goto 30, 3) := by decide +kernel
theorem d_OP_arrange_254 : decode b_OP_arrange 254 = .ok (.aload_n 0, 1) := by decide +kernel
theorem d_OP_arrange_255 : decode b_OP_arrange 255 = .ok (.getfield 9, 3) := by decide +kernel
theorem d_OP_arrange_258 : decode b_OP_arrange 258 = .ok (.iconst 0, 1) := by decide +kernel
theorem d_OP_arrange_259 : decode b_OP_arrange 259 = .ok (.invokevirtual 89, 3) := by decide +kernel
theorem d_OP_arrange_262 : decode b_OP_arrange 262 = .ok (.aload_n 0, 1) := by decide +kernel
theorem d_OP_arrange_263 : decode b_OP_arrange 263 = .ok (.getfield 9, 3) := by decide +kernel
theorem d_OP_arrange_266 : decode b_OP_arrange 266 = .ok (.iconst 2, 1) := by decide +kernel
theorem d_OP_arrange_267 : decode b_OP_arrange 267 = .ok (.invokevirtual 157, 3) := by decide +kernel
theorem d_OP_arrange_270 : decode b_OP_arrange 270 = .ok (.goto 11, 3) := by decide +kernel
theorem d_OP_arrange_273 : decode b_OP_arrange 273 = .ok (.aload_n 0, 1) := by decide +kernel
theorem d_OP_arrange_274 : decode b_OP_arrange 274 = .ok (.getfield 9, 3) := by decide +kernel
theorem d_OP_arrange_277 : decode b_OP_arrange 277 = .ok (.iconst 1, 1) := by decide +kernel
theorem d_OP_arrange_278 : decode b_OP_arrange 278 = .ok (.invokevirtual 69, 3) := by decide +kernel
theorem d_OP_arrange_281 : decode b_OP_arrange 281 = .ok (.return_, 1) := by decide +kernel
theorem wv_OP_157 : xh_V "SpendScript$Operations" 157 1 y_IS_sinkTop b_IS_sinkTop 4 none 1 := ⟨(sp_tb (List.mem_of_getElem? (i := 458) (by decide +kernel))), (sp_tb (List.mem_of_getElem? (i := 4) (by decide +kernel))), (sp_tb (List.mem_of_getElem? (i := 455) (by decide +kernel))), ⟨by decide +kernel, by decide +kernel, by decide +kernel⟩, (sp_tb (List.mem_of_getElem? (i := 456) (by decide +kernel))), (sp_tb (List.mem_of_getElem? (i := 457) (by decide +kernel))), F_IS, 3, rfl⟩
abbrev rm_OP_arrange : Room := { frames := 3, cells := 0, slots := 0, locals := 128 }
def fx_OP_arrange (p1 : Int32) (X : xh_T) : Option (Unit × xh_T) :=
  if p1 = 107 then
  xh_b (fx_IS_push 139 X) (fun (q8 : Nat) (X2 : xh_T) =>
  xh_b (fx_IS_item 10 0 X2) (fun (q12 : Nat) (X3 : xh_T) =>
  xh_b (fx_BS_becomeCopyOf q8 q12 X3) (fun (_ : Unit) (X4 : xh_T) =>
  xh_b (fx_IS_drop 10 1 X4) (fun (_ : Unit) (X5 : xh_T) =>
  some ((), X5)))))
  else if p1 = 108 then
  xh_b (fx_IS_drop 10 1 X) (fun (_ : Unit) (X6 : xh_T) =>
  some ((), X6))
  else if p1 = 109 then
  xh_b (fx_IS_drop 10 2 X) (fun (_ : Unit) (X7 : xh_T) =>
  some ((), X7))
  else if p1 = 110 then
  xh_b (fx_IS_pushCopy 10 1 X) (fun (_ : Unit) (X8 : xh_T) =>
  xh_b (fx_IS_pushCopy 10 1 X8) (fun (_ : Unit) (X9 : xh_T) =>
  some ((), X9)))
  else if p1 = 111 then
  xh_b (fx_IS_drop 10 1 X) (fun (_ : Unit) (X10 : xh_T) =>
  some ((), X10))
  else if p1 = 112 then
  xh_b (fx_IS_drop 10 1 X) (fun (_ : Unit) (X11 : xh_T) =>
  some ((), X11))
  else if p1 = 113 then
  xh_b (fx_IS_drop 10 1 X) (fun (_ : Unit) (X12 : xh_T) =>
  some ((), X12))
  else if p1 = 114 then
  xh_b (fx_IS_drop 10 1 X) (fun (_ : Unit) (X13 : xh_T) =>
  some ((), X13))
  else if p1 = 115 then
  xh_b (fx_IS_item 10 0 X) (fun (q56 : Nat) (X14 : xh_T) =>
  xh_b (fx_BS_isTrue q56 X14) (fun (r58 : Int32) (X15 : xh_T) =>
  if r58 = 0 then
  some ((), X15)
  else xh_b (fx_IS_pushCopy 10 0 X15) (fun (_ : Unit) (X16 : xh_T) =>
  some ((), X16))))
  else if p1 = 116 then
  xh_b (fx_IS_size 10 X) (fun (r65 : Int32) (X17 : xh_T) =>
  xh_b (fx_OP_pushNumber ((r65 : Int32).toInt64) X17) (fun (_ : Unit) (X18 : xh_T) =>
  some ((), X18)))
  else if p1 = 117 then
  xh_b (fx_IS_drop 10 1 X) (fun (_ : Unit) (X19 : xh_T) =>
  some ((), X19))
  else if p1 = 118 then
  xh_b (fx_IS_pushCopy 10 0 X) (fun (_ : Unit) (X20 : xh_T) =>
  some ((), X20))
  else if p1 = 119 then
  xh_b (fx_IS_raise 10 1 X) (fun (_ : Unit) (X21 : xh_T) =>
  xh_b (fx_IS_drop 10 1 X21) (fun (_ : Unit) (X22 : xh_T) =>
  some ((), X22)))
  else if p1 = 120 then
  xh_b (fx_IS_pushCopy 10 1 X) (fun (_ : Unit) (X23 : xh_T) =>
  some ((), X23))
  else if p1 = 121 then
  xh_b (fx_IS_drop 10 1 X) (fun (_ : Unit) (X24 : xh_T) =>
  some ((), X24))
  else if p1 = 122 then
  xh_b (fx_IS_drop 10 1 X) (fun (_ : Unit) (X25 : xh_T) =>
  some ((), X25))
  else if p1 = 123 then
  xh_b (fx_IS_raise 10 2 X) (fun (_ : Unit) (X26 : xh_T) =>
  some ((), X26))
  else if p1 = 124 then
  xh_b (fx_IS_raise 10 1 X) (fun (_ : Unit) (X27 : xh_T) =>
  some ((), X27))
  else if p1 = 125 then
  xh_b (fx_IS_pushCopy 10 0 X) (fun (_ : Unit) (X28 : xh_T) =>
  xh_b (fx_IS_sinkTop 10 2 X28) (fun (_ : Unit) (X29 : xh_T) =>
  some ((), X29)))
  else xh_b (fx_IS_drop 10 1 X) (fun (_ : Unit) (X1 : xh_T) =>
  some ((), X1))
set_option maxRecDepth 100000 in
set_option maxHeartbeats 4000000 in
theorem cx_OP_arrange (l : Launch) (D : va_G) (G : xh_G) (hD : xh_D G) (p1 : Int32) (X : xh_T) : xh_M xh_Qv l D G y_OP_arrange b_OP_arrange 2 none rm_OP_arrange [.ref (G.1 205), .int p1] X (fx_OP_arrange p1 X) := by
  refine xh_enter (ls := [(0, .ref (G.1 205)), (1, .int p1)]) hD (by decide +kernel) (Nat.le_of_ble_eq_true rfl) rfl ?_
  intro p e s m args below meth c hz hr hlk
  unfold fx_OP_arrange
  refine jr_iload_n hz d_OP_arrange_0 rfl 1 rfl ?_
  refine jr_ite (fun hs0 => ?_) (fun hs0 => ?_)
  · refine jr_tableIn (off := 91) (tgt := 92) hz d_OP_arrange_1 (by rw [hs0]; decide) (by rw [hs0]; decide) (by rw [hs0]; first | done | decide | rfl) (by decide) ?_
    refine jr_aload_n hz d_OP_arrange_92 rfl 0 rfl ?_
    refine jr_getr (j := 1) (t := 139) hz lq_205 ly_205 rfl wf_OP_15 d_OP_arrange_93 ?_
    refine jr_callVr (As := []) (a := 139) (ci := 1) (st := []) hz (cx_IS_push l D G hz.2.2.2.2.2.2.1 139 X) (fun z h => sp_is_v (xh_k_t h)) wv_OP_55 ⟨rfl, rfl, Nat.le_of_ble_eq_true rfl, Nat.le_of_ble_eq_true rfl⟩ ⟨Nat.zero_le _, Nat.zero_le _⟩ rfl rfl (Nat.le_of_ble_eq_true rfl) d_OP_arrange_96 (fun q8 X2 => ?_)
    refine jr_aload_n hz d_OP_arrange_99 rfl 0 rfl ?_
    refine jr_getr (j := 0) (t := 10) hz lq_205 ly_205 rfl wf_OP_9 d_OP_arrange_100 ?_
    refine jr_iconst (v := 0) hz d_OP_arrange_103 (by decide) ?_
    refine jr_callVr (As := [.int 0]) (a := 10) (ci := 1) (st := [.ref (G.1 q8)]) hz (cx_IS_item l D G hz.2.2.2.2.2.2.1 10 0 X2) (fun z h => sp_is_v (xh_k_t h)) wv_OP_59 ⟨rfl, rfl, Nat.le_of_ble_eq_true rfl, Nat.le_of_ble_eq_true rfl⟩ ⟨Nat.zero_le _, Nat.zero_le _⟩ rfl rfl (Nat.le_of_ble_eq_true rfl) d_OP_arrange_104 (fun q12 X3 => ?_)
    refine jr_callVv (As := [.ref (G.1 q12)]) (a := q8) (ci := 0) (st := []) hz (cx_BS_becomeCopyOf l D G hz.2.2.2.2.2.2.1 q8 q12 X3) (fun z h => sp_bs_v (xh_k_t h)) wv_OP_63 ⟨rfl, rfl, Nat.le_of_ble_eq_true rfl, Nat.le_of_ble_eq_true rfl⟩ ⟨Nat.zero_le _, Nat.zero_le _⟩ rfl rfl (Nat.le_of_ble_eq_true rfl) d_OP_arrange_107 (fun _ X4 => ?_)
    refine jr_aload_n hz d_OP_arrange_110 rfl 0 rfl ?_
    refine jr_getr (j := 0) (t := 10) hz lq_205 ly_205 rfl wf_OP_9 d_OP_arrange_111 ?_
    refine jr_iconst (v := 1) hz d_OP_arrange_114 (by decide) ?_
    refine jr_callVv (As := [.int 1]) (a := 10) (ci := 1) (st := []) hz (cx_IS_drop l D G hz.2.2.2.2.2.2.1 10 1 X4) (fun z h => sp_is_v (xh_k_t h)) wv_OP_69 ⟨rfl, rfl, Nat.le_of_ble_eq_true rfl, Nat.le_of_ble_eq_true rfl⟩ ⟨Nat.zero_le _, Nat.zero_le _⟩ rfl rfl (Nat.le_of_ble_eq_true rfl) d_OP_arrange_115 (fun _ X5 => ?_)
    refine jr_goto (tgt := 281) hz d_OP_arrange_118 (by decide) ?_
    exact jr_vret hz hr hlk d_OP_arrange_281
  refine jr_ite (fun hs1 => ?_) (fun hs1 => ?_)
  · refine jr_tableIn (off := 272) (tgt := 273) hz d_OP_arrange_1 (by rw [hs1]; decide) (by rw [hs1]; decide) (by rw [hs1]; first | done | decide | rfl) (by decide) ?_
    refine jr_aload_n hz d_OP_arrange_273 rfl 0 rfl ?_
    refine jr_getr (j := 0) (t := 10) hz lq_205 ly_205 rfl wf_OP_9 d_OP_arrange_274 ?_
    refine jr_iconst (v := 1) hz d_OP_arrange_277 (by decide) ?_
    refine jr_callVv (As := [.int 1]) (a := 10) (ci := 1) (st := []) hz (cx_IS_drop l D G hz.2.2.2.2.2.2.1 10 1 X) (fun z h => sp_is_v (xh_k_t h)) wv_OP_69 ⟨rfl, rfl, Nat.le_of_ble_eq_true rfl, Nat.le_of_ble_eq_true rfl⟩ ⟨Nat.zero_le _, Nat.zero_le _⟩ rfl rfl (Nat.le_of_ble_eq_true rfl) d_OP_arrange_278 (fun _ X6 => ?_)
    exact jr_vret hz hr hlk d_OP_arrange_281
  refine jr_ite (fun hs2 => ?_) (fun hs2 => ?_)
  · refine jr_tableIn (off := 120) (tgt := 121) hz d_OP_arrange_1 (by rw [hs2]; decide) (by rw [hs2]; decide) (by rw [hs2]; first | done | decide | rfl) (by decide) ?_
    refine jr_aload_n hz d_OP_arrange_121 rfl 0 rfl ?_
    refine jr_getr (j := 0) (t := 10) hz lq_205 ly_205 rfl wf_OP_9 d_OP_arrange_122 ?_
    refine jr_iconst (v := 2) hz d_OP_arrange_125 (by decide) ?_
    refine jr_callVv (As := [.int 2]) (a := 10) (ci := 1) (st := []) hz (cx_IS_drop l D G hz.2.2.2.2.2.2.1 10 2 X) (fun z h => sp_is_v (xh_k_t h)) wv_OP_69 ⟨rfl, rfl, Nat.le_of_ble_eq_true rfl, Nat.le_of_ble_eq_true rfl⟩ ⟨Nat.zero_le _, Nat.zero_le _⟩ rfl rfl (Nat.le_of_ble_eq_true rfl) d_OP_arrange_126 (fun _ X7 => ?_)
    refine jr_goto (tgt := 281) hz d_OP_arrange_129 (by decide) ?_
    exact jr_vret hz hr hlk d_OP_arrange_281
  refine jr_ite (fun hs3 => ?_) (fun hs3 => ?_)
  · refine jr_tableIn (off := 131) (tgt := 132) hz d_OP_arrange_1 (by rw [hs3]; decide) (by rw [hs3]; decide) (by rw [hs3]; first | done | decide | rfl) (by decide) ?_
    refine jr_aload_n hz d_OP_arrange_132 rfl 0 rfl ?_
    refine jr_getr (j := 0) (t := 10) hz lq_205 ly_205 rfl wf_OP_9 d_OP_arrange_133 ?_
    refine jr_iconst (v := 1) hz d_OP_arrange_136 (by decide) ?_
    refine jr_callVv (As := [.int 1]) (a := 10) (ci := 1) (st := []) hz (cx_IS_pushCopy l D G hz.2.2.2.2.2.2.1 10 1 X) (fun z h => sp_is_v (xh_k_t h)) wv_OP_89 ⟨rfl, rfl, Nat.le_of_ble_eq_true rfl, Nat.le_of_ble_eq_true rfl⟩ ⟨Nat.zero_le _, Nat.zero_le _⟩ rfl rfl (Nat.le_of_ble_eq_true rfl) d_OP_arrange_137 (fun _ X8 => ?_)
    refine jr_aload_n hz d_OP_arrange_140 rfl 0 rfl ?_
    refine jr_getr (j := 0) (t := 10) hz lq_205 ly_205 rfl wf_OP_9 d_OP_arrange_141 ?_
    refine jr_iconst (v := 1) hz d_OP_arrange_144 (by decide) ?_
    refine jr_callVv (As := [.int 1]) (a := 10) (ci := 1) (st := []) hz (cx_IS_pushCopy l D G hz.2.2.2.2.2.2.1 10 1 X8) (fun z h => sp_is_v (xh_k_t h)) wv_OP_89 ⟨rfl, rfl, Nat.le_of_ble_eq_true rfl, Nat.le_of_ble_eq_true rfl⟩ ⟨Nat.zero_le _, Nat.zero_le _⟩ rfl rfl (Nat.le_of_ble_eq_true rfl) d_OP_arrange_145 (fun _ X9 => ?_)
    refine jr_goto (tgt := 281) hz d_OP_arrange_148 (by decide) ?_
    exact jr_vret hz hr hlk d_OP_arrange_281
  refine jr_ite (fun hs4 => ?_) (fun hs4 => ?_)
  · refine jr_tableIn (off := 272) (tgt := 273) hz d_OP_arrange_1 (by rw [hs4]; decide) (by rw [hs4]; decide) (by rw [hs4]; first | done | decide | rfl) (by decide) ?_
    refine jr_aload_n hz d_OP_arrange_273 rfl 0 rfl ?_
    refine jr_getr (j := 0) (t := 10) hz lq_205 ly_205 rfl wf_OP_9 d_OP_arrange_274 ?_
    refine jr_iconst (v := 1) hz d_OP_arrange_277 (by decide) ?_
    refine jr_callVv (As := [.int 1]) (a := 10) (ci := 1) (st := []) hz (cx_IS_drop l D G hz.2.2.2.2.2.2.1 10 1 X) (fun z h => sp_is_v (xh_k_t h)) wv_OP_69 ⟨rfl, rfl, Nat.le_of_ble_eq_true rfl, Nat.le_of_ble_eq_true rfl⟩ ⟨Nat.zero_le _, Nat.zero_le _⟩ rfl rfl (Nat.le_of_ble_eq_true rfl) d_OP_arrange_278 (fun _ X10 => ?_)
    exact jr_vret hz hr hlk d_OP_arrange_281
  refine jr_ite (fun hs5 => ?_) (fun hs5 => ?_)
  · refine jr_tableIn (off := 272) (tgt := 273) hz d_OP_arrange_1 (by rw [hs5]; decide) (by rw [hs5]; decide) (by rw [hs5]; first | done | decide | rfl) (by decide) ?_
    refine jr_aload_n hz d_OP_arrange_273 rfl 0 rfl ?_
    refine jr_getr (j := 0) (t := 10) hz lq_205 ly_205 rfl wf_OP_9 d_OP_arrange_274 ?_
    refine jr_iconst (v := 1) hz d_OP_arrange_277 (by decide) ?_
    refine jr_callVv (As := [.int 1]) (a := 10) (ci := 1) (st := []) hz (cx_IS_drop l D G hz.2.2.2.2.2.2.1 10 1 X) (fun z h => sp_is_v (xh_k_t h)) wv_OP_69 ⟨rfl, rfl, Nat.le_of_ble_eq_true rfl, Nat.le_of_ble_eq_true rfl⟩ ⟨Nat.zero_le _, Nat.zero_le _⟩ rfl rfl (Nat.le_of_ble_eq_true rfl) d_OP_arrange_278 (fun _ X11 => ?_)
    exact jr_vret hz hr hlk d_OP_arrange_281
  refine jr_ite (fun hs6 => ?_) (fun hs6 => ?_)
  · refine jr_tableIn (off := 272) (tgt := 273) hz d_OP_arrange_1 (by rw [hs6]; decide) (by rw [hs6]; decide) (by rw [hs6]; first | done | decide | rfl) (by decide) ?_
    refine jr_aload_n hz d_OP_arrange_273 rfl 0 rfl ?_
    refine jr_getr (j := 0) (t := 10) hz lq_205 ly_205 rfl wf_OP_9 d_OP_arrange_274 ?_
    refine jr_iconst (v := 1) hz d_OP_arrange_277 (by decide) ?_
    refine jr_callVv (As := [.int 1]) (a := 10) (ci := 1) (st := []) hz (cx_IS_drop l D G hz.2.2.2.2.2.2.1 10 1 X) (fun z h => sp_is_v (xh_k_t h)) wv_OP_69 ⟨rfl, rfl, Nat.le_of_ble_eq_true rfl, Nat.le_of_ble_eq_true rfl⟩ ⟨Nat.zero_le _, Nat.zero_le _⟩ rfl rfl (Nat.le_of_ble_eq_true rfl) d_OP_arrange_278 (fun _ X12 => ?_)
    exact jr_vret hz hr hlk d_OP_arrange_281
  refine jr_ite (fun hs7 => ?_) (fun hs7 => ?_)
  · refine jr_tableIn (off := 272) (tgt := 273) hz d_OP_arrange_1 (by rw [hs7]; decide) (by rw [hs7]; decide) (by rw [hs7]; first | done | decide | rfl) (by decide) ?_
    refine jr_aload_n hz d_OP_arrange_273 rfl 0 rfl ?_
    refine jr_getr (j := 0) (t := 10) hz lq_205 ly_205 rfl wf_OP_9 d_OP_arrange_274 ?_
    refine jr_iconst (v := 1) hz d_OP_arrange_277 (by decide) ?_
    refine jr_callVv (As := [.int 1]) (a := 10) (ci := 1) (st := []) hz (cx_IS_drop l D G hz.2.2.2.2.2.2.1 10 1 X) (fun z h => sp_is_v (xh_k_t h)) wv_OP_69 ⟨rfl, rfl, Nat.le_of_ble_eq_true rfl, Nat.le_of_ble_eq_true rfl⟩ ⟨Nat.zero_le _, Nat.zero_le _⟩ rfl rfl (Nat.le_of_ble_eq_true rfl) d_OP_arrange_278 (fun _ X13 => ?_)
    exact jr_vret hz hr hlk d_OP_arrange_281
  refine jr_ite (fun hs8 => ?_) (fun hs8 => ?_)
  · refine jr_tableIn (off := 150) (tgt := 151) hz d_OP_arrange_1 (by rw [hs8]; decide) (by rw [hs8]; decide) (by rw [hs8]; first | done | decide | rfl) (by decide) ?_
    refine jr_aload_n hz d_OP_arrange_151 rfl 0 rfl ?_
    refine jr_getr (j := 0) (t := 10) hz lq_205 ly_205 rfl wf_OP_9 d_OP_arrange_152 ?_
    refine jr_iconst (v := 0) hz d_OP_arrange_155 (by decide) ?_
    refine jr_callVr (As := [.int 0]) (a := 10) (ci := 1) (st := []) hz (cx_IS_item l D G hz.2.2.2.2.2.2.1 10 0 X) (fun z h => sp_is_v (xh_k_t h)) wv_OP_59 ⟨rfl, rfl, Nat.le_of_ble_eq_true rfl, Nat.le_of_ble_eq_true rfl⟩ ⟨Nat.zero_le _, Nat.zero_le _⟩ rfl rfl (Nat.le_of_ble_eq_true rfl) d_OP_arrange_156 (fun q56 X14 => ?_)
    refine jr_callVi (As := []) (a := q56) (ci := 0) (st := []) hz (cx_BS_isTrue l D G hz.2.2.2.2.2.2.1 q56 X14) (fun z h => sp_bs_v (xh_k_t h)) wv_OP_150 ⟨rfl, rfl, Nat.le_of_ble_eq_true rfl, Nat.le_of_ble_eq_true rfl⟩ ⟨Nat.zero_le _, Nat.zero_le _⟩ rfl rfl (Nat.le_of_ble_eq_true rfl) d_OP_arrange_159 (fun r58 X15 => ?_)
    refine jr_if_eq (tgt := 281) hz d_OP_arrange_162 (by decide) ?_ ?_
    · exact jr_vret hz hr hlk d_OP_arrange_281
    · refine jr_aload_n hz d_OP_arrange_165 rfl 0 rfl ?_
      refine jr_getr (j := 0) (t := 10) hz lq_205 ly_205 rfl wf_OP_9 d_OP_arrange_166 ?_
      refine jr_iconst (v := 0) hz d_OP_arrange_169 (by decide) ?_
      refine jr_callVv (As := [.int 0]) (a := 10) (ci := 1) (st := []) hz (cx_IS_pushCopy l D G hz.2.2.2.2.2.2.1 10 0 X15) (fun z h => sp_is_v (xh_k_t h)) wv_OP_89 ⟨rfl, rfl, Nat.le_of_ble_eq_true rfl, Nat.le_of_ble_eq_true rfl⟩ ⟨Nat.zero_le _, Nat.zero_le _⟩ rfl rfl (Nat.le_of_ble_eq_true rfl) d_OP_arrange_170 (fun _ X16 => ?_)
      refine jr_goto (tgt := 281) hz d_OP_arrange_173 (by decide) ?_
      exact jr_vret hz hr hlk d_OP_arrange_281
  refine jr_ite (fun hs9 => ?_) (fun hs9 => ?_)
  · refine jr_tableIn (off := 175) (tgt := 176) hz d_OP_arrange_1 (by rw [hs9]; decide) (by rw [hs9]; decide) (by rw [hs9]; first | done | decide | rfl) (by decide) ?_
    refine jr_aload_n hz d_OP_arrange_176 rfl 0 rfl ?_
    refine jr_aload_n hz d_OP_arrange_177 rfl 0 rfl ?_
    refine jr_getr (j := 0) (t := 10) hz lq_205 ly_205 rfl wf_OP_9 d_OP_arrange_178 ?_
    refine jr_callVi (As := []) (a := 10) (ci := 1) (st := [.ref (G.1 205)]) hz (cx_IS_size l D G hz.2.2.2.2.2.2.1 10 X) (fun z h => sp_is_v (xh_k_t h)) wv_OP_83 ⟨rfl, rfl, Nat.le_of_ble_eq_true rfl, Nat.le_of_ble_eq_true rfl⟩ ⟨Nat.zero_le _, Nat.zero_le _⟩ rfl rfl (Nat.le_of_ble_eq_true rfl) d_OP_arrange_181 (fun r65 X17 => ?_)
    refine jr_i2l hz d_OP_arrange_184 ?_
    refine jr_callVv (As := [.long ((r65 : Int32).toInt64)]) (a := 205) (ci := 5) (st := []) hz (cx_OP_pushNumber l D G hz.2.2.2.2.2.2.1 ((r65 : Int32).toInt64) X17) (fun _ _ => ⟨lq_205, _, ly_205⟩) wv_OP_117 ⟨rfl, rfl, Nat.le_of_ble_eq_true rfl, Nat.le_of_ble_eq_true rfl⟩ ⟨Nat.zero_le _, Nat.zero_le _⟩ rfl rfl (Nat.le_of_ble_eq_true rfl) d_OP_arrange_185 (fun _ X18 => ?_)
    refine jr_goto (tgt := 281) hz d_OP_arrange_188 (by decide) ?_
    exact jr_vret hz hr hlk d_OP_arrange_281
  refine jr_ite (fun hs10 => ?_) (fun hs10 => ?_)
  · refine jr_tableIn (off := 272) (tgt := 273) hz d_OP_arrange_1 (by rw [hs10]; decide) (by rw [hs10]; decide) (by rw [hs10]; first | done | decide | rfl) (by decide) ?_
    refine jr_aload_n hz d_OP_arrange_273 rfl 0 rfl ?_
    refine jr_getr (j := 0) (t := 10) hz lq_205 ly_205 rfl wf_OP_9 d_OP_arrange_274 ?_
    refine jr_iconst (v := 1) hz d_OP_arrange_277 (by decide) ?_
    refine jr_callVv (As := [.int 1]) (a := 10) (ci := 1) (st := []) hz (cx_IS_drop l D G hz.2.2.2.2.2.2.1 10 1 X) (fun z h => sp_is_v (xh_k_t h)) wv_OP_69 ⟨rfl, rfl, Nat.le_of_ble_eq_true rfl, Nat.le_of_ble_eq_true rfl⟩ ⟨Nat.zero_le _, Nat.zero_le _⟩ rfl rfl (Nat.le_of_ble_eq_true rfl) d_OP_arrange_278 (fun _ X19 => ?_)
    exact jr_vret hz hr hlk d_OP_arrange_281
  refine jr_ite (fun hs11 => ?_) (fun hs11 => ?_)
  · refine jr_tableIn (off := 190) (tgt := 191) hz d_OP_arrange_1 (by rw [hs11]; decide) (by rw [hs11]; decide) (by rw [hs11]; first | done | decide | rfl) (by decide) ?_
    refine jr_aload_n hz d_OP_arrange_191 rfl 0 rfl ?_
    refine jr_getr (j := 0) (t := 10) hz lq_205 ly_205 rfl wf_OP_9 d_OP_arrange_192 ?_
    refine jr_iconst (v := 0) hz d_OP_arrange_195 (by decide) ?_
    refine jr_callVv (As := [.int 0]) (a := 10) (ci := 1) (st := []) hz (cx_IS_pushCopy l D G hz.2.2.2.2.2.2.1 10 0 X) (fun z h => sp_is_v (xh_k_t h)) wv_OP_89 ⟨rfl, rfl, Nat.le_of_ble_eq_true rfl, Nat.le_of_ble_eq_true rfl⟩ ⟨Nat.zero_le _, Nat.zero_le _⟩ rfl rfl (Nat.le_of_ble_eq_true rfl) d_OP_arrange_196 (fun _ X20 => ?_)
    refine jr_goto (tgt := 281) hz d_OP_arrange_199 (by decide) ?_
    exact jr_vret hz hr hlk d_OP_arrange_281
  refine jr_ite (fun hs12 => ?_) (fun hs12 => ?_)
  · refine jr_tableIn (off := 201) (tgt := 202) hz d_OP_arrange_1 (by rw [hs12]; decide) (by rw [hs12]; decide) (by rw [hs12]; first | done | decide | rfl) (by decide) ?_
    refine jr_aload_n hz d_OP_arrange_202 rfl 0 rfl ?_
    refine jr_getr (j := 0) (t := 10) hz lq_205 ly_205 rfl wf_OP_9 d_OP_arrange_203 ?_
    refine jr_iconst (v := 1) hz d_OP_arrange_206 (by decide) ?_
    refine jr_callVv (As := [.int 1]) (a := 10) (ci := 1) (st := []) hz (cx_IS_raise l D G hz.2.2.2.2.2.2.1 10 1 X) (fun z h => sp_is_v (xh_k_t h)) wv_OP_86 ⟨rfl, rfl, Nat.le_of_ble_eq_true rfl, Nat.le_of_ble_eq_true rfl⟩ ⟨Nat.zero_le _, Nat.zero_le _⟩ rfl rfl (Nat.le_of_ble_eq_true rfl) d_OP_arrange_207 (fun _ X21 => ?_)
    refine jr_aload_n hz d_OP_arrange_210 rfl 0 rfl ?_
    refine jr_getr (j := 0) (t := 10) hz lq_205 ly_205 rfl wf_OP_9 d_OP_arrange_211 ?_
    refine jr_iconst (v := 1) hz d_OP_arrange_214 (by decide) ?_
    refine jr_callVv (As := [.int 1]) (a := 10) (ci := 1) (st := []) hz (cx_IS_drop l D G hz.2.2.2.2.2.2.1 10 1 X21) (fun z h => sp_is_v (xh_k_t h)) wv_OP_69 ⟨rfl, rfl, Nat.le_of_ble_eq_true rfl, Nat.le_of_ble_eq_true rfl⟩ ⟨Nat.zero_le _, Nat.zero_le _⟩ rfl rfl (Nat.le_of_ble_eq_true rfl) d_OP_arrange_215 (fun _ X22 => ?_)
    refine jr_goto (tgt := 281) hz d_OP_arrange_218 (by decide) ?_
    exact jr_vret hz hr hlk d_OP_arrange_281
  refine jr_ite (fun hs13 => ?_) (fun hs13 => ?_)
  · refine jr_tableIn (off := 220) (tgt := 221) hz d_OP_arrange_1 (by rw [hs13]; decide) (by rw [hs13]; decide) (by rw [hs13]; first | done | decide | rfl) (by decide) ?_
    refine jr_aload_n hz d_OP_arrange_221 rfl 0 rfl ?_
    refine jr_getr (j := 0) (t := 10) hz lq_205 ly_205 rfl wf_OP_9 d_OP_arrange_222 ?_
    refine jr_iconst (v := 1) hz d_OP_arrange_225 (by decide) ?_
    refine jr_callVv (As := [.int 1]) (a := 10) (ci := 1) (st := []) hz (cx_IS_pushCopy l D G hz.2.2.2.2.2.2.1 10 1 X) (fun z h => sp_is_v (xh_k_t h)) wv_OP_89 ⟨rfl, rfl, Nat.le_of_ble_eq_true rfl, Nat.le_of_ble_eq_true rfl⟩ ⟨Nat.zero_le _, Nat.zero_le _⟩ rfl rfl (Nat.le_of_ble_eq_true rfl) d_OP_arrange_226 (fun _ X23 => ?_)
    refine jr_goto (tgt := 281) hz d_OP_arrange_229 (by decide) ?_
    exact jr_vret hz hr hlk d_OP_arrange_281
  refine jr_ite (fun hs14 => ?_) (fun hs14 => ?_)
  · refine jr_tableIn (off := 272) (tgt := 273) hz d_OP_arrange_1 (by rw [hs14]; decide) (by rw [hs14]; decide) (by rw [hs14]; first | done | decide | rfl) (by decide) ?_
    refine jr_aload_n hz d_OP_arrange_273 rfl 0 rfl ?_
    refine jr_getr (j := 0) (t := 10) hz lq_205 ly_205 rfl wf_OP_9 d_OP_arrange_274 ?_
    refine jr_iconst (v := 1) hz d_OP_arrange_277 (by decide) ?_
    refine jr_callVv (As := [.int 1]) (a := 10) (ci := 1) (st := []) hz (cx_IS_drop l D G hz.2.2.2.2.2.2.1 10 1 X) (fun z h => sp_is_v (xh_k_t h)) wv_OP_69 ⟨rfl, rfl, Nat.le_of_ble_eq_true rfl, Nat.le_of_ble_eq_true rfl⟩ ⟨Nat.zero_le _, Nat.zero_le _⟩ rfl rfl (Nat.le_of_ble_eq_true rfl) d_OP_arrange_278 (fun _ X24 => ?_)
    exact jr_vret hz hr hlk d_OP_arrange_281
  refine jr_ite (fun hs15 => ?_) (fun hs15 => ?_)
  · refine jr_tableIn (off := 272) (tgt := 273) hz d_OP_arrange_1 (by rw [hs15]; decide) (by rw [hs15]; decide) (by rw [hs15]; first | done | decide | rfl) (by decide) ?_
    refine jr_aload_n hz d_OP_arrange_273 rfl 0 rfl ?_
    refine jr_getr (j := 0) (t := 10) hz lq_205 ly_205 rfl wf_OP_9 d_OP_arrange_274 ?_
    refine jr_iconst (v := 1) hz d_OP_arrange_277 (by decide) ?_
    refine jr_callVv (As := [.int 1]) (a := 10) (ci := 1) (st := []) hz (cx_IS_drop l D G hz.2.2.2.2.2.2.1 10 1 X) (fun z h => sp_is_v (xh_k_t h)) wv_OP_69 ⟨rfl, rfl, Nat.le_of_ble_eq_true rfl, Nat.le_of_ble_eq_true rfl⟩ ⟨Nat.zero_le _, Nat.zero_le _⟩ rfl rfl (Nat.le_of_ble_eq_true rfl) d_OP_arrange_278 (fun _ X25 => ?_)
    exact jr_vret hz hr hlk d_OP_arrange_281
  refine jr_ite (fun hs16 => ?_) (fun hs16 => ?_)
  · refine jr_tableIn (off := 231) (tgt := 232) hz d_OP_arrange_1 (by rw [hs16]; decide) (by rw [hs16]; decide) (by rw [hs16]; first | done | decide | rfl) (by decide) ?_
    refine jr_aload_n hz d_OP_arrange_232 rfl 0 rfl ?_
    refine jr_getr (j := 0) (t := 10) hz lq_205 ly_205 rfl wf_OP_9 d_OP_arrange_233 ?_
    refine jr_iconst (v := 2) hz d_OP_arrange_236 (by decide) ?_
    refine jr_callVv (As := [.int 2]) (a := 10) (ci := 1) (st := []) hz (cx_IS_raise l D G hz.2.2.2.2.2.2.1 10 2 X) (fun z h => sp_is_v (xh_k_t h)) wv_OP_86 ⟨rfl, rfl, Nat.le_of_ble_eq_true rfl, Nat.le_of_ble_eq_true rfl⟩ ⟨Nat.zero_le _, Nat.zero_le _⟩ rfl rfl (Nat.le_of_ble_eq_true rfl) d_OP_arrange_237 (fun _ X26 => ?_)
    refine jr_goto (tgt := 281) hz d_OP_arrange_240 (by decide) ?_
    exact jr_vret hz hr hlk d_OP_arrange_281
  refine jr_ite (fun hs17 => ?_) (fun hs17 => ?_)
  · refine jr_tableIn (off := 242) (tgt := 243) hz d_OP_arrange_1 (by rw [hs17]; decide) (by rw [hs17]; decide) (by rw [hs17]; first | done | decide | rfl) (by decide) ?_
    refine jr_aload_n hz d_OP_arrange_243 rfl 0 rfl ?_
    refine jr_getr (j := 0) (t := 10) hz lq_205 ly_205 rfl wf_OP_9 d_OP_arrange_244 ?_
    refine jr_iconst (v := 1) hz d_OP_arrange_247 (by decide) ?_
    refine jr_callVv (As := [.int 1]) (a := 10) (ci := 1) (st := []) hz (cx_IS_raise l D G hz.2.2.2.2.2.2.1 10 1 X) (fun z h => sp_is_v (xh_k_t h)) wv_OP_86 ⟨rfl, rfl, Nat.le_of_ble_eq_true rfl, Nat.le_of_ble_eq_true rfl⟩ ⟨Nat.zero_le _, Nat.zero_le _⟩ rfl rfl (Nat.le_of_ble_eq_true rfl) d_OP_arrange_248 (fun _ X27 => ?_)
    refine jr_goto (tgt := 281) hz d_OP_arrange_251 (by decide) ?_
    exact jr_vret hz hr hlk d_OP_arrange_281
  refine jr_ite (fun hs18 => ?_) (fun hs18 => ?_)
  · refine jr_tableIn (off := 253) (tgt := 254) hz d_OP_arrange_1 (by rw [hs18]; decide) (by rw [hs18]; decide) (by rw [hs18]; first | done | decide | rfl) (by decide) ?_
    refine jr_aload_n hz d_OP_arrange_254 rfl 0 rfl ?_
    refine jr_getr (j := 0) (t := 10) hz lq_205 ly_205 rfl wf_OP_9 d_OP_arrange_255 ?_
    refine jr_iconst (v := 0) hz d_OP_arrange_258 (by decide) ?_
    refine jr_callVv (As := [.int 0]) (a := 10) (ci := 1) (st := []) hz (cx_IS_pushCopy l D G hz.2.2.2.2.2.2.1 10 0 X) (fun z h => sp_is_v (xh_k_t h)) wv_OP_89 ⟨rfl, rfl, Nat.le_of_ble_eq_true rfl, Nat.le_of_ble_eq_true rfl⟩ ⟨Nat.zero_le _, Nat.zero_le _⟩ rfl rfl (Nat.le_of_ble_eq_true rfl) d_OP_arrange_259 (fun _ X28 => ?_)
    refine jr_aload_n hz d_OP_arrange_262 rfl 0 rfl ?_
    refine jr_getr (j := 0) (t := 10) hz lq_205 ly_205 rfl wf_OP_9 d_OP_arrange_263 ?_
    refine jr_iconst (v := 2) hz d_OP_arrange_266 (by decide) ?_
    refine jr_callVv (As := [.int 2]) (a := 10) (ci := 1) (st := []) hz (cx_IS_sinkTop l D G hz.2.2.2.2.2.2.1 10 2 X28) (fun z h => sp_is_v (xh_k_t h)) wv_OP_157 ⟨rfl, rfl, Nat.le_of_ble_eq_true rfl, Nat.le_of_ble_eq_true rfl⟩ ⟨Nat.zero_le _, Nat.zero_le _⟩ rfl rfl (Nat.le_of_ble_eq_true rfl) d_OP_arrange_267 (fun _ X29 => ?_)
    refine jr_goto (tgt := 281) hz d_OP_arrange_270 (by decide) ?_
    exact jr_vret hz hr hlk d_OP_arrange_281
  refine jr_tableOut (tgt := 273) hz d_OP_arrange_1 (by have := lv_neT (k := 107) hs0 (show _ = (107 : Int) by decide); have := lv_neT (k := 108) hs1 (show _ = (108 : Int) by decide); have := lv_neT (k := 109) hs2 (show _ = (109 : Int) by decide); have := lv_neT (k := 110) hs3 (show _ = (110 : Int) by decide); have := lv_neT (k := 111) hs4 (show _ = (111 : Int) by decide); have := lv_neT (k := 112) hs5 (show _ = (112 : Int) by decide); have := lv_neT (k := 113) hs6 (show _ = (113 : Int) by decide); have := lv_neT (k := 114) hs7 (show _ = (114 : Int) by decide); have := lv_neT (k := 115) hs8 (show _ = (115 : Int) by decide); have := lv_neT (k := 116) hs9 (show _ = (116 : Int) by decide); have := lv_neT (k := 117) hs10 (show _ = (117 : Int) by decide); have := lv_neT (k := 118) hs11 (show _ = (118 : Int) by decide); have := lv_neT (k := 119) hs12 (show _ = (119 : Int) by decide); have := lv_neT (k := 120) hs13 (show _ = (120 : Int) by decide); have := lv_neT (k := 121) hs14 (show _ = (121 : Int) by decide); have := lv_neT (k := 122) hs15 (show _ = (122 : Int) by decide); have := lv_neT (k := 123) hs16 (show _ = (123 : Int) by decide); have := lv_neT (k := 124) hs17 (show _ = (124 : Int) by decide); have := lv_neT (k := 125) hs18 (show _ = (125 : Int) by decide); omega) (by decide) ?_
  refine jr_aload_n hz d_OP_arrange_273 rfl 0 rfl ?_
  refine jr_getr (j := 0) (t := 10) hz lq_205 ly_205 rfl wf_OP_9 d_OP_arrange_274 ?_
  refine jr_iconst (v := 1) hz d_OP_arrange_277 (by decide) ?_
  refine jr_callVv (As := [.int 1]) (a := 10) (ci := 1) (st := []) hz (cx_IS_drop l D G hz.2.2.2.2.2.2.1 10 1 X) (fun z h => sp_is_v (xh_k_t h)) wv_OP_69 ⟨rfl, rfl, Nat.le_of_ble_eq_true rfl, Nat.le_of_ble_eq_true rfl⟩ ⟨Nat.zero_le _, Nat.zero_le _⟩ rfl rfl (Nat.le_of_ble_eq_true rfl) d_OP_arrange_278 (fun _ X1 => ?_)
  exact jr_vret hz hr hlk d_OP_arrange_281

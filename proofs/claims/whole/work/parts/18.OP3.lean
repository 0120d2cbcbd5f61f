/-! printed by wip/whole/gen_walks.py -/
theorem d_OP_judge_0 : decode b_OP_judge 0 = .ok (.aload_n 0, 1) := by decide +kernel
theorem d_OP_judge_1 : decode b_OP_judge 1 = .ok (.getfield 9, 3) := by decide +kernel
theorem d_OP_judge_4 : decode b_OP_judge 4 = .ok (.iconst 0, 1) := by decide +kernel
theorem d_OP_judge_5 : decode b_OP_judge 5 = .ok (.invokevirtual 59, 3) := by decide +kernel
theorem d_OP_judge_8 : decode b_OP_judge 8 = .ok (.astore_n 2, 1) := by decide +kernel
theorem d_OP_judge_9 : decode b_OP_judge 9 = .ok (.aload_n 0, 1) := by decide +kernel
theorem d_OP_judge_10 : decode b_OP_judge 10 = .ok (.getfield 9, 3) := by decide +kernel
theorem d_OP_judge_13 : decode b_OP_judge 13 = .ok (.iconst 1, 1) := by decide +kernel
theorem d_OP_judge_14 : decode b_OP_judge 14 = .ok (.invokevirtual 59, 3) := by decide +kernel
theorem d_OP_judge_17 : decode b_OP_judge 17 = .ok (.astore_n 3, 1) := by decide +kernel
theorem d_OP_judge_18 : decode b_OP_judge 18 = .ok (.iload_n 1, 1) := by decide +kernel
theorem d_OP_judge_19 : decode b_OP_judge 19 = .ok (.lookupswitch 99 #[(130, 41), (135, 53), (169, 66), (172, 82)], 41) := by decide +kernel
theorem d_OP_judge_60 : decode b_OP_judge 60 = .ok (.aload_n 0, 1) := by decide +kernel
theorem d_OP_judge_61 : decode b_OP_judge 61 = .ok (.aload_n 2, 1) := by decide +kernel
theorem d_OP_judge_62 : decode b_OP_judge 62 = .ok (.invokevirtual 160, 3) := by decide +kernel
theorem d_OP_judge_65 : decode b_OP_judge 65 = .ok (.i2l, 1) := by decide +kernel
theorem d_OP_judge_66 : decode b_OP_judge 66 = .ok (.invokevirtual 117, 3) := by decide +kernel
theorem d_OP_judge_69 : decode b_OP_judge 69 = .ok (.goto 57, 3) := by decide +kernel
theorem d_OP_judge_72 : decode b_OP_judge 72 = .ok (.aload_n 0, 1) := by decide +kernel
theorem d_OP_judge_73 : decode b_OP_judge 73 = .ok (.iconst 2, 1) := by decide +kernel
theorem d_OP_judge_74 : decode b_OP_judge 74 = .ok (.aload_n 2, 1) := by decide +kernel
theorem d_OP_judge_75 : decode b_OP_judge 75 = .ok (.aload_n 3, 1) := by decide +kernel
theorem d_OP_judge_76 : decode b_OP_judge 76 = .ok (.invokevirtual 153, 3) := by decide +kernel
theorem d_OP_judge_79 : decode b_OP_judge 79 = .ok (.invokevirtual 103, 3) := by decide +kernel
theorem d_OP_judge_82 : decode b_OP_judge 82 = .ok (.goto 44, 3) := by decide +kernel
theorem d_OP_judge_85 : decode b_OP_judge 85 = .ok (.aload_n 2, 1) := by decide +kernel
theorem d_OP_judge_86 : decode b_OP_judge 86 = .ok (.aload_n 2, 1) := by decide +kernel
theorem d_OP_judge_87 : decode b_OP_judge 87 = .ok (.iconst 0, 1) := by decide +kernel
theorem d_OP_judge_88 : decode b_OP_judge 88 = .ok (.aload_n 2, 1) := by decide +kernel
theorem d_OP_judge_89 : decode b_OP_judge 89 = .ok (.invokevirtual 160, 3) := by decide +kernel
theorem d_OP_judge_92 : decode b_OP_judge 92 = .ok (.invokevirtual 161, 3) := by decide +kernel
theorem d_OP_judge_95 : decode b_OP_judge 95 = .ok (.invokevirtual 164, 3) := by decide +kernel
theorem d_OP_judge_98 : decode b_OP_judge 98 = .ok (.goto 28, 3) := by decide +kernel
theorem d_OP_judge_101 : decode b_OP_judge 101 = .ok (.aload_n 0, 1) := by decide +kernel
theorem d_OP_judge_102 : decode b_OP_judge 102 = .ok (.iconst 2, 1) := by decide +kernel
theorem d_OP_judge_103 : decode b_OP_judge 103 = .ok (.aload_n 0, 1) := by decide +kernel
theorem d_OP_judge_104 : decode b_OP_judge 104 = .ok (.getfield 18, 3) := by decide +kernel
theorem d_OP_judge_107 : decode b_OP_judge 107 = .ok (.aload_n 3, 1) := by decide +kernel
theorem d_OP_judge_108 : decode b_OP_judge 108 = .ok (.aload_n 2, 1) := by decide +kernel
theorem d_OP_judge_109 : decode b_OP_judge 109 = .ok (.invokevirtual 107, 3) := by decide +kernel
theorem d_OP_judge_112 : decode b_OP_judge 112 = .ok (.invokevirtual 103, 3) := by decide +kernel
theorem d_OP_judge_115 : decode b_OP_judge 115 = .ok (.goto 11, 3) := by decide +kernel
theorem d_OP_judge_118 : decode b_OP_judge 118 = .ok (.aload_n 0, 1) := by decide +kernel
theorem d_OP_judge_119 : decode b_OP_judge 119 = .ok (.getfield 9, 3) := by decide +kernel
theorem d_OP_judge_122 : decode b_OP_judge 122 = .ok (.iconst 2, 1) := by decide +kernel
theorem d_OP_judge_123 : decode b_OP_judge 123 = .ok (.invokevirtual 69, 3) := by decide +kernel
theorem d_OP_judge_126 : decode b_OP_judge 126 = .ok (.return_, 1) := by decide +kernel
theorem wv_OP_160 : xh_V "SpendScript$Operations" 160 0 y_BS_size b_BS_size 1 (some .int) 0 := ⟨(sp_tb (List.mem_of_getElem? (i := 181) (by decide +kernel))), (sp_tb (List.mem_of_getElem? (i := 2) (by decide +kernel))), (sp_tb (List.mem_of_getElem? (i := 463) (by decide +kernel))), ⟨by decide +kernel, by decide +kernel, by decide +kernel⟩, (sp_tb (List.mem_of_getElem? (i := 179) (by decide +kernel))), (sp_tb (List.mem_of_getElem? (i := 180) (by decide +kernel))), F_BS, 2, rfl⟩
theorem wv_OP_161 : xh_V "SpendScript$Operations" 161 0 y_BS_hash b_BS_hash 5 (some .int) 2 := ⟨(sp_tb (List.mem_of_getElem? (i := 209) (by decide +kernel))), (sp_tb (List.mem_of_getElem? (i := 2) (by decide +kernel))), (sp_tb (List.mem_of_getElem? (i := 464) (by decide +kernel))), ⟨by decide +kernel, by decide +kernel, by decide +kernel⟩, (sp_tb (List.mem_of_getElem? (i := 207) (by decide +kernel))), (sp_tb (List.mem_of_getElem? (i := 208) (by decide +kernel))), F_BS, 2, rfl⟩
theorem wv_OP_164 : xh_V "SpendScript$Operations" 164 0 y_BS_becomeDigest b_BS_becomeDigest 3 none 1 := ⟨(sp_tb (List.mem_of_getElem? (i := 468) (by decide +kernel))), (sp_tb (List.mem_of_getElem? (i := 2) (by decide +kernel))), (sp_tb (List.mem_of_getElem? (i := 465) (by decide +kernel))), ⟨by decide +kernel, by decide +kernel, by decide +kernel⟩, (sp_tb (List.mem_of_getElem? (i := 466) (by decide +kernel))), (sp_tb (List.mem_of_getElem? (i := 467) (by decide +kernel))), F_BS, 2, rfl⟩
abbrev rm_OP_judge : Room := { frames := 3, cells := 0, slots := 0, locals := 128 }
def fx_OP_judge (p1 : Int32) (X : xh_T) : Option (Unit × xh_T) :=
  xh_b (fx_IS_item 10 0 X) (fun (q4 : Nat) (X1 : xh_T) =>
  xh_n q4 (fun q5 : Nat =>
  xh_b (fx_IS_item 10 1 X1) (fun (q9 : Nat) (X2 : xh_T) =>
  xh_n q9 (fun q10 : Nat =>
  if p1 = 130 then
  xh_b (fx_BS_size q5 X2) (fun (r15 : Int32) (X4 : xh_T) =>
  xh_b (fx_OP_pushNumber ((r15 : Int32).toInt64) X4) (fun (_ : Unit) (X5 : xh_T) =>
  some ((), X5)))
  else if p1 = 135 then
  xh_b (fx_BS_sameBytesAs q5 q10 X2) (fun (r24 : Int32) (X6 : xh_T) =>
  xh_b (fx_OP_answer 2 r24 X6) (fun (_ : Unit) (X7 : xh_T) =>
  some ((), X7)))
  else if p1 = 169 then
  xh_b (fx_BS_size q5 X2) (fun (r31 : Int32) (X8 : xh_T) =>
  xh_b (fx_BS_hash q5 0 r31 X8) (fun (r35 : Int32) (X9 : xh_T) =>
  xh_b (fx_BS_becomeDigest q5 r35 X9) (fun (_ : Unit) (X10 : xh_T) =>
  some ((), X10))))
  else if p1 = 172 then
  xh_b (fx_ST_isValid q10 q5 X2) (fun (r44 : Int32) (X11 : xh_T) =>
  xh_b (fx_OP_answer 2 r44 X11) (fun (_ : Unit) (X12 : xh_T) =>
  some ((), X12)))
  else xh_b (fx_IS_drop 10 2 X2) (fun (_ : Unit) (X3 : xh_T) =>
  some ((), X3))))))
set_option maxRecDepth 100000 in
set_option maxHeartbeats 4000000 in
theorem cx_OP_judge (l : Launch) (D : va_G) (G : xh_G) (hD : xh_D G) (p1 : Int32) (X : xh_T) : xh_M xh_Qv l D G y_OP_judge b_OP_judge 4 none rm_OP_judge [.ref (G.1 205), .int p1] X (fx_OP_judge p1 X) := by
  refine xh_enter (ls := [(0, .ref (G.1 205)), (1, .int p1)]) hD (by decide +kernel) (Nat.le_of_ble_eq_true rfl) rfl ?_
  intro p e s m args below meth c hz hr hlk
  unfold fx_OP_judge
  refine jr_aload_n hz d_OP_judge_0 rfl 0 rfl ?_
  refine jr_getr (j := 0) (t := 10) hz lq_205 ly_205 rfl wf_OP_9 d_OP_judge_1 ?_
  refine jr_iconst (v := 0) hz d_OP_judge_4 (by decide) ?_
  refine jr_callVr (As := [.int 0]) (a := 10) (ci := 1) (st := []) hz (cx_IS_item l D G hz.2.2.2.2.2.2.1 10 0 X) (fun z h => sp_is_v (xh_k_t h)) wv_OP_59 ⟨rfl, rfl, Nat.le_of_ble_eq_true rfl, Nat.le_of_ble_eq_true rfl⟩ ⟨Nat.zero_le _, Nat.zero_le _⟩ rfl rfl (Nat.le_of_ble_eq_true rfl) d_OP_judge_5 (fun q4 X1 => ?_)
  refine jr_astore_n (lf := [(0, .ref (G.1 205)), (1, .int p1)]) hz d_OP_judge_8 rfl (by decide) rfl (fun q5 => ?_)
  refine jr_aload_n hz d_OP_judge_9 rfl 1 rfl ?_
  refine jr_getr (j := 0) (t := 10) hz lq_205 ly_205 rfl wf_OP_9 d_OP_judge_10 ?_
  refine jr_iconst (v := 1) hz d_OP_judge_13 (by decide) ?_
  refine jr_callVr (As := [.int 1]) (a := 10) (ci := 1) (st := []) hz (cx_IS_item l D G hz.2.2.2.2.2.2.1 10 1 X1) (fun z h => sp_is_v (xh_k_t h)) wv_OP_59 ⟨rfl, rfl, Nat.le_of_ble_eq_true rfl, Nat.le_of_ble_eq_true rfl⟩ ⟨Nat.zero_le _, Nat.zero_le _⟩ rfl rfl (Nat.le_of_ble_eq_true rfl) d_OP_judge_14 (fun q9 X2 => ?_)
  refine jr_astore_n (lf := [(2, .ref (G.1 q5)), (0, .ref (G.1 205)), (1, .int p1)]) hz d_OP_judge_17 rfl (by decide) rfl (fun q10 => ?_)
  refine jr_iload_n hz d_OP_judge_18 rfl 3 rfl ?_
  refine jr_ite (fun hs0 => ?_) (fun hs0 => ?_)
  · refine jr_lookup (off := 41) (tgt := 60) hz d_OP_judge_19 (by decide) (by rw [hs0]; first | done | decide | rfl) (by decide) ?_
    refine jr_aload_n hz d_OP_judge_60 rfl 2 rfl ?_
    refine jr_aload_n hz d_OP_judge_61 rfl 1 rfl ?_
    refine jr_callVi (As := []) (a := q5) (ci := 0) (st := [.ref (G.1 205)]) hz (cx_BS_size l D G hz.2.2.2.2.2.2.1 q5 X2) (fun z h => sp_bs_v (xh_k_t h)) wv_OP_160 ⟨rfl, rfl, Nat.le_of_ble_eq_true rfl, Nat.le_of_ble_eq_true rfl⟩ ⟨Nat.zero_le _, Nat.zero_le _⟩ rfl rfl (Nat.le_of_ble_eq_true rfl) d_OP_judge_62 (fun r15 X4 => ?_)
    refine jr_i2l hz d_OP_judge_65 ?_
    refine jr_callVv (As := [.long ((r15 : Int32).toInt64)]) (a := 205) (ci := 5) (st := []) hz (cx_OP_pushNumber l D G hz.2.2.2.2.2.2.1 ((r15 : Int32).toInt64) X4) (fun _ _ => ⟨lq_205, _, ly_205⟩) wv_OP_117 ⟨rfl, rfl, Nat.le_of_ble_eq_true rfl, Nat.le_of_ble_eq_true rfl⟩ ⟨Nat.zero_le _, Nat.zero_le _⟩ rfl rfl (Nat.le_of_ble_eq_true rfl) d_OP_judge_66 (fun _ X5 => ?_)
    refine jr_goto (tgt := 126) hz d_OP_judge_69 (by decide) ?_
    exact jr_vret hz hr hlk d_OP_judge_126
  refine jr_ite (fun hs1 => ?_) (fun hs1 => ?_)
  · refine jr_lookup (off := 53) (tgt := 72) hz d_OP_judge_19 (by decide) (by rw [hs1]; first | done | decide | rfl) (by decide) ?_
    refine jr_aload_n hz d_OP_judge_72 rfl 2 rfl ?_
    refine jr_iconst (v := 2) hz d_OP_judge_73 (by decide) ?_
    refine jr_aload_n hz d_OP_judge_74 rfl 1 rfl ?_
    refine jr_aload_n hz d_OP_judge_75 rfl 0 rfl ?_
    refine jr_callVi (As := [.ref (G.1 q10)]) (a := q5) (ci := 0) (st := [.int 2, .ref (G.1 205)]) hz (cx_BS_sameBytesAs l D G hz.2.2.2.2.2.2.1 q5 q10 X2) (fun z h => sp_bs_v (xh_k_t h)) wv_OP_153 ⟨rfl, rfl, Nat.le_of_ble_eq_true rfl, Nat.le_of_ble_eq_true rfl⟩ ⟨Nat.zero_le _, Nat.zero_le _⟩ rfl rfl (Nat.le_of_ble_eq_true rfl) d_OP_judge_76 (fun r24 X6 => ?_)
    refine jr_callVv (As := [.int 2, .int r24]) (a := 205) (ci := 5) (st := []) hz (cx_OP_answer l D G hz.2.2.2.2.2.2.1 2 r24 X6) (fun _ _ => ⟨lq_205, _, ly_205⟩) wv_OP_103 ⟨rfl, rfl, Nat.le_of_ble_eq_true rfl, Nat.le_of_ble_eq_true rfl⟩ ⟨Nat.zero_le _, Nat.zero_le _⟩ rfl rfl (Nat.le_of_ble_eq_true rfl) d_OP_judge_79 (fun _ X7 => ?_)
    refine jr_goto (tgt := 126) hz d_OP_judge_82 (by decide) ?_
    exact jr_vret hz hr hlk d_OP_judge_126
  refine jr_ite (fun hs2 => ?_) (fun hs2 => ?_)
  · refine jr_lookup (off := 66) (tgt := 85) hz d_OP_judge_19 (by decide) (by rw [hs2]; first | done | decide | rfl) (by decide) ?_
    refine jr_aload_n hz d_OP_judge_85 rfl 1 rfl ?_
    refine jr_aload_n hz d_OP_judge_86 rfl 1 rfl ?_
    refine jr_iconst (v := 0) hz d_OP_judge_87 (by decide) ?_
    refine jr_aload_n hz d_OP_judge_88 rfl 1 rfl ?_
    refine jr_callVi (As := []) (a := q5) (ci := 0) (st := [.int 0, .ref (G.1 q5), .ref (G.1 q5)]) hz (cx_BS_size l D G hz.2.2.2.2.2.2.1 q5 X2) (fun z h => sp_bs_v (xh_k_t h)) wv_OP_160 ⟨rfl, rfl, Nat.le_of_ble_eq_true rfl, Nat.le_of_ble_eq_true rfl⟩ ⟨Nat.zero_le _, Nat.zero_le _⟩ rfl rfl (Nat.le_of_ble_eq_true rfl) d_OP_judge_89 (fun r31 X8 => ?_)
    refine jr_callVi (As := [.int 0, .int r31]) (a := q5) (ci := 0) (st := [.ref (G.1 q5)]) hz (cx_BS_hash l D G hz.2.2.2.2.2.2.1 q5 0 r31 X8) (fun z h => sp_bs_v (xh_k_t h)) wv_OP_161 ⟨rfl, rfl, Nat.le_of_ble_eq_true rfl, Nat.le_of_ble_eq_true rfl⟩ ⟨Nat.zero_le _, Nat.zero_le _⟩ rfl rfl (Nat.le_of_ble_eq_true rfl) d_OP_judge_92 (fun r35 X9 => ?_)
    refine jr_callVv (As := [.int r35]) (a := q5) (ci := 0) (st := []) hz (cx_BS_becomeDigest l D G hz.2.2.2.2.2.2.1 q5 r35 X9) (fun z h => sp_bs_v (xh_k_t h)) wv_OP_164 ⟨rfl, rfl, Nat.le_of_ble_eq_true rfl, Nat.le_of_ble_eq_true rfl⟩ ⟨Nat.zero_le _, Nat.zero_le _⟩ rfl rfl (Nat.le_of_ble_eq_true rfl) d_OP_judge_95 (fun _ X10 => ?_)
    refine jr_goto (tgt := 126) hz d_OP_judge_98 (by decide) ?_
    exact jr_vret hz hr hlk d_OP_judge_126
  refine jr_ite (fun hs3 => ?_) (fun hs3 => ?_)
  · refine jr_lookup (off := 82) (tgt := 101) hz d_OP_judge_19 (by decide) (by rw [hs3]; first | done | decide | rfl) (by decide) ?_
    refine jr_aload_n hz d_OP_judge_101 rfl 2 rfl ?_
    refine jr_iconst (v := 2) hz d_OP_judge_102 (by decide) ?_
    refine jr_aload_n hz d_OP_judge_103 rfl 2 rfl ?_
    refine jr_getr (j := 2) (t := 7) hz lq_205 ly_205 rfl wf_OP_18 d_OP_judge_104 ?_
    refine jr_aload_n hz d_OP_judge_107 rfl 0 rfl ?_
    refine jr_aload_n hz d_OP_judge_108 rfl 1 rfl ?_
    refine jr_callVi (As := [.ref (G.1 q10), .ref (G.1 q5)]) (a := 7) (ci := 2) (st := [.int 2, .ref (G.1 205)]) hz (cx_ST_isValid l D G hz.2.2.2.2.2.2.1 q10 q5 X2) (fun _ _ => ⟨lq_7, _, ly_7⟩) wv_OP_107 ⟨rfl, rfl, Nat.le_of_ble_eq_true rfl, Nat.le_of_ble_eq_true rfl⟩ ⟨Nat.zero_le _, Nat.zero_le _⟩ rfl rfl (Nat.le_of_ble_eq_true rfl) d_OP_judge_109 (fun r44 X11 => ?_)
    refine jr_callVv (As := [.int 2, .int r44]) (a := 205) (ci := 5) (st := []) hz (cx_OP_answer l D G hz.2.2.2.2.2.2.1 2 r44 X11) (fun _ _ => ⟨lq_205, _, ly_205⟩) wv_OP_103 ⟨rfl, rfl, Nat.le_of_ble_eq_true rfl, Nat.le_of_ble_eq_true rfl⟩ ⟨Nat.zero_le _, Nat.zero_le _⟩ rfl rfl (Nat.le_of_ble_eq_true rfl) d_OP_judge_112 (fun _ X12 => ?_)
    refine jr_goto (tgt := 126) hz d_OP_judge_115 (by decide) ?_
    exact jr_vret hz hr hlk d_OP_judge_126
  refine jr_lookup (off := 99) (tgt := 118) hz d_OP_judge_19 (by decide) (by show Op.lookupswitch.offset [(130, 41), (135, 53), (169, 66), (172, 82)] 99 _ = 99; rw [lv_osw hs0 (k := 130) (by decide), lv_osw hs1 (k := 135) (by decide), lv_osw hs2 (k := 169) (by decide), lv_osw hs3 (k := 172) (by decide)]; first | done | rfl) (by decide) ?_
  refine jr_aload_n hz d_OP_judge_118 rfl 2 rfl ?_
  refine jr_getr (j := 0) (t := 10) hz lq_205 ly_205 rfl wf_OP_9 d_OP_judge_119 ?_
  refine jr_iconst (v := 2) hz d_OP_judge_122 (by decide) ?_
  refine jr_callVv (As := [.int 2]) (a := 10) (ci := 1) (st := []) hz (cx_IS_drop l D G hz.2.2.2.2.2.2.1 10 2 X2) (fun z h => sp_is_v (xh_k_t h)) wv_OP_69 ⟨rfl, rfl, Nat.le_of_ble_eq_true rfl, Nat.le_of_ble_eq_true rfl⟩ ⟨Nat.zero_le _, Nat.zero_le _⟩ rfl rfl (Nat.le_of_ble_eq_true rfl) d_OP_judge_123 (fun _ X3 => ?_)
  exact jr_vret hz hr hlk d_OP_judge_126
theorem d_OP_operate_0 : decode b_OP_operate 0 = .ok (.iload_n 1, 1) := by decide +kernel
theorem d_OP_operate_1 : decode b_OP_operate 1 = .ok (.sipush 139, 3) := by decide +kernel
theorem d_OP_operate_4 : decode b_OP_operate 4 = .ok (.if_icmp .lt 16, 3) := by decide +kernel
theorem d_OP_operate_7 : decode b_OP_operate 7 = .ok (.iload_n 1, 1) := by decide +kernel
theorem d_OP_operate_8 : decode b_OP_operate 8 = .ok (.sipush 165, 3) := by decide +kernel
theorem d_OP_operate_11 : decode b_OP_operate 11 = .ok (.if_icmp .gt 9, 3) := by decide +kernel
theorem d_OP_operate_14 : decode b_OP_operate 14 = .ok (.aload_n 0, 1) := by decide +kernel
theorem d_OP_operate_15 : decode b_OP_operate 15 = .ok (.iload_n 1, 1) := by decide +kernel
theorem d_OP_operate_16 : decode b_OP_operate 16 = .ok (.invokevirtual 22, 3) := by decide +kernel
theorem d_OP_operate_19 : decode b_OP_operate 19 = .ok (.ireturn, 1) := by decide +kernel
theorem d_OP_operate_20 : decode b_OP_operate 20 = .ok (.iload_n 1, 1) := by decide +kernel
theorem d_OP_operate_21 : decode b_OP_operate 21 = .ok (.lookupswitch 90 #[(97, 59), (106, 61), (108, 64), (121, 69), (122, 69), (174, 85)], 59) := by decide +kernel
theorem d_OP_operate_80 : decode b_OP_operate 80 = .ok (.iconst 0, 1) := by decide +kernel
theorem d_OP_operate_81 : decode b_OP_operate 81 = .ok (.ireturn, 1) := by decide +kernel
theorem d_OP_operate_82 : decode b_OP_operate 82 = .ok (.bipush 10, 2) := by decide +kernel
theorem d_OP_operate_84 : decode b_OP_operate 84 = .ok (.ireturn, 1) := by decide +kernel
theorem d_OP_operate_85 : decode b_OP_operate 85 = .ok (.aload_n 0, 1) := by decide +kernel
theorem d_OP_operate_86 : decode b_OP_operate 86 = .ok (.invokevirtual 28, 3) := by decide +kernel
theorem d_OP_operate_89 : decode b_OP_operate 89 = .ok (.ireturn, 1) := by decide +kernel
theorem d_OP_operate_90 : decode b_OP_operate 90 = .ok (.aload_n 0, 1) := by decide +kernel
theorem d_OP_operate_91 : decode b_OP_operate 91 = .ok (.iload_n 1, 1) := by decide +kernel
theorem d_OP_operate_92 : decode b_OP_operate 92 = .ok (.bipush 122, 2) := by decide +kernel
theorem d_OP_operate_94 : decode b_OP_operate 94 = .ok (.if_icmp .ne 7, 3) := by decide +kernel
theorem d_OP_operate_97 : decode b_OP_operate 97 = .ok (.iconst 1, 1) := by decide +kernel
theorem d_OP_operate_98 : decode b_OP_operate 98 = .ok (.goto 4, 3) := by decide +kernel
theorem d_OP_operate_101 : decode b_OP_operate 101 = .ok (.iconst 0, 1) := by decide +kernel
theorem d_OP_operate_102 : decode b_OP_operate 102 = .ok (.invokevirtual 32, 3) := by decide +kernel
theorem d_OP_operate_105 : decode b_OP_operate 105 = .ok (.ireturn, 1) := by decide +kernel
theorem d_OP_operate_106 : decode b_OP_operate 106 = .ok (.aload_n 0, 1) := by decide +kernel
theorem d_OP_operate_107 : decode b_OP_operate 107 = .ok (.invokevirtual 36, 3) := by decide +kernel
theorem d_OP_operate_110 : decode b_OP_operate 110 = .ok (.ireturn, 1) := by decide +kernel
theorem d_OP_operate_111 : decode b_OP_operate 111 = .ok (.aload_n 0, 1) := by decide +kernel
theorem d_OP_operate_112 : decode b_OP_operate 112 = .ok (.iload_n 1, 1) := by decide +kernel
theorem d_OP_operate_113 : decode b_OP_operate 113 = .ok (.invokevirtual 39, 3) := by decide +kernel
theorem d_OP_operate_116 : decode b_OP_operate 116 = .ok (.istore_n 2, 1) := by decide +kernel
theorem d_OP_operate_117 : decode b_OP_operate 117 = .ok (.iload_n 2, 1) := by decide +kernel
theorem d_OP_operate_118 : decode b_OP_operate 118 = .ok (.ifCond .ne 17, 3) := by decide +kernel
theorem d_OP_operate_121 : decode b_OP_operate 121 = .ok (.iload_n 1, 1) := by decide +kernel
theorem d_OP_operate_122 : decode b_OP_operate 122 = .ok (.bipush 125, 2) := by decide +kernel
theorem d_OP_operate_124 : decode b_OP_operate 124 = .ok (.if_icmp .gt 11, 3) := by decide +kernel
theorem d_OP_operate_127 : decode b_OP_operate 127 = .ok (.aload_n 0, 1) := by decide +kernel
theorem d_OP_operate_128 : decode b_OP_operate 128 = .ok (.iload_n 1, 1) := by decide +kernel
theorem d_OP_operate_129 : decode b_OP_operate 129 = .ok (.invokevirtual 42, 3) := by decide +kernel
theorem d_OP_operate_132 : decode b_OP_operate 132 = .ok (.goto 12, 3) := by decide +kernel
theorem d_OP_operate_135 : decode b_OP_operate 135 = .ok (.iload_n 2, 1) := by decide +kernel
theorem d_OP_operate_136 : decode b_OP_operate 136 = .ok (.ifCond .ne 8, 3) := by decide +kernel
theorem d_OP_operate_139 : decode b_OP_operate 139 = .ok (.aload_n 0, 1) := by decide +kernel
theorem d_OP_operate_140 : decode b_OP_operate 140 = .ok (.iload_n 1, 1) := by decide +kernel
theorem d_OP_operate_141 : decode b_OP_operate 141 = .ok (.invokevirtual 46, 3) := by decide +kernel
theorem d_OP_operate_144 : decode b_OP_operate 144 = .ok (.iload_n 2, 1) := by decide +kernel
theorem d_OP_operate_145 : decode b_OP_operate 145 = .ok (.ireturn, 1) := by decide +kernel
theorem wv_OP_22 : xh_V "SpendScript$Operations" 22 5 y_OP_calculate b_OP_calculate 9 (some .int) 1 := ⟨(sp_tb (List.mem_of_getElem? (i := 336) (by decide +kernel))), (sp_tb (List.mem_of_getElem? (i := 7) (by decide +kernel))), (sp_tb (List.mem_of_getElem? (i := 333) (by decide +kernel))), ⟨by decide +kernel, by decide +kernel, by decide +kernel⟩, (sp_tb (List.mem_of_getElem? (i := 335) (by decide +kernel))), (sp_pv (q := (y_OP_calculate, 3)) (List.mem_of_getElem? (i := 6) (by decide +kernel))), F_OP, 3, rfl⟩
theorem wv_OP_39 : xh_V "SpendScript$Operations" 39 5 y_OP_itemsFault b_OP_itemsFault 3 (some .int) 1 := ⟨(sp_tb (List.mem_of_getElem? (i := 434) (by decide +kernel))), (sp_tb (List.mem_of_getElem? (i := 7) (by decide +kernel))), (sp_tb (List.mem_of_getElem? (i := 431) (by decide +kernel))), ⟨by decide +kernel, by decide +kernel, by decide +kernel⟩, (sp_tb (List.mem_of_getElem? (i := 433) (by decide +kernel))), (sp_pv (q := (y_OP_itemsFault, 3)) (List.mem_of_getElem? (i := 15) (by decide +kernel))), F_OP, 3, rfl⟩
theorem wv_OP_42 : xh_V "SpendScript$Operations" 42 5 y_OP_arrange b_OP_arrange 2 none 1 := ⟨(sp_tb (List.mem_of_getElem? (i := 454) (by decide +kernel))), (sp_tb (List.mem_of_getElem? (i := 7) (by decide +kernel))), (sp_tb (List.mem_of_getElem? (i := 451) (by decide +kernel))), ⟨by decide +kernel, by decide +kernel, by decide +kernel⟩, (sp_tb (List.mem_of_getElem? (i := 453) (by decide +kernel))), (sp_pv (q := (y_OP_arrange, 3)) (List.mem_of_getElem? (i := 18) (by decide +kernel))), F_OP, 3, rfl⟩
theorem wv_OP_28 : xh_V "SpendScript$Operations" 28 5 y_OP_fetchFromSecond b_OP_fetchFromSecond 1 (some .int) 0 := ⟨(sp_tb (List.mem_of_getElem? (i := 379) (by decide +kernel))), (sp_tb (List.mem_of_getElem? (i := 7) (by decide +kernel))), (sp_tb (List.mem_of_getElem? (i := 376) (by decide +kernel))), ⟨by decide +kernel, by decide +kernel, by decide +kernel⟩, (sp_tb (List.mem_of_getElem? (i := 378) (by decide +kernel))), (sp_pv (q := (y_OP_fetchFromSecond, 3)) (List.mem_of_getElem? (i := 9) (by decide +kernel))), F_OP, 3, rfl⟩
theorem wv_OP_36 : xh_V "SpendScript$Operations" 36 5 y_OP_checkSeveralSignatures b_OP_checkSeveralSignatures 5 (some .int) 0 := ⟨(sp_tb (List.mem_of_getElem? (i := 412) (by decide +kernel))), (sp_tb (List.mem_of_getElem? (i := 7) (by decide +kernel))), (sp_tb (List.mem_of_getElem? (i := 409) (by decide +kernel))), ⟨by decide +kernel, by decide +kernel, by decide +kernel⟩, (sp_tb (List.mem_of_getElem? (i := 411) (by decide +kernel))), (sp_pv (q := (y_OP_checkSeveralSignatures, 3)) (List.mem_of_getElem? (i := 12) (by decide +kernel))), F_OP, 3, rfl⟩
theorem wv_OP_46 : xh_V "SpendScript$Operations" 46 5 y_OP_judge b_OP_judge 4 none 1 := ⟨(sp_tb (List.mem_of_getElem? (i := 462) (by decide +kernel))), (sp_tb (List.mem_of_getElem? (i := 7) (by decide +kernel))), (sp_tb (List.mem_of_getElem? (i := 459) (by decide +kernel))), ⟨by decide +kernel, by decide +kernel, by decide +kernel⟩, (sp_tb (List.mem_of_getElem? (i := 461) (by decide +kernel))), (sp_pv (q := (y_OP_judge, 3)) (List.mem_of_getElem? (i := 19) (by decide +kernel))), F_OP, 3, rfl⟩
theorem wv_OP_32 : xh_V "SpendScript$Operations" 32 5 y_OP_pick b_OP_pick 4 (some .int) 1 := ⟨(sp_tb (List.mem_of_getElem? (i := 390) (by decide +kernel))), (sp_tb (List.mem_of_getElem? (i := 7) (by decide +kernel))), (sp_tb (List.mem_of_getElem? (i := 387) (by decide +kernel))), ⟨by decide +kernel, by decide +kernel, by decide +kernel⟩, (sp_tb (List.mem_of_getElem? (i := 389) (by decide +kernel))), (sp_pv (q := (y_OP_pick, 3)) (List.mem_of_getElem? (i := 10) (by decide +kernel))), F_OP, 3, rfl⟩
abbrev rm_OP_operate : Room := { frames := 4, cells := 0, slots := 0, locals := 156 }
def fx_OP_operate_b135 (a1 : Int32) (a2 : Int32) (X : xh_T) : Option (Int32 × xh_T) :=
  if a2 = 0 then
  xh_b (fx_OP_judge a1 X) (fun (_ : Unit) (X6 : xh_T) =>
  some (a2, X6))
  else some (a2, X)
set_option maxRecDepth 100000 in
set_option maxHeartbeats 4000000 in
theorem jb_OP_operate_b135 {p : Program} {l : Launch} {e : Env} {s : State} {m : MethodId} {args : Array Value} {below : List Frame} {meth : Method} {c : Code} {D : va_G} {G : xh_G} (hz : xh_C p s m args c b_OP_operate 3 "SpendScript$Operations" D G (xh_A G s.heap.size)) (hr : meth.sig.returnType = (some .int)) (hlk : meth.locks = false) (a1 : Int32) (a2 : Int32) (X : xh_T) : xh_J p l e rm_OP_operate s m args below meth c 0 0 D G (xh_A G s.heap.size) 3 (fun r X' => MQ below (xh_Qi D G (xh_A G s.heap.size) r X') args s 0 0 (xh_A G s.heap.size)) 135 [(0, .ref (G.1 205)), (1, .int a1), (2, .int a2)] [] X (fx_OP_operate_b135 a1 a2 X) := by
  unfold fx_OP_operate_b135
  refine jr_iload_n hz d_OP_operate_135 rfl 2 rfl ?_
  refine jr_if_ne (tgt := 144) hz d_OP_operate_136 (by decide) ?_ ?_
  · refine jr_iload_n hz d_OP_operate_144 rfl 2 rfl ?_
    exact jr_iret hz hr hlk d_OP_operate_145
  · refine jr_aload_n hz d_OP_operate_139 rfl 0 rfl ?_
    refine jr_iload_n hz d_OP_operate_140 rfl 1 rfl ?_
    refine jr_callVv (As := [.int a1]) (a := 205) (ci := 5) (st := []) hz (cx_OP_judge l D G hz.2.2.2.2.2.2.1 a1 X) (fun _ _ => ⟨lq_205, _, ly_205⟩) wv_OP_46 ⟨rfl, rfl, Nat.le_of_ble_eq_true rfl, Nat.le_of_ble_eq_true rfl⟩ ⟨Nat.zero_le _, Nat.zero_le _⟩ rfl rfl (Nat.le_of_ble_eq_true rfl) d_OP_operate_141 (fun _ X6 => ?_)
    refine jr_iload_n hz d_OP_operate_144 rfl 2 rfl ?_
    exact jr_iret hz hr hlk d_OP_operate_145
def fx_OP_operate_b102 (s0 : Int32) (X : xh_T) : Option (Int32 × xh_T) :=
  xh_b (fx_OP_pick s0 X) (fun (r26 : Int32) (X7 : xh_T) =>
  some (r26, X7))
set_option maxRecDepth 100000 in
set_option maxHeartbeats 4000000 in
theorem jb_OP_operate_b102 {p : Program} {l : Launch} {e : Env} {s : State} {m : MethodId} {args : Array Value} {below : List Frame} {meth : Method} {c : Code} {D : va_G} {G : xh_G} (hz : xh_C p s m args c b_OP_operate 3 "SpendScript$Operations" D G (xh_A G s.heap.size)) (hr : meth.sig.returnType = (some .int)) (hlk : meth.locks = false) (s0 : Int32) (X : xh_T) : xh_J p l e rm_OP_operate s m args below meth c 0 0 D G (xh_A G s.heap.size) 3 (fun r X' => MQ below (xh_Qi D G (xh_A G s.heap.size) r X') args s 0 0 (xh_A G s.heap.size)) 102 [] [.int s0, .ref (G.1 205)] X (fx_OP_operate_b102 s0 X) := by
  unfold fx_OP_operate_b102
  refine jr_callVi (As := [.int s0]) (a := 205) (ci := 5) (st := []) hz (cx_OP_pick l D G hz.2.2.2.2.2.2.1 s0 X) (fun _ _ => ⟨lq_205, _, ly_205⟩) wv_OP_32 ⟨rfl, rfl, Nat.le_of_ble_eq_true rfl, Nat.le_of_ble_eq_true rfl⟩ ⟨Nat.zero_le _, Nat.zero_le _⟩ rfl rfl (Nat.le_of_ble_eq_true rfl) d_OP_operate_102 (fun r26 X7 => ?_)
  exact jr_iret hz hr hlk d_OP_operate_105
def fx_OP_operate_b20 (a1 : Int32) (X : xh_T) : Option (Int32 × xh_T) :=
  if a1 = 97 then
  some (0, X)
  else if a1 = 106 then
  some (10, X)
  else if a1 = 108 then
  xh_b (fx_OP_fetchFromSecond X) (fun (r14 : Int32) (X4 : xh_T) =>
  some (r14, X4))
  else if a1 = 121 then
  if a1 = 122 then
  fx_OP_operate_b102 1 X
  else fx_OP_operate_b102 0 X
  else if a1 = 122 then
  if a1 = 122 then
  fx_OP_operate_b102 1 X
  else fx_OP_operate_b102 0 X
  else if a1 = 174 then
  xh_b (fx_OP_checkSeveralSignatures X) (fun (r18 : Int32) (X5 : xh_T) =>
  some (r18, X5))
  else xh_b (fx_OP_itemsFault a1 X) (fun (r5 : Int32) (X2 : xh_T) =>
  xh_n r5 (fun v9 : Int32 =>
  if v9 = 0 then
  if 125 < a1 then
  fx_OP_operate_b135 a1 v9 X2
  else xh_b (fx_OP_arrange a1 X2) (fun (_ : Unit) (X3 : xh_T) =>
  some (v9, X3))
  else fx_OP_operate_b135 a1 v9 X2))
set_option maxRecDepth 100000 in
set_option maxHeartbeats 4000000 in
theorem jb_OP_operate_b20 {p : Program} {l : Launch} {e : Env} {s : State} {m : MethodId} {args : Array Value} {below : List Frame} {meth : Method} {c : Code} {D : va_G} {G : xh_G} (hz : xh_C p s m args c b_OP_operate 3 "SpendScript$Operations" D G (xh_A G s.heap.size)) (hr : meth.sig.returnType = (some .int)) (hlk : meth.locks = false) (a1 : Int32) (X : xh_T) : xh_J p l e rm_OP_operate s m args below meth c 0 0 D G (xh_A G s.heap.size) 3 (fun r X' => MQ below (xh_Qi D G (xh_A G s.heap.size) r X') args s 0 0 (xh_A G s.heap.size)) 20 [(0, .ref (G.1 205)), (1, .int a1)] [] X (fx_OP_operate_b20 a1 X) := by
  unfold fx_OP_operate_b20
  refine jr_iload_n hz d_OP_operate_20 rfl 1 rfl ?_
  refine jr_ite (fun hs0 => ?_) (fun hs0 => ?_)
  · refine jr_lookup (off := 59) (tgt := 80) hz d_OP_operate_21 (by decide) (by rw [hs0]; first | done | decide | rfl) (by decide) ?_
    refine jr_iconst (v := 0) hz d_OP_operate_80 (by decide) ?_
    exact jr_iret hz hr hlk d_OP_operate_81
  refine jr_ite (fun hs1 => ?_) (fun hs1 => ?_)
  · refine jr_lookup (off := 61) (tgt := 82) hz d_OP_operate_21 (by decide) (by rw [hs1]; first | done | decide | rfl) (by decide) ?_
    refine jr_bipush (v := 10) hz d_OP_operate_82 (by decide) ?_
    exact jr_iret hz hr hlk d_OP_operate_84
  refine jr_ite (fun hs2 => ?_) (fun hs2 => ?_)
  · refine jr_lookup (off := 64) (tgt := 85) hz d_OP_operate_21 (by decide) (by rw [hs2]; first | done | decide | rfl) (by decide) ?_
    refine jr_aload_n hz d_OP_operate_85 rfl 0 rfl ?_
    refine jr_callVi (As := []) (a := 205) (ci := 5) (st := []) hz (cx_OP_fetchFromSecond l D G hz.2.2.2.2.2.2.1 X) (fun _ _ => ⟨lq_205, _, ly_205⟩) wv_OP_28 ⟨rfl, rfl, Nat.le_of_ble_eq_true rfl, Nat.le_of_ble_eq_true rfl⟩ ⟨Nat.zero_le _, Nat.zero_le _⟩ rfl rfl (Nat.le_of_ble_eq_true rfl) d_OP_operate_86 (fun r14 X4 => ?_)
    exact jr_iret hz hr hlk d_OP_operate_89
  refine jr_ite (fun hs3 => ?_) (fun hs3 => ?_)
  · refine jr_lookup (off := 69) (tgt := 90) hz d_OP_operate_21 (by decide) (by rw [hs3]; first | done | decide | rfl) (by decide) ?_
    refine jr_aload_n hz d_OP_operate_90 rfl 0 rfl ?_
    refine jr_iload_n hz d_OP_operate_91 rfl 1 rfl ?_
    refine jr_bipush (v := 122) hz d_OP_operate_92 (by decide) ?_
    refine jr_icmp_ne (tgt := 101) hz d_OP_operate_94 (by decide) ?_ ?_
    · refine jr_iconst (v := 0) hz d_OP_operate_101 (by decide) ?_
      refine jr_sub (ls' := []) [] rfl ?_
      exact jb_OP_operate_b102 hz hr hlk 0 X
    · refine jr_iconst (v := 1) hz d_OP_operate_97 (by decide) ?_
      refine jr_goto (tgt := 102) hz d_OP_operate_98 (by decide) ?_
      refine jr_sub (ls' := []) [] rfl ?_
      exact jb_OP_operate_b102 hz hr hlk 1 X
  refine jr_ite (fun hs4 => ?_) (fun hs4 => ?_)
  · refine jr_lookup (off := 69) (tgt := 90) hz d_OP_operate_21 (by decide) (by rw [hs4]; first | done | decide | rfl) (by decide) ?_
    refine jr_aload_n hz d_OP_operate_90 rfl 0 rfl ?_
    refine jr_iload_n hz d_OP_operate_91 rfl 1 rfl ?_
    refine jr_bipush (v := 122) hz d_OP_operate_92 (by decide) ?_
    refine jr_icmp_ne (tgt := 101) hz d_OP_operate_94 (by decide) ?_ ?_
    · refine jr_iconst (v := 0) hz d_OP_operate_101 (by decide) ?_
      refine jr_sub (ls' := []) [] rfl ?_
      exact jb_OP_operate_b102 hz hr hlk 0 X
    · refine jr_iconst (v := 1) hz d_OP_operate_97 (by decide) ?_
      refine jr_goto (tgt := 102) hz d_OP_operate_98 (by decide) ?_
      refine jr_sub (ls' := []) [] rfl ?_
      exact jb_OP_operate_b102 hz hr hlk 1 X
  refine jr_ite (fun hs5 => ?_) (fun hs5 => ?_)
  · refine jr_lookup (off := 85) (tgt := 106) hz d_OP_operate_21 (by decide) (by rw [hs5]; first | done | decide | rfl) (by decide) ?_
    refine jr_aload_n hz d_OP_operate_106 rfl 0 rfl ?_
    refine jr_callVi (As := []) (a := 205) (ci := 5) (st := []) hz (cx_OP_checkSeveralSignatures l D G hz.2.2.2.2.2.2.1 X) (fun _ _ => ⟨lq_205, _, ly_205⟩) wv_OP_36 ⟨rfl, rfl, Nat.le_of_ble_eq_true rfl, Nat.le_of_ble_eq_true rfl⟩ ⟨Nat.zero_le _, Nat.zero_le _⟩ rfl rfl (Nat.le_of_ble_eq_true rfl) d_OP_operate_107 (fun r18 X5 => ?_)
    exact jr_iret hz hr hlk d_OP_operate_110
  refine jr_lookup (off := 90) (tgt := 111) hz d_OP_operate_21 (by decide) (by show Op.lookupswitch.offset [(97, 59), (106, 61), (108, 64), (121, 69), (122, 69), (174, 85)] 90 _ = 90; rw [lv_osw hs0 (k := 97) (by decide), lv_osw hs1 (k := 106) (by decide), lv_osw hs2 (k := 108) (by decide), lv_osw hs3 (k := 121) (by decide), lv_osw hs4 (k := 122) (by decide), lv_osw hs5 (k := 174) (by decide)]; first | done | rfl) (by decide) ?_
  refine jr_aload_n hz d_OP_operate_111 rfl 0 rfl ?_
  refine jr_iload_n hz d_OP_operate_112 rfl 1 rfl ?_
  refine jr_callVi (As := [.int a1]) (a := 205) (ci := 5) (st := []) hz (cx_OP_itemsFault l D G hz.2.2.2.2.2.2.1 a1 X) (fun _ _ => ⟨lq_205, _, ly_205⟩) wv_OP_39 ⟨rfl, rfl, Nat.le_of_ble_eq_true rfl, Nat.le_of_ble_eq_true rfl⟩ ⟨Nat.zero_le _, Nat.zero_le _⟩ rfl rfl (Nat.le_of_ble_eq_true rfl) d_OP_operate_113 (fun r5 X2 => ?_)
  refine jr_istore_n (lf := [(0, .ref (G.1 205)), (1, .int a1)]) hz d_OP_operate_116 rfl (by decide) rfl (fun v9 => ?_)
  refine jr_iload_n hz d_OP_operate_117 rfl 0 rfl ?_
  refine jr_if_ne (tgt := 135) hz d_OP_operate_118 (by decide) ?_ ?_
  · refine jr_sub (ls' := [(0, .ref (G.1 205)), (1, .int a1), (2, .int v9)]) [1, 2, 0] rfl ?_
    exact jb_OP_operate_b135 hz hr hlk a1 v9 X2
  · refine jr_iload_n hz d_OP_operate_121 rfl 2 rfl ?_
    refine jr_bipush (v := 125) hz d_OP_operate_122 (by decide) ?_
    refine jr_icmp_gt (tgt := 135) hz d_OP_operate_124 (by decide) ?_ ?_
    · refine jr_sub (ls' := [(0, .ref (G.1 205)), (1, .int a1), (2, .int v9)]) [1, 2, 0] rfl ?_
      exact jb_OP_operate_b135 hz hr hlk a1 v9 X2
    · refine jr_aload_n hz d_OP_operate_127 rfl 1 rfl ?_
      refine jr_iload_n hz d_OP_operate_128 rfl 2 rfl ?_
      refine jr_callVv (As := [.int a1]) (a := 205) (ci := 5) (st := []) hz (cx_OP_arrange l D G hz.2.2.2.2.2.2.1 a1 X2) (fun _ _ => ⟨lq_205, _, ly_205⟩) wv_OP_42 ⟨rfl, rfl, Nat.le_of_ble_eq_true rfl, Nat.le_of_ble_eq_true rfl⟩ ⟨Nat.zero_le _, Nat.zero_le _⟩ rfl rfl (Nat.le_of_ble_eq_true rfl) d_OP_operate_129 (fun _ X3 => ?_)
      refine jr_goto (tgt := 144) hz d_OP_operate_132 (by decide) ?_
      refine jr_iload_n hz d_OP_operate_144 rfl 0 rfl ?_
      exact jr_iret hz hr hlk d_OP_operate_145
def fx_OP_operate (p1 : Int32) (X : xh_T) : Option (Int32 × xh_T) :=
  if p1 < 139 then
  fx_OP_operate_b20 p1 X
  else if 165 < p1 then
  fx_OP_operate_b20 p1 X
  else xh_b (fx_OP_calculate p1 X) (fun (r1 : Int32) (X1 : xh_T) =>
  some (r1, X1))
set_option maxRecDepth 100000 in
set_option maxHeartbeats 4000000 in
theorem cx_OP_operate (l : Launch) (D : va_G) (G : xh_G) (hD : xh_D G) (p1 : Int32) (X : xh_T) : xh_M xh_Qi l D G y_OP_operate b_OP_operate 3 (some .int) rm_OP_operate [.ref (G.1 205), .int p1] X (fx_OP_operate p1 X) := by
  refine xh_enter (ls := [(0, .ref (G.1 205)), (1, .int p1)]) hD (by decide +kernel) (Nat.le_of_ble_eq_true rfl) rfl ?_
  intro p e s m args below meth c hz hr hlk
  unfold fx_OP_operate
  refine jr_iload_n hz d_OP_operate_0 rfl 1 rfl ?_
  refine jr_sipush (v := 139) hz d_OP_operate_1 (by decide) ?_
  refine jr_icmp_lt (tgt := 20) hz d_OP_operate_4 (by decide) ?_ ?_
  · refine jr_sub (ls' := [(0, .ref (G.1 205)), (1, .int p1)]) [0, 1] rfl ?_
    exact jb_OP_operate_b20 hz hr hlk p1 X
  · refine jr_iload_n hz d_OP_operate_7 rfl 1 rfl ?_
    refine jr_sipush (v := 165) hz d_OP_operate_8 (by decide) ?_
    refine jr_icmp_gt (tgt := 20) hz d_OP_operate_11 (by decide) ?_ ?_
    · refine jr_sub (ls' := [(0, .ref (G.1 205)), (1, .int p1)]) [0, 1] rfl ?_
      exact jb_OP_operate_b20 hz hr hlk p1 X
    · refine jr_aload_n hz d_OP_operate_14 rfl 0 rfl ?_
      refine jr_iload_n hz d_OP_operate_15 rfl 1 rfl ?_
      refine jr_callVi (As := [.int p1]) (a := 205) (ci := 5) (st := []) hz (cx_OP_calculate l D G hz.2.2.2.2.2.2.1 p1 X) (fun _ _ => ⟨lq_205, _, ly_205⟩) wv_OP_22 ⟨rfl, rfl, Nat.le_of_ble_eq_true rfl, Nat.le_of_ble_eq_true rfl⟩ ⟨Nat.zero_le _, Nat.zero_le _⟩ rfl rfl (Nat.le_of_ble_eq_true rfl) d_OP_operate_16 (fun r1 X1 => ?_)
      exact jr_iret hz hr hlk d_OP_operate_19

/-! printed by wip/whole/gen_walks.py -/
theorem d_BS_number_0 : decode b_BS_number 0 = .ok (.aload_n 0, 1) := by decide +kernel
theorem d_BS_number_1 : decode b_BS_number 1 = .ok (.getfield 15, 3) := by decide +kernel
theorem d_BS_number_4 : decode b_BS_number 4 = .ok (.ifCond .eq 10, 3) := by decide +kernel
theorem d_BS_number_7 : decode b_BS_number 7 = .ok (.aload_n 0, 1) := by decide +kernel
theorem d_BS_number_8 : decode b_BS_number 8 = .ok (.invokevirtual 39, 3) := by decide +kernel
theorem d_BS_number_11 : decode b_BS_number 11 = .ok (.ifCond .ne 5, 3) := by decide +kernel
theorem d_BS_number_14 : decode b_BS_number 14 = .ok (.lconst 0, 1) := by decide +kernel
theorem d_BS_number_15 : decode b_BS_number 15 = .ok (.lreturn, 1) := by decide +kernel
theorem d_BS_number_16 : decode b_BS_number 16 = .ok (.aload_n 0, 1) := by decide +kernel
theorem d_BS_number_17 : decode b_BS_number 17 = .ok (.getfield 9, 3) := by decide +kernel
theorem d_BS_number_20 : decode b_BS_number 20 = .ok (.aload_n 0, 1) := by decide +kernel
theorem d_BS_number_21 : decode b_BS_number 21 = .ok (.getfield 15, 3) := by decide +kernel
theorem d_BS_number_24 : decode b_BS_number 24 = .ok (.iconst 1, 1) := by decide +kernel
theorem d_BS_number_25 : decode b_BS_number 25 = .ok (.isub, 1) := by decide +kernel
theorem d_BS_number_26 : decode b_BS_number 26 = .ok (.iaload, 1) := by decide +kernel
theorem d_BS_number_27 : decode b_BS_number 27 = .ok (.bipush 127, 2) := by decide +kernel
theorem d_BS_number_29 : decode b_BS_number 29 = .ok (.iand, 1) := by decide +kernel
theorem d_BS_number_30 : decode b_BS_number 30 = .ok (.i2l, 1) := by decide +kernel
theorem d_BS_number_31 : decode b_BS_number 31 = .ok (.lstore_n 1, 1) := by decide +kernel
theorem d_BS_number_32 : decode b_BS_number 32 = .ok (.aload_n 0, 1) := by decide +kernel
theorem d_BS_number_33 : decode b_BS_number 33 = .ok (.getfield 15, 3) := by decide +kernel
theorem d_BS_number_36 : decode b_BS_number 36 = .ok (.iconst 2, 1) := by decide +kernel
theorem d_BS_number_37 : decode b_BS_number 37 = .ok (.isub, 1) := by decide +kernel
theorem d_BS_number_38 : decode b_BS_number 38 = .ok (.istore_n 3, 1) := by decide +kernel
theorem d_BS_number_39 : decode b_BS_number 39 = .ok (.iload_n 3, 1) := by decide +kernel
theorem d_BS_number_40 : decode b_BS_number 40 = .ok (.ifCond .lt 23, 3) := by decide +kernel
theorem d_BS_number_43 : decode b_BS_number 43 = .ok (.lload_n 1, 1) := by decide +kernel
theorem d_BS_number_44 : decode b_BS_number 44 = .ok (.ldc2_w 43, 3) := by decide +kernel
theorem d_BS_number_47 : decode b_BS_number 47 = .ok (.lmul, 1) := by decide +kernel
theorem d_BS_number_48 : decode b_BS_number 48 = .ok (.aload_n 0, 1) := by decide +kernel
theorem d_BS_number_49 : decode b_BS_number 49 = .ok (.getfield 9, 3) := by decide +kernel
theorem d_BS_number_52 : decode b_BS_number 52 = .ok (.iload_n 3, 1) := by decide +kernel
theorem d_BS_number_53 : decode b_BS_number 53 = .ok (.iaload, 1) := by decide +kernel
theorem d_BS_number_54 : decode b_BS_number 54 = .ok (.i2l, 1) := by decide +kernel
theorem d_BS_number_55 : decode b_BS_number 55 = .ok (.ladd, 1) := by decide +kernel
theorem d_BS_number_56 : decode b_BS_number 56 = .ok (.lstore_n 1, 1) := by decide +kernel
theorem d_BS_number_57 : decode b_BS_number 57 = .ok (.iinc 3 (-1), 3) := by decide +kernel
theorem d_BS_number_60 : decode b_BS_number 60 = .ok (.goto (-21), 3) := by decide +kernel
theorem d_BS_number_63 : decode b_BS_number 63 = .ok (.aload_n 0, 1) := by decide +kernel
theorem d_BS_number_64 : decode b_BS_number 64 = .ok (.getfield 9, 3) := by decide +kernel
theorem d_BS_number_67 : decode b_BS_number 67 = .ok (.aload_n 0, 1) := by decide +kernel
theorem d_BS_number_68 : decode b_BS_number 68 = .ok (.getfield 15, 3) := by decide +kernel
theorem d_BS_number_71 : decode b_BS_number 71 = .ok (.iconst 1, 1) := by decide +kernel
theorem d_BS_number_72 : decode b_BS_number 72 = .ok (.isub, 1) := by decide +kernel
theorem d_BS_number_73 : decode b_BS_number 73 = .ok (.iaload, 1) := by decide +kernel
theorem d_BS_number_74 : decode b_BS_number 74 = .ok (.sipush 128, 3) := by decide +kernel
theorem d_BS_number_77 : decode b_BS_number 77 = .ok (.if_icmp .lt 8, 3) := by decide +kernel
theorem d_BS_number_80 : decode b_BS_number 80 = .ok (.lload_n 1, 1) := by decide +kernel
theorem d_BS_number_81 : decode b_BS_number 81 = .ok (.lneg, 1) := by decide +kernel
theorem d_BS_number_82 : decode b_BS_number 82 = .ok (.goto 4, 3) := by decide +kernel
theorem d_BS_number_85 : decode b_BS_number 85 = .ok (.lload_n 1, 1) := by decide +kernel
theorem d_BS_number_86 : decode b_BS_number 86 = .ok (.lreturn, 1) := by decide +kernel
theorem wv_BS_39 : xh_V "SpendScript$ByteString" 39 0 y_BS_isNumber b_BS_isNumber 1 (some .boolean) 0 := ⟨(sp_tb (List.mem_of_getElem? (i := 346) (by decide +kernel))), (sp_tb (List.mem_of_getElem? (i := 2) (by decide +kernel))), (sp_tb (List.mem_of_getElem? (i := 351) (by decide +kernel))), ⟨by decide +kernel, by decide +kernel, by decide +kernel⟩, (sp_tb (List.mem_of_getElem? (i := 344) (by decide +kernel))), (sp_tb (List.mem_of_getElem? (i := 345) (by decide +kernel))), F_BS, 2, rfl⟩
theorem wk_BS_43 : Cond.constantLong "SpendScript$ByteString" 43 256 ∈ sp_ws := (sp_tb (List.mem_of_getElem? (i := 352) (by decide +kernel)))
abbrev rm_BS_number : Room := { frames := 1, cells := 0, slots := 0, locals := 20 }
def fx_BS_number_b39 (q : Nat) : Nat → Int64 → Int32 → xh_T → Option (Int64 × xh_T)
  | 0, _, _, _ => none
  | n + 1, a1, a3, X => if a3 < 0 then
  xh_o (X.1 q 1 - 1) (sp_len (q + 1)) (if (X.1 (q + 1) ((X.1 q 1 - 1)).toNatClampNeg) < 128 then
  some (a1, X)
  else some ((-a1), X))
  else xh_o a3 (sp_len (q + 1)) (xh_n ((a1 * 256) + (((X.1 (q + 1) a3.toNatClampNeg) : Int32).toInt64)) (fun v7 : Int64 =>
  xh_n (a3 + (-1)) (fun v8 : Int32 =>
  fx_BS_number_b39 q n v7 v8 X)))
set_option maxRecDepth 100000 in
set_option maxHeartbeats 4000000 in
theorem jb_BS_number_b39 {p : Program} {l : Launch} {e : Env} {s : State} {m : MethodId} {args : Array Value} {below : List Frame} {meth : Method} {c : Code} {D : va_G} {G : xh_G} {q : Nat} (hz : xh_C p s m args c b_BS_number 4 "SpendScript$ByteString" D G (xh_A G s.heap.size)) (hr : meth.sig.returnType = (some .long)) (hlk : meth.locks = false) (hq : sp_bs q = true) : ∀ (n : Nat) (a1 : Int64) (a3 : Int32) (X : xh_T), xh_J p l e rm_BS_number s m args below meth c 0 0 D G (xh_A G s.heap.size) 4 (fun r X' => MQ below (xh_Ql D G (xh_A G s.heap.size) r X') args s 0 0 (xh_A G s.heap.size)) 39 [(0, .ref (G.1 q)), (1, .long a1), (3, .int a3)] [] X (fx_BS_number_b39 q n a1 a3 X) := by
  intro n
  induction n with
  | zero => intro a1 a3 X; exact jr_none
  | succ n ih =>
    intro a1 a3 X
    rw [fx_BS_number_b39]
    refine jr_iload_n hz d_BS_number_39 rfl 2 rfl ?_
    refine jr_if_lt (tgt := 63) hz d_BS_number_40 (by decide) ?_ ?_
    · refine jr_aload_n hz d_BS_number_63 rfl 0 rfl ?_
      refine jr_getr (j := 0) (t := (q + 1)) hz (sp_bs_lt hq) (sp_bs_of hq).2.1 rfl wf_BS_9 d_BS_number_64 ?_
      refine jr_aload_n hz d_BS_number_67 rfl 0 rfl ?_
      refine jr_geti (j := 1) hz (sp_bs_lt hq) (sp_bs_of hq).2.1 rfl wf_BS_15 d_BS_number_68 ?_
      refine jr_iconst (v := 1) hz d_BS_number_71 (by decide) ?_
      refine jr_isub hz d_BS_number_72 ?_
      refine jr_iald (n := (sp_len (q + 1))) hz (sp_bs_of hq).1 (sp_bs_of hq).2.2 d_BS_number_73 ?_
      refine jr_sipush (v := 128) hz d_BS_number_74 (by decide) ?_
      refine jr_icmp_lt (tgt := 85) hz d_BS_number_77 (by decide) ?_ ?_
      · refine jr_lload_n hz d_BS_number_85 rfl 1 rfl ?_
        exact jr_lret hz hr hlk d_BS_number_86
      · refine jr_lload_n hz d_BS_number_80 rfl 1 rfl ?_
        refine jr_lneg hz d_BS_number_81 ?_
        refine jr_goto (tgt := 86) hz d_BS_number_82 (by decide) ?_
        exact jr_lret hz hr hlk d_BS_number_86
    · refine jr_lload_n hz d_BS_number_43 rfl 1 rfl ?_
      refine jr_ldc2 (v := 256) hz wk_BS_43 d_BS_number_44 ?_
      refine jr_lmul hz d_BS_number_47 ?_
      refine jr_aload_n hz d_BS_number_48 rfl 0 rfl ?_
      refine jr_getr (j := 0) (t := (q + 1)) hz (sp_bs_lt hq) (sp_bs_of hq).2.1 rfl wf_BS_9 d_BS_number_49 ?_
      refine jr_iload_n hz d_BS_number_52 rfl 2 rfl ?_
      refine jr_iald (n := (sp_len (q + 1))) hz (sp_bs_of hq).1 (sp_bs_of hq).2.2 d_BS_number_53 ?_
      refine jr_i2l hz d_BS_number_54 ?_
      refine jr_ladd hz d_BS_number_55 ?_
      refine jr_lstore_n (lf := [(0, .ref (G.1 q)), (3, .int a3)]) hz d_BS_number_56 rfl (by decide) rfl (fun v7 => ?_)
      refine jr_iinc (lf := [(1, .long v7), (0, .ref (G.1 q))]) (w := (-1)) hz d_BS_number_57 2 rfl (by decide) (by decide) rfl (fun v8 => ?_)
      refine jr_goto (tgt := 39) hz d_BS_number_60 (by decide) ?_
      refine jr_sub (ls' := [(0, .ref (G.1 q)), (1, .long v7), (3, .int v8)]) [2, 1, 0] rfl ?_
      exact ih v7 v8 X
def fx_BS_number (q : Nat) (X : xh_T) : Option (Int64 × xh_T) :=
  xh_k (sp_bs q) (
  if X.1 q 1 = 0 then
  some (0, X)
  else xh_b (fx_BS_isNumber q X) (fun (r2 : Int32) (X1 : xh_T) =>
  if r2 = 0 then
  some (0, X1)
  else xh_o (X1.1 q 1 - 1) (sp_len (q + 1)) (xh_n ((((X1.1 (q + 1) ((X1.1 q 1 - 1)).toNatClampNeg) &&& 127) : Int32).toInt64) (fun v5 : Int64 =>
  xh_n (X1.1 q 1 - 2) (fun v6 : Int32 =>
  fx_BS_number_b39 q sp_fuel v5 v6 X1)))))
set_option maxRecDepth 100000 in
set_option maxHeartbeats 4000000 in
theorem cx_BS_number (l : Launch) (D : va_G) (G : xh_G) (hD : xh_D G) (q : Nat) (X : xh_T) : xh_M xh_Ql l D G y_BS_number b_BS_number 4 (some .long) rm_BS_number [.ref (G.1 q)] X (fx_BS_number q X) := by
  refine xh_enter (ls := [(0, .ref (G.1 q))]) hD (by decide +kernel) (Nat.le_of_ble_eq_true rfl) rfl ?_
  intro p e s m args below meth c hz hr hlk
  unfold fx_BS_number
  refine jr_k (fun hq => ?_)
  refine jr_aload_n hz d_BS_number_0 rfl 0 rfl ?_
  refine jr_geti (j := 1) hz (sp_bs_lt hq) (sp_bs_of hq).2.1 rfl wf_BS_15 d_BS_number_1 ?_
  refine jr_if_eq (tgt := 14) hz d_BS_number_4 (by decide) ?_ ?_
  · refine jr_lconst (v := 0) hz d_BS_number_14 (by decide) ?_
    exact jr_lret hz hr hlk d_BS_number_15
  · refine jr_aload_n hz d_BS_number_7 rfl 0 rfl ?_
    refine jr_callVi (As := []) (a := q) (ci := 0) (st := []) hz (cx_BS_isNumber l D G hz.2.2.2.2.2.2.1 q X) (fun z h => sp_bs_v (xh_k_t h)) wv_BS_39 ⟨rfl, rfl, Nat.le_of_ble_eq_true rfl, Nat.le_of_ble_eq_true rfl⟩ ⟨Nat.zero_le _, Nat.zero_le _⟩ rfl rfl (Nat.le_of_ble_eq_true rfl) d_BS_number_8 (fun r2 X1 => ?_)
    refine jr_if_ne (tgt := 16) hz d_BS_number_11 (by decide) ?_ ?_
    · refine jr_aload_n hz d_BS_number_16 rfl 0 rfl ?_
      refine jr_getr (j := 0) (t := (q + 1)) hz (sp_bs_lt hq) (sp_bs_of hq).2.1 rfl wf_BS_9 d_BS_number_17 ?_
      refine jr_aload_n hz d_BS_number_20 rfl 0 rfl ?_
      refine jr_geti (j := 1) hz (sp_bs_lt hq) (sp_bs_of hq).2.1 rfl wf_BS_15 d_BS_number_21 ?_
      refine jr_iconst (v := 1) hz d_BS_number_24 (by decide) ?_
      refine jr_isub hz d_BS_number_25 ?_
      refine jr_iald (n := (sp_len (q + 1))) hz (sp_bs_of hq).1 (sp_bs_of hq).2.2 d_BS_number_26 ?_
      refine jr_bipush (v := 127) hz d_BS_number_27 (by decide) ?_
      refine jr_iand hz d_BS_number_29 ?_
      refine jr_i2l hz d_BS_number_30 ?_
      refine jr_lstore_n (lf := [(0, .ref (G.1 q))]) hz d_BS_number_31 rfl (by decide) rfl (fun v5 => ?_)
      refine jr_aload_n hz d_BS_number_32 rfl 1 rfl ?_
      refine jr_geti (j := 1) hz (sp_bs_lt hq) (sp_bs_of hq).2.1 rfl wf_BS_15 d_BS_number_33 ?_
      refine jr_iconst (v := 2) hz d_BS_number_36 (by decide) ?_
      refine jr_isub hz d_BS_number_37 ?_
      refine jr_istore_n (lf := [(1, .long v5), (0, .ref (G.1 q))]) hz d_BS_number_38 rfl (by decide) rfl (fun v6 => ?_)
      refine jr_sub (ls' := [(0, .ref (G.1 q)), (1, .long v5), (3, .int v6)]) [2, 1, 0] rfl ?_
      exact jb_BS_number_b39 hz hr hlk hq sp_fuel v5 v6 X1
    · refine jr_lconst (v := 0) hz d_BS_number_14 (by decide) ?_
      exact jr_lret hz hr hlk d_BS_number_15
theorem d_BS_becomeNumber_0 : decode b_BS_becomeNumber 0 = .ok (.aload_n 0, 1) := by decide +kernel
theorem d_BS_becomeNumber_1 : decode b_BS_becomeNumber 1 = .ok (.iconst 0, 1) := by decide +kernel
theorem d_BS_becomeNumber_2 : decode b_BS_becomeNumber 2 = .ok (.putfield 15, 3) := by decide +kernel
theorem d_BS_becomeNumber_5 : decode b_BS_becomeNumber 5 = .ok (.lload_n 1, 1) := by decide +kernel
theorem d_BS_becomeNumber_6 : decode b_BS_becomeNumber 6 = .ok (.invokestatic 45, 3) := by decide +kernel
theorem d_BS_becomeNumber_9 : decode b_BS_becomeNumber 9 = .ok (.lstore_n 3, 1) := by decide +kernel
theorem d_BS_becomeNumber_10 : decode b_BS_becomeNumber 10 = .ok (.iconst 0, 1) := by decide +kernel
theorem d_BS_becomeNumber_11 : decode b_BS_becomeNumber 11 = .ok (.istore 5, 2) := by decide +kernel
theorem d_BS_becomeNumber_13 : decode b_BS_becomeNumber 13 = .ok (.iconst 0, 1) := by decide +kernel
theorem d_BS_becomeNumber_14 : decode b_BS_becomeNumber 14 = .ok (.istore 6, 2) := by decide +kernel
theorem d_BS_becomeNumber_16 : decode b_BS_becomeNumber 16 = .ok (.iload 6, 2) := by decide +kernel
theorem d_BS_becomeNumber_18 : decode b_BS_becomeNumber 18 = .ok (.iconst 5, 1) := by decide +kernel
theorem d_BS_becomeNumber_19 : decode b_BS_becomeNumber 19 = .ok (.if_icmp .ge 35, 3) := by decide +kernel
theorem d_BS_becomeNumber_22 : decode b_BS_becomeNumber 22 = .ok (.lload_n 3, 1) := by decide +kernel
theorem d_BS_becomeNumber_23 : decode b_BS_becomeNumber 23 = .ok (.lconst 0, 1) := by decide +kernel
theorem d_BS_becomeNumber_24 : decode b_BS_becomeNumber 24 = .ok (.lcmp, 1) := by decide +kernel
theorem d_BS_becomeNumber_25 : decode b_BS_becomeNumber 25 = .ok (.ifCond .le 29, 3) := by decide +kernel
theorem d_BS_becomeNumber_28 : decode b_BS_becomeNumber 28 = .ok (.lload_n 3, 1) := by decide +kernel
theorem d_BS_becomeNumber_29 : decode b_BS_becomeNumber 29 = .ok (.ldc2_w 49, 3) := by decide +kernel
theorem d_BS_becomeNumber_32 : decode b_BS_becomeNumber 32 = .ok (.land, 1) := by decide +kernel
theorem d_BS_becomeNumber_33 : decode b_BS_becomeNumber 33 = .ok (.l2i, 1) := by decide +kernel
theorem d_BS_becomeNumber_34 : decode b_BS_becomeNumber 34 = .ok (.istore 5, 2) := by decide +kernel
theorem d_BS_becomeNumber_36 : decode b_BS_becomeNumber 36 = .ok (.aload_n 0, 1) := by decide +kernel
theorem d_BS_becomeNumber_37 : decode b_BS_becomeNumber 37 = .ok (.iload 5, 2) := by decide +kernel
theorem d_BS_becomeNumber_39 : decode b_BS_becomeNumber 39 = .ok (.invokevirtual 35, 3) := by decide +kernel
theorem d_BS_becomeNumber_42 : decode b_BS_becomeNumber 42 = .ok (.pop, 1) := by decide +kernel
theorem d_BS_becomeNumber_43 : decode b_BS_becomeNumber 43 = .ok (.lload_n 3, 1) := by decide +kernel
theorem d_BS_becomeNumber_44 : decode b_BS_becomeNumber 44 = .ok (.bipush 8, 2) := by decide +kernel
theorem d_BS_becomeNumber_46 : decode b_BS_becomeNumber 46 = .ok (.lshr, 1) := by decide +kernel
theorem d_BS_becomeNumber_47 : decode b_BS_becomeNumber 47 = .ok (.lstore_n 3, 1) := by decide +kernel
theorem d_BS_becomeNumber_48 : decode b_BS_becomeNumber 48 = .ok (.iinc 6 1, 3) := by decide +kernel
theorem d_BS_becomeNumber_51 : decode b_BS_becomeNumber 51 = .ok (.goto (-35), 3) := by decide +kernel
theorem d_BS_becomeNumber_54 : decode b_BS_becomeNumber 54 = .ok (.lload_n 1, 1) := by decide +kernel
theorem d_BS_becomeNumber_55 : decode b_BS_becomeNumber 55 = .ok (.lconst 0, 1) := by decide +kernel
theorem d_BS_becomeNumber_56 : decode b_BS_becomeNumber 56 = .ok (.lcmp, 1) := by decide +kernel
theorem d_BS_becomeNumber_57 : decode b_BS_becomeNumber 57 = .ok (.ifCond .ge 9, 3) := by decide +kernel
theorem d_BS_becomeNumber_60 : decode b_BS_becomeNumber 60 = .ok (.sipush 128, 3) := by decide +kernel
theorem d_BS_becomeNumber_63 : decode b_BS_becomeNumber 63 = .ok (.goto 4, 3) := by decide +kernel
theorem d_BS_becomeNumber_66 : decode b_BS_becomeNumber 66 = .ok (.iconst 0, 1) := by decide +kernel
theorem d_BS_becomeNumber_67 : decode b_BS_becomeNumber 67 = .ok (.istore 6, 2) := by decide +kernel
theorem d_BS_becomeNumber_69 : decode b_BS_becomeNumber 69 = .ok (.iload 5, 2) := by decide +kernel
theorem d_BS_becomeNumber_71 : decode b_BS_becomeNumber 71 = .ok (.sipush 128, 3) := by decide +kernel
theorem d_BS_becomeNumber_74 : decode b_BS_becomeNumber 74 = .ok (.if_icmp .lt 13, 3) := by decide +kernel
theorem d_BS_becomeNumber_77 : decode b_BS_becomeNumber 77 = .ok (.aload_n 0, 1) := by decide +kernel
theorem d_BS_becomeNumber_78 : decode b_BS_becomeNumber 78 = .ok (.iload 6, 2) := by decide +kernel
theorem d_BS_becomeNumber_80 : decode b_BS_becomeNumber 80 = .ok (.invokevirtual 35, 3) := by decide +kernel
theorem d_BS_becomeNumber_83 : decode b_BS_becomeNumber 83 = .ok (.pop, 1) := by decide +kernel
theorem d_BS_becomeNumber_84 : decode b_BS_becomeNumber 84 = .ok (.goto 26, 3) := by decide +kernel
theorem d_BS_becomeNumber_87 : decode b_BS_becomeNumber 87 = .ok (.aload_n 0, 1) := by decide +kernel
theorem d_BS_becomeNumber_88 : decode b_BS_becomeNumber 88 = .ok (.getfield 15, 3) := by decide +kernel
theorem d_BS_becomeNumber_91 : decode b_BS_becomeNumber 91 = .ok (.ifCond .le 19, 3) := by decide +kernel
theorem d_BS_becomeNumber_94 : decode b_BS_becomeNumber 94 = .ok (.aload_n 0, 1) := by decide +kernel
theorem d_BS_becomeNumber_95 : decode b_BS_becomeNumber 95 = .ok (.getfield 9, 3) := by decide +kernel
theorem d_BS_becomeNumber_98 : decode b_BS_becomeNumber 98 = .ok (.aload_n 0, 1) := by decide +kernel
theorem d_BS_becomeNumber_99 : decode b_BS_becomeNumber 99 = .ok (.getfield 15, 3) := by decide +kernel
theorem d_BS_becomeNumber_102 : decode b_BS_becomeNumber 102 = .ok (.iconst 1, 1) := by decide +kernel
theorem d_BS_becomeNumber_103 : decode b_BS_becomeNumber 103 = .ok (.isub, 1) := by decide +kernel
theorem d_BS_becomeNumber_104 : decode b_BS_becomeNumber 104 = .ok (.iload 5, 2) := by decide +kernel
theorem d_BS_becomeNumber_106 : decode b_BS_becomeNumber 106 = .ok (.iload 6, 2) := by decide +kernel
theorem d_BS_becomeNumber_108 : decode b_BS_becomeNumber 108 = .ok (.ior, 1) := by decide +kernel
theorem d_BS_becomeNumber_109 : decode b_BS_becomeNumber 109 = .ok (.iastore, 1) := by decide +kernel
theorem d_BS_becomeNumber_110 : decode b_BS_becomeNumber 110 = .ok (.return_, 1) := by decide +kernel
theorem wm_BS_45 : Cond.methodLink "SpendScript$ByteString" 45 Lib.MathLoose.abs_long.x ∈ sp_ws := (sp_tb (List.mem_of_getElem? (i := 268) (by decide +kernel)))
theorem wk_BS_49 : Cond.constantLong "SpendScript$ByteString" 49 255 ∈ sp_ws := (sp_tb (List.mem_of_getElem? (i := 271) (by decide +kernel)))
abbrev rm_BS_becomeNumber : Room := { frames := 1, cells := 0, slots := 0, locals := 80 }
def fx_BS_becomeNumber_b67 (q : Nat) (a5 : Int32) (s0 : Int32) (X : xh_T) : Option (Unit × xh_T) :=
  xh_n s0 (fun v11 : Int32 =>
  if a5 < 128 then
  if X.1 q 1 ≤ 0 then
  some ((), X)
  else xh_o (X.1 q 1 - 1) (sp_len (q + 1)) (xh_n (xh_i X (q + 1) ((X.1 q 1 - 1) : Int32).toNatClampNeg (a5 ||| v11)) (fun X3 : xh_T =>
  some ((), X3)))
  else xh_b (fx_BS_append q v11 X) (fun (r13 : Int32) (X4 : xh_T) =>
  some ((), X4)))
set_option maxRecDepth 100000 in
set_option maxHeartbeats 4000000 in
theorem jb_BS_becomeNumber_b67 {p : Program} {l : Launch} {e : Env} {s : State} {m : MethodId} {args : Array Value} {below : List Frame} {meth : Method} {c : Code} {D : va_G} {G : xh_G} {q : Nat} (hz : xh_C p s m args c b_BS_becomeNumber 7 "SpendScript$ByteString" D G (xh_A G s.heap.size)) (hr : meth.sig.returnType = none) (hlk : meth.locks = false) (hq : sp_bs q = true) (a5 : Int32) (s0 : Int32) (X : xh_T) : xh_J p l e rm_BS_becomeNumber s m args below meth c 0 0 D G (xh_A G s.heap.size) 7 (fun r X' => MQ below (xh_Qv D G (xh_A G s.heap.size) r X') args s 0 0 (xh_A G s.heap.size)) 67 [(0, .ref (G.1 q)), (5, .int a5)] [.int s0] X (fx_BS_becomeNumber_b67 q a5 s0 X) := by
  unfold fx_BS_becomeNumber_b67
  refine jr_istore (lf := [(0, .ref (G.1 q)), (5, .int a5)]) hz d_BS_becomeNumber_67 (by decide) rfl (fun v11 => ?_)
  refine jr_iload hz d_BS_becomeNumber_69 2 rfl ?_
  refine jr_sipush (v := 128) hz d_BS_becomeNumber_71 (by decide) ?_
  refine jr_icmp_lt (tgt := 87) hz d_BS_becomeNumber_74 (by decide) ?_ ?_
  · refine jr_aload_n hz d_BS_becomeNumber_87 rfl 1 rfl ?_
    refine jr_geti (j := 1) hz (sp_bs_lt hq) (sp_bs_of hq).2.1 rfl wf_BS_15 d_BS_becomeNumber_88 ?_
    refine jr_if_le (tgt := 110) hz d_BS_becomeNumber_91 (by decide) ?_ ?_
    · exact jr_vret hz hr hlk d_BS_becomeNumber_110
    · refine jr_aload_n hz d_BS_becomeNumber_94 rfl 1 rfl ?_
      refine jr_getr (j := 0) (t := (q + 1)) hz (sp_bs_lt hq) (sp_bs_of hq).2.1 rfl wf_BS_9 d_BS_becomeNumber_95 ?_
      refine jr_aload_n hz d_BS_becomeNumber_98 rfl 1 rfl ?_
      refine jr_geti (j := 1) hz (sp_bs_lt hq) (sp_bs_of hq).2.1 rfl wf_BS_15 d_BS_becomeNumber_99 ?_
      refine jr_iconst (v := 1) hz d_BS_becomeNumber_102 (by decide) ?_
      refine jr_isub hz d_BS_becomeNumber_103 ?_
      refine jr_iload hz d_BS_becomeNumber_104 2 rfl ?_
      refine jr_iload hz d_BS_becomeNumber_106 0 rfl ?_
      refine jr_ior hz d_BS_becomeNumber_108 ?_
      refine jr_iast (n := (sp_len (q + 1))) hz (sp_bs_of hq).1 (sp_bs_of hq).2.2 d_BS_becomeNumber_109 (fun X3 => ?_)
      exact jr_vret hz hr hlk d_BS_becomeNumber_110
  · refine jr_aload_n hz d_BS_becomeNumber_77 rfl 1 rfl ?_
    refine jr_iload hz d_BS_becomeNumber_78 0 rfl ?_
    refine jr_callVi (As := [.int v11]) (a := q) (ci := 0) (st := []) hz (cx_BS_append l D G hz.2.2.2.2.2.2.1 q v11 X) (fun z h => sp_bs_v (xh_k_t h)) wv_BS_35 ⟨rfl, rfl, Nat.le_of_ble_eq_true rfl, Nat.le_of_ble_eq_true rfl⟩ ⟨Nat.zero_le _, Nat.zero_le _⟩ rfl rfl (Nat.le_of_ble_eq_true rfl) d_BS_becomeNumber_80 (fun r13 X4 => ?_)
    refine jr_pop hz d_BS_becomeNumber_83 rfl ?_
    refine jr_goto (tgt := 110) hz d_BS_becomeNumber_84 (by decide) ?_
    exact jr_vret hz hr hlk d_BS_becomeNumber_110
def fx_BS_becomeNumber_b54 (q : Nat) (a1 : Int64) (a5 : Int32) (X : xh_T) : Option (Unit × xh_T) :=
  if 0 ≤ (lg_cmp a1 0) then
  fx_BS_becomeNumber_b67 q a5 0 X
  else fx_BS_becomeNumber_b67 q a5 128 X
set_option maxRecDepth 100000 in
set_option maxHeartbeats 4000000 in
theorem jb_BS_becomeNumber_b54 {p : Program} {l : Launch} {e : Env} {s : State} {m : MethodId} {args : Array Value} {below : List Frame} {meth : Method} {c : Code} {D : va_G} {G : xh_G} {q : Nat} (hz : xh_C p s m args c b_BS_becomeNumber 7 "SpendScript$ByteString" D G (xh_A G s.heap.size)) (hr : meth.sig.returnType = none) (hlk : meth.locks = false) (hq : sp_bs q = true) (a1 : Int64) (a5 : Int32) (X : xh_T) : xh_J p l e rm_BS_becomeNumber s m args below meth c 0 0 D G (xh_A G s.heap.size) 7 (fun r X' => MQ below (xh_Qv D G (xh_A G s.heap.size) r X') args s 0 0 (xh_A G s.heap.size)) 54 [(0, .ref (G.1 q)), (1, .long a1), (5, .int a5)] [] X (fx_BS_becomeNumber_b54 q a1 a5 X) := by
  unfold fx_BS_becomeNumber_b54
  refine jr_lload_n hz d_BS_becomeNumber_54 rfl 1 rfl ?_
  refine jr_lconst (v := 0) hz d_BS_becomeNumber_55 (by decide) ?_
  refine jr_lcmp hz d_BS_becomeNumber_56 ?_
  refine jr_if_ge (tgt := 66) hz d_BS_becomeNumber_57 (by decide) ?_ ?_
  · refine jr_iconst (v := 0) hz d_BS_becomeNumber_66 (by decide) ?_
    refine jr_sub (ls' := [(0, .ref (G.1 q)), (5, .int a5)]) [0, 2] rfl ?_
    exact jb_BS_becomeNumber_b67 hz hr hlk hq a5 0 X
  · refine jr_sipush (v := 128) hz d_BS_becomeNumber_60 (by decide) ?_
    refine jr_goto (tgt := 67) hz d_BS_becomeNumber_63 (by decide) ?_
    refine jr_sub (ls' := [(0, .ref (G.1 q)), (5, .int a5)]) [0, 2] rfl ?_
    exact jb_BS_becomeNumber_b67 hz hr hlk hq a5 128 X
def fx_BS_becomeNumber_b16 (q : Nat) : Nat → Int64 → Int64 → Int32 → Int32 → xh_T → Option (Unit × xh_T)
  | 0, _, _, _, _, _ => none
  | n + 1, a1, a3, a5, a6, X => if 5 ≤ a6 then
  fx_BS_becomeNumber_b54 q a1 a5 X
  else if (lg_cmp a3 0) ≤ 0 then
  fx_BS_becomeNumber_b54 q a1 a5 X
  else xh_n (((a3 &&& 255) : Int64).toInt32) (fun v4 : Int32 =>
  xh_b (fx_BS_append q v4 X) (fun (r6 : Int32) (X2 : xh_T) =>
  xh_n (a3 >>> ((8 : Int32).toInt64 &&& 63)) (fun v9 : Int64 =>
  xh_n (a6 + 1) (fun v10 : Int32 =>
  fx_BS_becomeNumber_b16 q n a1 v9 v4 v10 X2))))
set_option maxRecDepth 100000 in
set_option maxHeartbeats 4000000 in
theorem jb_BS_becomeNumber_b16 {p : Program} {l : Launch} {e : Env} {s : State} {m : MethodId} {args : Array Value} {below : List Frame} {meth : Method} {c : Code} {D : va_G} {G : xh_G} {q : Nat} (hz : xh_C p s m args c b_BS_becomeNumber 7 "SpendScript$ByteString" D G (xh_A G s.heap.size)) (hr : meth.sig.returnType = none) (hlk : meth.locks = false) (hq : sp_bs q = true) : ∀ (n : Nat) (a1 : Int64) (a3 : Int64) (a5 : Int32) (a6 : Int32) (X : xh_T), xh_J p l e rm_BS_becomeNumber s m args below meth c 0 0 D G (xh_A G s.heap.size) 7 (fun r X' => MQ below (xh_Qv D G (xh_A G s.heap.size) r X') args s 0 0 (xh_A G s.heap.size)) 16 [(0, .ref (G.1 q)), (1, .long a1), (3, .long a3), (5, .int a5), (6, .int a6)] [] X (fx_BS_becomeNumber_b16 q n a1 a3 a5 a6 X) := by
  intro n
  induction n with
  | zero => intro a1 a3 a5 a6 X; exact jr_none
  | succ n ih =>
    intro a1 a3 a5 a6 X
    rw [fx_BS_becomeNumber_b16]
    refine jr_iload hz d_BS_becomeNumber_16 4 rfl ?_
    refine jr_iconst (v := 5) hz d_BS_becomeNumber_18 (by decide) ?_
    refine jr_icmp_ge (tgt := 54) hz d_BS_becomeNumber_19 (by decide) ?_ ?_
    · refine jr_sub (ls' := [(0, .ref (G.1 q)), (1, .long a1), (5, .int a5)]) [0, 1, 3] rfl ?_
      exact jb_BS_becomeNumber_b54 hz hr hlk hq a1 a5 X
    · refine jr_lload_n hz d_BS_becomeNumber_22 rfl 2 rfl ?_
      refine jr_lconst (v := 0) hz d_BS_becomeNumber_23 (by decide) ?_
      refine jr_lcmp hz d_BS_becomeNumber_24 ?_
      refine jr_if_le (tgt := 54) hz d_BS_becomeNumber_25 (by decide) ?_ ?_
      · refine jr_sub (ls' := [(0, .ref (G.1 q)), (1, .long a1), (5, .int a5)]) [0, 1, 3] rfl ?_
        exact jb_BS_becomeNumber_b54 hz hr hlk hq a1 a5 X
      · refine jr_lload_n hz d_BS_becomeNumber_28 rfl 2 rfl ?_
        refine jr_ldc2 (v := 255) hz wk_BS_49 d_BS_becomeNumber_29 ?_
        refine jr_land hz d_BS_becomeNumber_32 ?_
        refine jr_l2i hz d_BS_becomeNumber_33 ?_
        refine jr_istore (lf := [(0, .ref (G.1 q)), (1, .long a1), (3, .long a3), (6, .int a6)]) hz d_BS_becomeNumber_34 (by decide) rfl (fun v4 => ?_)
        refine jr_aload_n hz d_BS_becomeNumber_36 rfl 1 rfl ?_
        refine jr_iload hz d_BS_becomeNumber_37 0 rfl ?_
        refine jr_callVi (As := [.int v4]) (a := q) (ci := 0) (st := []) hz (cx_BS_append l D G hz.2.2.2.2.2.2.1 q v4 X) (fun z h => sp_bs_v (xh_k_t h)) wv_BS_35 ⟨rfl, rfl, Nat.le_of_ble_eq_true rfl, Nat.le_of_ble_eq_true rfl⟩ ⟨Nat.zero_le _, Nat.zero_le _⟩ rfl rfl (Nat.le_of_ble_eq_true rfl) d_BS_becomeNumber_39 (fun r6 X2 => ?_)
        refine jr_pop hz d_BS_becomeNumber_42 rfl ?_
        refine jr_lload_n hz d_BS_becomeNumber_43 rfl 3 rfl ?_
        refine jr_bipush (v := 8) hz d_BS_becomeNumber_44 (by decide) ?_
        refine jr_lshr hz d_BS_becomeNumber_46 ?_
        refine jr_lstore_n (lf := [(5, .int v4), (0, .ref (G.1 q)), (1, .long a1), (6, .int a6)]) hz d_BS_becomeNumber_47 rfl (by decide) rfl (fun v9 => ?_)
        refine jr_iinc (lf := [(3, .long v9), (5, .int v4), (0, .ref (G.1 q)), (1, .long a1)]) (w := 1) hz d_BS_becomeNumber_48 4 rfl (by decide) (by decide) rfl (fun v10 => ?_)
        refine jr_goto (tgt := 16) hz d_BS_becomeNumber_51 (by decide) ?_
        refine jr_sub (ls' := [(0, .ref (G.1 q)), (1, .long a1), (3, .long v9), (5, .int v4), (6, .int v10)]) [3, 4, 1, 2, 0] rfl ?_
        exact ih a1 v9 v4 v10 X2
def fx_BS_becomeNumber (q : Nat) (p1 : Int64) (X : xh_T) : Option (Unit × xh_T) :=
  xh_k (sp_bs q) (
  xh_n (xh_i X q 1 0) (fun X1 : xh_T =>
  xh_n (if 0 < p1 then p1 else -p1) (fun v1 : Int64 =>
  xh_n 0 (fun v2 : Int32 =>
  xh_n 0 (fun v3 : Int32 =>
  fx_BS_becomeNumber_b16 q sp_fuel p1 v1 v2 v3 X1)))))
set_option maxRecDepth 100000 in
set_option maxHeartbeats 4000000 in
theorem cx_BS_becomeNumber (l : Launch) (D : va_G) (G : xh_G) (hD : xh_D G) (q : Nat) (p1 : Int64) (X : xh_T) : xh_M xh_Qv l D G y_BS_becomeNumber b_BS_becomeNumber 7 none rm_BS_becomeNumber [.ref (G.1 q), .long p1] X (fx_BS_becomeNumber q p1 X) := by
  refine xh_enter (ls := [(0, .ref (G.1 q)), (1, .long p1)]) hD (by decide +kernel) (Nat.le_of_ble_eq_true rfl) rfl ?_
  intro p e s m args below meth c hz hr hlk
  unfold fx_BS_becomeNumber
  refine jr_k (fun hq => ?_)
  refine jr_aload_n hz d_BS_becomeNumber_0 rfl 0 rfl ?_
  refine jr_iconst (v := 0) hz d_BS_becomeNumber_1 (by decide) ?_
  refine jr_puti hz (sp_bs_lt hq) (sp_bs_of hq).2.1 rfl wp_BS_15 d_BS_becomeNumber_2 (fun X1 => ?_)
  refine jr_lload_n hz d_BS_becomeNumber_5 rfl 1 rfl ?_
  refine jr_mabs_long hz wm_BS_45 wa_mabs_long_static wa_init_Math wa_mabs_long_code (Nat.le_of_ble_eq_true rfl) (Nat.le_of_ble_eq_true rfl) ⟨Nat.zero_le _, Nat.zero_le _⟩ d_BS_becomeNumber_6 ?_
  refine jr_lstore_n (lf := [(0, .ref (G.1 q)), (1, .long p1)]) hz d_BS_becomeNumber_9 rfl (by decide) rfl (fun v1 => ?_)
  refine jr_iconst (v := 0) hz d_BS_becomeNumber_10 (by decide) ?_
  refine jr_istore (lf := [(3, .long v1), (0, .ref (G.1 q)), (1, .long p1)]) hz d_BS_becomeNumber_11 (by decide) rfl (fun v2 => ?_)
  refine jr_iconst (v := 0) hz d_BS_becomeNumber_13 (by decide) ?_
  refine jr_istore (lf := [(5, .int v2), (3, .long v1), (0, .ref (G.1 q)), (1, .long p1)]) hz d_BS_becomeNumber_14 (by decide) rfl (fun v3 => ?_)
  refine jr_sub (ls' := [(0, .ref (G.1 q)), (1, .long p1), (3, .long v1), (5, .int v2), (6, .int v3)]) [3, 4, 2, 1, 0] rfl ?_
  exact jb_BS_becomeNumber_b16 hz hr hlk hq sp_fuel p1 v1 v2 v3 X1
theorem d_BS_isWellFormedSignature_0 : decode b_BS_isWellFormedSignature 0 = .ok (.aload_n 0, 1) := by decide +kernel
theorem d_BS_isWellFormedSignature_1 : decode b_BS_isWellFormedSignature 1 = .ok (.getfield 15, 3) := by decide +kernel
theorem d_BS_isWellFormedSignature_4 : decode b_BS_isWellFormedSignature 4 = .ok (.bipush 6, 2) := by decide +kernel
theorem d_BS_isWellFormedSignature_6 : decode b_BS_isWellFormedSignature 6 = .ok (.if_icmp .lt 12, 3) := by decide +kernel
theorem d_BS_isWellFormedSignature_9 : decode b_BS_isWellFormedSignature 9 = .ok (.aload_n 0, 1) := by decide +kernel
theorem d_BS_isWellFormedSignature_10 : decode b_BS_isWellFormedSignature 10 = .ok (.getfield 15, 3) := by decide +kernel
theorem d_BS_isWellFormedSignature_13 : decode b_BS_isWellFormedSignature 13 = .ok (.bipush 32, 2) := by decide +kernel
theorem d_BS_isWellFormedSignature_15 : decode b_BS_isWellFormedSignature 15 = .ok (.if_icmp .le 5, 3) := by decide +kernel
theorem d_BS_isWellFormedSignature_18 : decode b_BS_isWellFormedSignature 18 = .ok (.iconst 0, 1) := by decide +kernel
theorem d_BS_isWellFormedSignature_19 : decode b_BS_isWellFormedSignature 19 = .ok (.ireturn, 1) := by decide +kernel
theorem d_BS_isWellFormedSignature_20 : decode b_BS_isWellFormedSignature 20 = .ok (.aload_n 0, 1) := by decide +kernel
theorem d_BS_isWellFormedSignature_21 : decode b_BS_isWellFormedSignature 21 = .ok (.getfield 9, 3) := by decide +kernel
theorem d_BS_isWellFormedSignature_24 : decode b_BS_isWellFormedSignature 24 = .ok (.iconst 0, 1) := by decide +kernel
theorem d_BS_isWellFormedSignature_25 : decode b_BS_isWellFormedSignature 25 = .ok (.iaload, 1) := by decide +kernel
theorem d_BS_isWellFormedSignature_26 : decode b_BS_isWellFormedSignature 26 = .ok (.bipush 48, 2) := by decide +kernel
theorem d_BS_isWellFormedSignature_28 : decode b_BS_isWellFormedSignature 28 = .ok (.if_icmp .ne 43, 3) := by decide +kernel
theorem d_BS_isWellFormedSignature_31 : decode b_BS_isWellFormedSignature 31 = .ok (.aload_n 0, 1) := by decide +kernel
theorem d_BS_isWellFormedSignature_32 : decode b_BS_isWellFormedSignature 32 = .ok (.getfield 9, 3) := by decide +kernel
theorem d_BS_isWellFormedSignature_35 : decode b_BS_isWellFormedSignature 35 = .ok (.iconst 1, 1) := by decide +kernel
theorem d_BS_isWellFormedSignature_36 : decode b_BS_isWellFormedSignature 36 = .ok (.iaload, 1) := by decide +kernel
theorem d_BS_isWellFormedSignature_37 : decode b_BS_isWellFormedSignature 37 = .ok (.aload_n 0, 1) := by decide +kernel
theorem d_BS_isWellFormedSignature_38 : decode b_BS_isWellFormedSignature 38 = .ok (.getfield 15, 3) := by decide +kernel
theorem d_BS_isWellFormedSignature_41 : decode b_BS_isWellFormedSignature 41 = .ok (.iconst 3, 1) := by decide +kernel
theorem d_BS_isWellFormedSignature_42 : decode b_BS_isWellFormedSignature 42 = .ok (.isub, 1) := by decide +kernel
theorem d_BS_isWellFormedSignature_43 : decode b_BS_isWellFormedSignature 43 = .ok (.if_icmp .ne 28, 3) := by decide +kernel
theorem d_BS_isWellFormedSignature_46 : decode b_BS_isWellFormedSignature 46 = .ok (.aload_n 0, 1) := by decide +kernel
theorem d_BS_isWellFormedSignature_47 : decode b_BS_isWellFormedSignature 47 = .ok (.getfield 9, 3) := by decide +kernel
theorem d_BS_isWellFormedSignature_50 : decode b_BS_isWellFormedSignature 50 = .ok (.iconst 2, 1) := by decide +kernel
theorem d_BS_isWellFormedSignature_51 : decode b_BS_isWellFormedSignature 51 = .ok (.iaload, 1) := by decide +kernel
theorem d_BS_isWellFormedSignature_52 : decode b_BS_isWellFormedSignature 52 = .ok (.iconst 2, 1) := by decide +kernel
theorem d_BS_isWellFormedSignature_53 : decode b_BS_isWellFormedSignature 53 = .ok (.if_icmp .ne 18, 3) := by decide +kernel
theorem d_BS_isWellFormedSignature_56 : decode b_BS_isWellFormedSignature 56 = .ok (.aload_n 0, 1) := by decide +kernel
theorem d_BS_isWellFormedSignature_57 : decode b_BS_isWellFormedSignature 57 = .ok (.getfield 9, 3) := by decide +kernel
theorem d_BS_isWellFormedSignature_60 : decode b_BS_isWellFormedSignature 60 = .ok (.iconst 3, 1) := by decide +kernel
theorem d_BS_isWellFormedSignature_61 : decode b_BS_isWellFormedSignature 61 = .ok (.iaload, 1) := by decide +kernel
theorem d_BS_isWellFormedSignature_62 : decode b_BS_isWellFormedSignature 62 = .ok (.aload_n 0, 1) := by decide +kernel
theorem d_BS_isWellFormedSignature_63 : decode b_BS_isWellFormedSignature 63 = .ok (.getfield 15, 3) := by decide +kernel
theorem d_BS_isWellFormedSignature_66 : decode b_BS_isWellFormedSignature 66 = .ok (.iconst 5, 1) := by decide +kernel
theorem d_BS_isWellFormedSignature_67 : decode b_BS_isWellFormedSignature 67 = .ok (.isub, 1) := by decide +kernel
theorem d_BS_isWellFormedSignature_68 : decode b_BS_isWellFormedSignature 68 = .ok (.if_icmp .eq 5, 3) := by decide +kernel
theorem d_BS_isWellFormedSignature_71 : decode b_BS_isWellFormedSignature 71 = .ok (.iconst 0, 1) := by decide +kernel
theorem d_BS_isWellFormedSignature_72 : decode b_BS_isWellFormedSignature 72 = .ok (.ireturn, 1) := by decide +kernel
theorem d_BS_isWellFormedSignature_73 : decode b_BS_isWellFormedSignature 73 = .ok (.aload_n 0, 1) := by decide +kernel
theorem d_BS_isWellFormedSignature_74 : decode b_BS_isWellFormedSignature 74 = .ok (.getfield 9, 3) := by decide +kernel
theorem d_BS_isWellFormedSignature_77 : decode b_BS_isWellFormedSignature 77 = .ok (.iconst 4, 1) := by decide +kernel
theorem d_BS_isWellFormedSignature_78 : decode b_BS_isWellFormedSignature 78 = .ok (.iaload, 1) := by decide +kernel
theorem d_BS_isWellFormedSignature_79 : decode b_BS_isWellFormedSignature 79 = .ok (.ifCond .ne 30, 3) := by decide +kernel
theorem d_BS_isWellFormedSignature_82 : decode b_BS_isWellFormedSignature 82 = .ok (.aload_n 0, 1) := by decide +kernel
theorem d_BS_isWellFormedSignature_83 : decode b_BS_isWellFormedSignature 83 = .ok (.getfield 15, 3) := by decide +kernel
theorem d_BS_isWellFormedSignature_86 : decode b_BS_isWellFormedSignature 86 = .ok (.bipush 6, 2) := by decide +kernel
theorem d_BS_isWellFormedSignature_88 : decode b_BS_isWellFormedSignature 88 = .ok (.if_icmp .le 19, 3) := by decide +kernel
theorem d_BS_isWellFormedSignature_91 : decode b_BS_isWellFormedSignature 91 = .ok (.aload_n 0, 1) := by decide +kernel
theorem d_BS_isWellFormedSignature_92 : decode b_BS_isWellFormedSignature 92 = .ok (.getfield 9, 3) := by decide +kernel
theorem d_BS_isWellFormedSignature_95 : decode b_BS_isWellFormedSignature 95 = .ok (.iconst 5, 1) := by decide +kernel
theorem d_BS_isWellFormedSignature_96 : decode b_BS_isWellFormedSignature 96 = .ok (.iaload, 1) := by decide +kernel
theorem d_BS_isWellFormedSignature_97 : decode b_BS_isWellFormedSignature 97 = .ok (.sipush 128, 3) := by decide +kernel
theorem d_BS_isWellFormedSignature_100 : decode b_BS_isWellFormedSignature 100 = .ok (.if_icmp .lt 7, 3) := by decide +kernel
theorem d_BS_isWellFormedSignature_103 : decode b_BS_isWellFormedSignature 103 = .ok (.iconst 1, 1) := by decide +kernel
theorem d_BS_isWellFormedSignature_104 : decode b_BS_isWellFormedSignature 104 = .ok (.goto 4, 3) := by decide +kernel
theorem d_BS_isWellFormedSignature_107 : decode b_BS_isWellFormedSignature 107 = .ok (.iconst 0, 1) := by decide +kernel
theorem d_BS_isWellFormedSignature_108 : decode b_BS_isWellFormedSignature 108 = .ok (.ireturn, 1) := by decide +kernel
theorem d_BS_isWellFormedSignature_109 : decode b_BS_isWellFormedSignature 109 = .ok (.aload_n 0, 1) := by decide +kernel
theorem d_BS_isWellFormedSignature_110 : decode b_BS_isWellFormedSignature 110 = .ok (.getfield 9, 3) := by decide +kernel
theorem d_BS_isWellFormedSignature_113 : decode b_BS_isWellFormedSignature 113 = .ok (.iconst 4, 1) := by decide +kernel
theorem d_BS_isWellFormedSignature_114 : decode b_BS_isWellFormedSignature 114 = .ok (.iaload, 1) := by decide +kernel
theorem d_BS_isWellFormedSignature_115 : decode b_BS_isWellFormedSignature 115 = .ok (.bipush 127, 2) := by decide +kernel
theorem d_BS_isWellFormedSignature_117 : decode b_BS_isWellFormedSignature 117 = .ok (.if_icmp .gt 7, 3) := by decide +kernel
theorem d_BS_isWellFormedSignature_120 : decode b_BS_isWellFormedSignature 120 = .ok (.iconst 1, 1) := by decide +kernel
theorem d_BS_isWellFormedSignature_121 : decode b_BS_isWellFormedSignature 121 = .ok (.goto 4, 3) := by decide +kernel
theorem d_BS_isWellFormedSignature_124 : decode b_BS_isWellFormedSignature 124 = .ok (.iconst 0, 1) := by decide +kernel
theorem d_BS_isWellFormedSignature_125 : decode b_BS_isWellFormedSignature 125 = .ok (.ireturn, 1) := by decide +kernel
abbrev rm_BS_isWellFormedSignature : Room := { frames := 0, cells := 0, slots := 0, locals := 0 }
def fx_BS_isWellFormedSignature (q : Nat) (X : xh_T) : Option (Int32 × xh_T) :=
  xh_k (sp_bs q) (
  if X.1 q 1 < 6 then
  some (0, X)
  else if X.1 q 1 ≤ 32 then
  xh_o 0 (sp_len (q + 1)) (if (X.1 (q + 1) (0 : Int32).toNatClampNeg) = 48 then
  xh_o 1 (sp_len (q + 1)) (if (X.1 (q + 1) (1 : Int32).toNatClampNeg) = (X.1 q 1 - 3) then
  xh_o 2 (sp_len (q + 1)) (if (X.1 (q + 1) (2 : Int32).toNatClampNeg) = 2 then
  xh_o 3 (sp_len (q + 1)) (if (X.1 (q + 1) (3 : Int32).toNatClampNeg) = (X.1 q 1 - 5) then
  xh_o 4 (sp_len (q + 1)) (if (X.1 (q + 1) (4 : Int32).toNatClampNeg) = 0 then
  if X.1 q 1 ≤ 6 then
  some (0, X)
  else xh_o 5 (sp_len (q + 1)) (if (X.1 (q + 1) (5 : Int32).toNatClampNeg) < 128 then
  some (0, X)
  else some (1, X))
  else xh_o 4 (sp_len (q + 1)) (if 127 < (X.1 (q + 1) (4 : Int32).toNatClampNeg) then
  some (0, X)
  else some (1, X)))
  else some (0, X))
  else some (0, X))
  else some (0, X))
  else some (0, X))
  else some (0, X))
set_option maxRecDepth 100000 in
set_option maxHeartbeats 4000000 in
theorem cx_BS_isWellFormedSignature (l : Launch) (D : va_G) (G : xh_G) (hD : xh_D G) (q : Nat) (X : xh_T) : xh_M xh_Qi l D G y_BS_isWellFormedSignature b_BS_isWellFormedSignature 1 (some .boolean) rm_BS_isWellFormedSignature [.ref (G.1 q)] X (fx_BS_isWellFormedSignature q X) := by
  refine xh_enter (ls := [(0, .ref (G.1 q))]) hD (by decide +kernel) (Nat.le_of_ble_eq_true rfl) rfl ?_
  intro p e s m args below meth c hz hr hlk
  unfold fx_BS_isWellFormedSignature
  refine jr_k (fun hq => ?_)
  refine jr_aload_n hz d_BS_isWellFormedSignature_0 rfl 0 rfl ?_
  refine jr_geti (j := 1) hz (sp_bs_lt hq) (sp_bs_of hq).2.1 rfl wf_BS_15 d_BS_isWellFormedSignature_1 ?_
  refine jr_bipush (v := 6) hz d_BS_isWellFormedSignature_4 (by decide) ?_
  refine jr_icmp_lt (tgt := 18) hz d_BS_isWellFormedSignature_6 (by decide) ?_ ?_
  · refine jr_iconst (v := 0) hz d_BS_isWellFormedSignature_18 (by decide) ?_
    exact jr_zret hz hr hlk (by decide) d_BS_isWellFormedSignature_19
  · refine jr_aload_n hz d_BS_isWellFormedSignature_9 rfl 0 rfl ?_
    refine jr_geti (j := 1) hz (sp_bs_lt hq) (sp_bs_of hq).2.1 rfl wf_BS_15 d_BS_isWellFormedSignature_10 ?_
    refine jr_bipush (v := 32) hz d_BS_isWellFormedSignature_13 (by decide) ?_
    refine jr_icmp_le (tgt := 20) hz d_BS_isWellFormedSignature_15 (by decide) ?_ ?_
    · refine jr_aload_n hz d_BS_isWellFormedSignature_20 rfl 0 rfl ?_
      refine jr_getr (j := 0) (t := (q + 1)) hz (sp_bs_lt hq) (sp_bs_of hq).2.1 rfl wf_BS_9 d_BS_isWellFormedSignature_21 ?_
      refine jr_iconst (v := 0) hz d_BS_isWellFormedSignature_24 (by decide) ?_
      refine jr_iald (n := (sp_len (q + 1))) hz (sp_bs_of hq).1 (sp_bs_of hq).2.2 d_BS_isWellFormedSignature_25 ?_
      refine jr_bipush (v := 48) hz d_BS_isWellFormedSignature_26 (by decide) ?_
      refine jr_icmp_ne (tgt := 71) hz d_BS_isWellFormedSignature_28 (by decide) ?_ ?_
      · refine jr_iconst (v := 0) hz d_BS_isWellFormedSignature_71 (by decide) ?_
        exact jr_zret hz hr hlk (by decide) d_BS_isWellFormedSignature_72
      · refine jr_aload_n hz d_BS_isWellFormedSignature_31 rfl 0 rfl ?_
        refine jr_getr (j := 0) (t := (q + 1)) hz (sp_bs_lt hq) (sp_bs_of hq).2.1 rfl wf_BS_9 d_BS_isWellFormedSignature_32 ?_
        refine jr_iconst (v := 1) hz d_BS_isWellFormedSignature_35 (by decide) ?_
        refine jr_iald (n := (sp_len (q + 1))) hz (sp_bs_of hq).1 (sp_bs_of hq).2.2 d_BS_isWellFormedSignature_36 ?_
        refine jr_aload_n hz d_BS_isWellFormedSignature_37 rfl 0 rfl ?_
        refine jr_geti (j := 1) hz (sp_bs_lt hq) (sp_bs_of hq).2.1 rfl wf_BS_15 d_BS_isWellFormedSignature_38 ?_
        refine jr_iconst (v := 3) hz d_BS_isWellFormedSignature_41 (by decide) ?_
        refine jr_isub hz d_BS_isWellFormedSignature_42 ?_
        refine jr_icmp_ne (tgt := 71) hz d_BS_isWellFormedSignature_43 (by decide) ?_ ?_
        · refine jr_iconst (v := 0) hz d_BS_isWellFormedSignature_71 (by decide) ?_
          exact jr_zret hz hr hlk (by decide) d_BS_isWellFormedSignature_72
        · refine jr_aload_n hz d_BS_isWellFormedSignature_46 rfl 0 rfl ?_
          refine jr_getr (j := 0) (t := (q + 1)) hz (sp_bs_lt hq) (sp_bs_of hq).2.1 rfl wf_BS_9 d_BS_isWellFormedSignature_47 ?_
          refine jr_iconst (v := 2) hz d_BS_isWellFormedSignature_50 (by decide) ?_
          refine jr_iald (n := (sp_len (q + 1))) hz (sp_bs_of hq).1 (sp_bs_of hq).2.2 d_BS_isWellFormedSignature_51 ?_
          refine jr_iconst (v := 2) hz d_BS_isWellFormedSignature_52 (by decide) ?_
          refine jr_icmp_ne (tgt := 71) hz d_BS_isWellFormedSignature_53 (by decide) ?_ ?_
          · refine jr_iconst (v := 0) hz d_BS_isWellFormedSignature_71 (by decide) ?_
            exact jr_zret hz hr hlk (by decide) d_BS_isWellFormedSignature_72
          · refine jr_aload_n hz d_BS_isWellFormedSignature_56 rfl 0 rfl ?_
            refine jr_getr (j := 0) (t := (q + 1)) hz (sp_bs_lt hq) (sp_bs_of hq).2.1 rfl wf_BS_9 d_BS_isWellFormedSignature_57 ?_
            refine jr_iconst (v := 3) hz d_BS_isWellFormedSignature_60 (by decide) ?_
            refine jr_iald (n := (sp_len (q + 1))) hz (sp_bs_of hq).1 (sp_bs_of hq).2.2 d_BS_isWellFormedSignature_61 ?_
            refine jr_aload_n hz d_BS_isWellFormedSignature_62 rfl 0 rfl ?_
            refine jr_geti (j := 1) hz (sp_bs_lt hq) (sp_bs_of hq).2.1 rfl wf_BS_15 d_BS_isWellFormedSignature_63 ?_
            refine jr_iconst (v := 5) hz d_BS_isWellFormedSignature_66 (by decide) ?_
            refine jr_isub hz d_BS_isWellFormedSignature_67 ?_
            refine jr_icmp_eq (tgt := 73) hz d_BS_isWellFormedSignature_68 (by decide) ?_ ?_
            · refine jr_aload_n hz d_BS_isWellFormedSignature_73 rfl 0 rfl ?_
              refine jr_getr (j := 0) (t := (q + 1)) hz (sp_bs_lt hq) (sp_bs_of hq).2.1 rfl wf_BS_9 d_BS_isWellFormedSignature_74 ?_
              refine jr_iconst (v := 4) hz d_BS_isWellFormedSignature_77 (by decide) ?_
              refine jr_iald (n := (sp_len (q + 1))) hz (sp_bs_of hq).1 (sp_bs_of hq).2.2 d_BS_isWellFormedSignature_78 ?_
              refine jr_if_ne (tgt := 109) hz d_BS_isWellFormedSignature_79 (by decide) ?_ ?_
              · refine jr_aload_n hz d_BS_isWellFormedSignature_109 rfl 0 rfl ?_
                refine jr_getr (j := 0) (t := (q + 1)) hz (sp_bs_lt hq) (sp_bs_of hq).2.1 rfl wf_BS_9 d_BS_isWellFormedSignature_110 ?_
                refine jr_iconst (v := 4) hz d_BS_isWellFormedSignature_113 (by decide) ?_
                refine jr_iald (n := (sp_len (q + 1))) hz (sp_bs_of hq).1 (sp_bs_of hq).2.2 d_BS_isWellFormedSignature_114 ?_
                refine jr_bipush (v := 127) hz d_BS_isWellFormedSignature_115 (by decide) ?_
                refine jr_icmp_gt (tgt := 124) hz d_BS_isWellFormedSignature_117 (by decide) ?_ ?_
                · refine jr_iconst (v := 0) hz d_BS_isWellFormedSignature_124 (by decide) ?_
                  exact jr_zret hz hr hlk (by decide) d_BS_isWellFormedSignature_125
                · refine jr_iconst (v := 1) hz d_BS_isWellFormedSignature_120 (by decide) ?_
                  refine jr_goto (tgt := 125) hz d_BS_isWellFormedSignature_121 (by decide) ?_
                  exact jr_zret hz hr hlk (by decide) d_BS_isWellFormedSignature_125
              · refine jr_aload_n hz d_BS_isWellFormedSignature_82 rfl 0 rfl ?_
                refine jr_geti (j := 1) hz (sp_bs_lt hq) (sp_bs_of hq).2.1 rfl wf_BS_15 d_BS_isWellFormedSignature_83 ?_
                refine jr_bipush (v := 6) hz d_BS_isWellFormedSignature_86 (by decide) ?_
                refine jr_icmp_le (tgt := 107) hz d_BS_isWellFormedSignature_88 (by decide) ?_ ?_
                · refine jr_iconst (v := 0) hz d_BS_isWellFormedSignature_107 (by decide) ?_
                  exact jr_zret hz hr hlk (by decide) d_BS_isWellFormedSignature_108
                · refine jr_aload_n hz d_BS_isWellFormedSignature_91 rfl 0 rfl ?_
                  refine jr_getr (j := 0) (t := (q + 1)) hz (sp_bs_lt hq) (sp_bs_of hq).2.1 rfl wf_BS_9 d_BS_isWellFormedSignature_92 ?_
                  refine jr_iconst (v := 5) hz d_BS_isWellFormedSignature_95 (by decide) ?_
                  refine jr_iald (n := (sp_len (q + 1))) hz (sp_bs_of hq).1 (sp_bs_of hq).2.2 d_BS_isWellFormedSignature_96 ?_
                  refine jr_sipush (v := 128) hz d_BS_isWellFormedSignature_97 (by decide) ?_
                  refine jr_icmp_lt (tgt := 107) hz d_BS_isWellFormedSignature_100 (by decide) ?_ ?_
                  · refine jr_iconst (v := 0) hz d_BS_isWellFormedSignature_107 (by decide) ?_
                    exact jr_zret hz hr hlk (by decide) d_BS_isWellFormedSignature_108
                  · refine jr_iconst (v := 1) hz d_BS_isWellFormedSignature_103 (by decide) ?_
                    refine jr_goto (tgt := 108) hz d_BS_isWellFormedSignature_104 (by decide) ?_
                    exact jr_zret hz hr hlk (by decide) d_BS_isWellFormedSignature_108
            · refine jr_iconst (v := 0) hz d_BS_isWellFormedSignature_71 (by decide) ?_
              exact jr_zret hz hr hlk (by decide) d_BS_isWellFormedSignature_72
    · refine jr_iconst (v := 0) hz d_BS_isWellFormedSignature_18 (by decide) ?_
      exact jr_zret hz hr hlk (by decide) d_BS_isWellFormedSignature_19

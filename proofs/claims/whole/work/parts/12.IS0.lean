/-! printed by wip/whole/gen_walks.py -/
theorem d_IS_size_0 : decode b_IS_size 0 = .ok (.aload_n 0, 1) := by decide +kernel
theorem d_IS_size_1 : decode b_IS_size 1 = .ok (.getfield 24, 3) := by decide +kernel
theorem d_IS_size_4 : decode b_IS_size 4 = .ok (.ireturn, 1) := by decide +kernel
theorem wf_IS_24 : xh_F "SpendScript$ItemStack" 24 1 2 := ⟨R_IS, F_IS, 3, rfl, by decide, iw_IS, (sp_tb (List.mem_of_getElem? (i := 60) (by decide +kernel)))⟩
abbrev rm_IS_size : Room := { frames := 0, cells := 0, slots := 0, locals := 0 }
def fx_IS_size (S : Nat) (X : xh_T) : Option (Int32 × xh_T) :=
  xh_k (sp_is S) (
  some (X.1 S 2, X))
set_option maxRecDepth 100000 in
set_option maxHeartbeats 4000000 in
theorem cx_IS_size (l : Launch) (D : va_G) (G : xh_G) (hD : xh_D G) (S : Nat) (X : xh_T) : xh_M xh_Qi l D G y_IS_size b_IS_size 1 (some .int) rm_IS_size [.ref (G.1 S)] X (fx_IS_size S X) := by
  refine xh_enter (ls := [(0, .ref (G.1 S))]) hD (by decide +kernel) (Nat.le_of_ble_eq_true rfl) rfl ?_
  intro p e s m args below meth c hz hr hlk
  unfold fx_IS_size
  refine jr_k (fun hS => ?_)
  refine jr_aload_n hz d_IS_size_0 rfl 0 rfl ?_
  refine jr_geti (j := 2) hz (sp_is_of hS).1 (sp_is_of hS).2.1 rfl wf_IS_24 d_IS_size_1 ?_
  exact jr_iret hz hr hlk d_IS_size_4
theorem d_IS_has_0 : decode b_IS_has 0 = .ok (.iload_n 1, 1) := by decide +kernel
theorem d_IS_has_1 : decode b_IS_has 1 = .ok (.ifCond .lt 15, 3) := by decide +kernel
theorem d_IS_has_4 : decode b_IS_has 4 = .ok (.iload_n 1, 1) := by decide +kernel
theorem d_IS_has_5 : decode b_IS_has 5 = .ok (.aload_n 0, 1) := by decide +kernel
theorem d_IS_has_6 : decode b_IS_has 6 = .ok (.getfield 24, 3) := by decide +kernel
theorem d_IS_has_9 : decode b_IS_has 9 = .ok (.if_icmp .ge 7, 3) := by decide +kernel
theorem d_IS_has_12 : decode b_IS_has 12 = .ok (.iconst 1, 1) := by decide +kernel
theorem d_IS_has_13 : decode b_IS_has 13 = .ok (.goto 4, 3) := by decide +kernel
theorem d_IS_has_16 : decode b_IS_has 16 = .ok (.iconst 0, 1) := by decide +kernel
theorem d_IS_has_17 : decode b_IS_has 17 = .ok (.ireturn, 1) := by decide +kernel
abbrev rm_IS_has : Room := { frames := 0, cells := 0, slots := 0, locals := 0 }
def fx_IS_has (S : Nat) (p1 : Int32) (X : xh_T) : Option (Int32 × xh_T) :=
  xh_k (sp_is S) (
  if p1 < 0 then
  some (0, X)
  else if X.1 S 2 ≤ p1 then
  some (0, X)
  else some (1, X))
set_option maxRecDepth 100000 in
set_option maxHeartbeats 4000000 in
theorem cx_IS_has (l : Launch) (D : va_G) (G : xh_G) (hD : xh_D G) (S : Nat) (p1 : Int32) (X : xh_T) : xh_M xh_Qi l D G y_IS_has b_IS_has 2 (some .boolean) rm_IS_has [.ref (G.1 S), .int p1] X (fx_IS_has S p1 X) := by
  refine xh_enter (ls := [(0, .ref (G.1 S)), (1, .int p1)]) hD (by decide +kernel) (Nat.le_of_ble_eq_true rfl) rfl ?_
  intro p e s m args below meth c hz hr hlk
  unfold fx_IS_has
  refine jr_k (fun hS => ?_)
  refine jr_iload_n hz d_IS_has_0 rfl 1 rfl ?_
  refine jr_if_lt (tgt := 16) hz d_IS_has_1 (by decide) ?_ ?_
  · refine jr_iconst (v := 0) hz d_IS_has_16 (by decide) ?_
    exact jr_zret hz hr hlk (by decide) d_IS_has_17
  · refine jr_iload_n hz d_IS_has_4 rfl 1 rfl ?_
    refine jr_aload_n hz d_IS_has_5 rfl 0 rfl ?_
    refine jr_geti (j := 2) hz (sp_is_of hS).1 (sp_is_of hS).2.1 rfl wf_IS_24 d_IS_has_6 ?_
    refine jr_icmp_ge (tgt := 16) hz d_IS_has_9 (by decide) ?_ ?_
    · refine jr_iconst (v := 0) hz d_IS_has_16 (by decide) ?_
      exact jr_zret hz hr hlk (by decide) d_IS_has_17
    · refine jr_iconst (v := 1) hz d_IS_has_12 (by decide) ?_
      refine jr_goto (tgt := 17) hz d_IS_has_13 (by decide) ?_
      exact jr_zret hz hr hlk (by decide) d_IS_has_17
theorem d_IS_item_0 : decode b_IS_item 0 = .ok (.iload_n 1, 1) := by decide +kernel
theorem d_IS_item_1 : decode b_IS_item 1 = .ok (.ifCond .lt 27, 3) := by decide +kernel
theorem d_IS_item_4 : decode b_IS_item 4 = .ok (.iload_n 1, 1) := by decide +kernel
theorem d_IS_item_5 : decode b_IS_item 5 = .ok (.aload_n 0, 1) := by decide +kernel
theorem d_IS_item_6 : decode b_IS_item 6 = .ok (.getfield 24, 3) := by decide +kernel
theorem d_IS_item_9 : decode b_IS_item 9 = .ok (.if_icmp .ge 19, 3) := by decide +kernel
theorem d_IS_item_12 : decode b_IS_item 12 = .ok (.aload_n 0, 1) := by decide +kernel
theorem d_IS_item_13 : decode b_IS_item 13 = .ok (.getfield 11, 3) := by decide +kernel
theorem d_IS_item_16 : decode b_IS_item 16 = .ok (.aload_n 0, 1) := by decide +kernel
theorem d_IS_item_17 : decode b_IS_item 17 = .ok (.getfield 24, 3) := by decide +kernel
theorem d_IS_item_20 : decode b_IS_item 20 = .ok (.iconst 1, 1) := by decide +kernel
theorem d_IS_item_21 : decode b_IS_item 21 = .ok (.isub, 1) := by decide +kernel
theorem d_IS_item_22 : decode b_IS_item 22 = .ok (.iload_n 1, 1) := by decide +kernel
theorem d_IS_item_23 : decode b_IS_item 23 = .ok (.isub, 1) := by decide +kernel
theorem d_IS_item_24 : decode b_IS_item 24 = .ok (.aaload, 1) := by decide +kernel
theorem d_IS_item_25 : decode b_IS_item 25 = .ok (.goto 7, 3) := by decide +kernel
theorem d_IS_item_28 : decode b_IS_item 28 = .ok (.aload_n 0, 1) := by decide +kernel
theorem d_IS_item_29 : decode b_IS_item 29 = .ok (.getfield 20, 3) := by decide +kernel
theorem d_IS_item_32 : decode b_IS_item 32 = .ok (.areturn, 1) := by decide +kernel
theorem wf_IS_20 : xh_F "SpendScript$ItemStack" 20 1 1 := ⟨R_IS, F_IS, 3, rfl, by decide, iw_IS, (sp_tb (List.mem_of_getElem? (i := 59) (by decide +kernel)))⟩
theorem wf_IS_11 : xh_F "SpendScript$ItemStack" 11 1 0 := ⟨R_IS, F_IS, 3, rfl, by decide, iw_IS, (sp_tb (List.mem_of_getElem? (i := 58) (by decide +kernel)))⟩
abbrev rm_IS_item : Room := { frames := 0, cells := 0, slots := 0, locals := 0 }
def fx_IS_item (S : Nat) (p1 : Int32) (X : xh_T) : Option (Nat × xh_T) :=
  xh_k (sp_is S) (
  if p1 < 0 then
  some ((S + 62), X)
  else if X.1 S 2 ≤ p1 then
  some ((S + 62), X)
  else xh_o ((X.1 S 2 - 1) - p1) 30 (some ((X.2.1 (S + 1) (((X.1 S 2 - 1) - p1)).toNatClampNeg), X)))
set_option maxRecDepth 100000 in
set_option maxHeartbeats 4000000 in
theorem cx_IS_item (l : Launch) (D : va_G) (G : xh_G) (hD : xh_D G) (S : Nat) (p1 : Int32) (X : xh_T) : xh_M xh_Qr l D G y_IS_item b_IS_item 2 (some (.object "SpendScript$ByteString")) rm_IS_item [.ref (G.1 S), .int p1] X (fx_IS_item S p1 X) := by
  refine xh_enter (ls := [(0, .ref (G.1 S)), (1, .int p1)]) hD (by decide +kernel) (Nat.le_of_ble_eq_true rfl) rfl ?_
  intro p e s m args below meth c hz hr hlk
  unfold fx_IS_item
  refine jr_k (fun hS => ?_)
  refine jr_iload_n hz d_IS_item_0 rfl 1 rfl ?_
  refine jr_if_lt (tgt := 28) hz d_IS_item_1 (by decide) ?_ ?_
  · refine jr_aload_n hz d_IS_item_28 rfl 0 rfl ?_
    refine jr_getr (j := 1) (t := (S + 62)) hz (sp_is_of hS).1 (sp_is_of hS).2.1 rfl wf_IS_20 d_IS_item_29 ?_
    exact jr_aret hz hr hlk d_IS_item_32
  · refine jr_iload_n hz d_IS_item_4 rfl 1 rfl ?_
    refine jr_aload_n hz d_IS_item_5 rfl 0 rfl ?_
    refine jr_geti (j := 2) hz (sp_is_of hS).1 (sp_is_of hS).2.1 rfl wf_IS_24 d_IS_item_6 ?_
    refine jr_icmp_ge (tgt := 28) hz d_IS_item_9 (by decide) ?_ ?_
    · refine jr_aload_n hz d_IS_item_28 rfl 0 rfl ?_
      refine jr_getr (j := 1) (t := (S + 62)) hz (sp_is_of hS).1 (sp_is_of hS).2.1 rfl wf_IS_20 d_IS_item_29 ?_
      exact jr_aret hz hr hlk d_IS_item_32
    · refine jr_aload_n hz d_IS_item_12 rfl 0 rfl ?_
      refine jr_getr (j := 0) (t := (S + 1)) hz (sp_is_of hS).1 (sp_is_of hS).2.1 rfl wf_IS_11 d_IS_item_13 ?_
      refine jr_aload_n hz d_IS_item_16 rfl 0 rfl ?_
      refine jr_geti (j := 2) hz (sp_is_of hS).1 (sp_is_of hS).2.1 rfl wf_IS_24 d_IS_item_17 ?_
      refine jr_iconst (v := 1) hz d_IS_item_20 (by decide) ?_
      refine jr_isub hz d_IS_item_21 ?_
      refine jr_iload_n hz d_IS_item_22 rfl 1 rfl ?_
      refine jr_isub hz d_IS_item_23 ?_
      refine jr_aald (n := 30) hz (sp_is_of hS).2.2.1 (sp_is_of hS).2.2.2.1 d_IS_item_24 ?_
      refine jr_goto (tgt := 32) hz d_IS_item_25 (by decide) ?_
      exact jr_aret hz hr hlk d_IS_item_32
theorem d_IS_makeEmpty_0 : decode b_IS_makeEmpty 0 = .ok (.aload_n 0, 1) := by decide +kernel
theorem d_IS_makeEmpty_1 : decode b_IS_makeEmpty 1 = .ok (.iconst 0, 1) := by decide +kernel
theorem d_IS_makeEmpty_2 : decode b_IS_makeEmpty 2 = .ok (.putfield 24, 3) := by decide +kernel
theorem d_IS_makeEmpty_5 : decode b_IS_makeEmpty 5 = .ok (.return_, 1) := by decide +kernel
theorem wp_IS_24 : xh_Fp "SpendScript$ItemStack" 24 1 2 := ⟨R_IS, F_IS, 3, t_IS, rfl, by decide, iw_IS, (sp_tb (List.mem_of_getElem? (i := 60) (by decide +kernel))), tk_IS, nk_IS, rfl, rfl⟩
abbrev rm_IS_makeEmpty : Room := { frames := 0, cells := 0, slots := 0, locals := 0 }
def fx_IS_makeEmpty (S : Nat) (X : xh_T) : Option (Unit × xh_T) :=
  xh_k (sp_is S) (
  xh_n (xh_i X S 2 0) (fun X1 : xh_T =>
  some ((), X1)))
set_option maxRecDepth 100000 in
set_option maxHeartbeats 4000000 in
theorem cx_IS_makeEmpty (l : Launch) (D : va_G) (G : xh_G) (hD : xh_D G) (S : Nat) (X : xh_T) : xh_M xh_Qv l D G y_IS_makeEmpty b_IS_makeEmpty 1 none rm_IS_makeEmpty [.ref (G.1 S)] X (fx_IS_makeEmpty S X) := by
  refine xh_enter (ls := [(0, .ref (G.1 S))]) hD (by decide +kernel) (Nat.le_of_ble_eq_true rfl) rfl ?_
  intro p e s m args below meth c hz hr hlk
  unfold fx_IS_makeEmpty
  refine jr_k (fun hS => ?_)
  refine jr_aload_n hz d_IS_makeEmpty_0 rfl 0 rfl ?_
  refine jr_iconst (v := 0) hz d_IS_makeEmpty_1 (by decide) ?_
  refine jr_puti hz (sp_is_of hS).1 (sp_is_of hS).2.1 rfl wp_IS_24 d_IS_makeEmpty_2 (fun X1 => ?_)
  exact jr_vret hz hr hlk d_IS_makeEmpty_5
theorem d_IS_becomeCopyOf_0 : decode b_IS_becomeCopyOf 0 = .ok (.aload_n 0, 1) := by decide +kernel
theorem d_IS_becomeCopyOf_1 : decode b_IS_becomeCopyOf 1 = .ok (.aload_n 1, 1) := by decide +kernel
theorem d_IS_becomeCopyOf_2 : decode b_IS_becomeCopyOf 2 = .ok (.getfield 24, 3) := by decide +kernel
theorem d_IS_becomeCopyOf_5 : decode b_IS_becomeCopyOf 5 = .ok (.putfield 24, 3) := by decide +kernel
theorem d_IS_becomeCopyOf_8 : decode b_IS_becomeCopyOf 8 = .ok (.iconst 0, 1) := by decide +kernel
theorem d_IS_becomeCopyOf_9 : decode b_IS_becomeCopyOf 9 = .ok (.istore_n 2, 1) := by decide +kernel
theorem d_IS_becomeCopyOf_10 : decode b_IS_becomeCopyOf 10 = .ok (.iload_n 2, 1) := by decide +kernel
theorem d_IS_becomeCopyOf_11 : decode b_IS_becomeCopyOf 11 = .ok (.aload_n 0, 1) := by decide +kernel
theorem d_IS_becomeCopyOf_12 : decode b_IS_becomeCopyOf 12 = .ok (.getfield 24, 3) := by decide +kernel
theorem d_IS_becomeCopyOf_15 : decode b_IS_becomeCopyOf 15 = .ok (.if_icmp .ge 24, 3) := by decide +kernel
theorem d_IS_becomeCopyOf_18 : decode b_IS_becomeCopyOf 18 = .ok (.aload_n 0, 1) := by decide +kernel
theorem d_IS_becomeCopyOf_19 : decode b_IS_becomeCopyOf 19 = .ok (.getfield 11, 3) := by decide +kernel
theorem d_IS_becomeCopyOf_22 : decode b_IS_becomeCopyOf 22 = .ok (.iload_n 2, 1) := by decide +kernel
theorem d_IS_becomeCopyOf_23 : decode b_IS_becomeCopyOf 23 = .ok (.aaload, 1) := by decide +kernel
theorem d_IS_becomeCopyOf_24 : decode b_IS_becomeCopyOf 24 = .ok (.aload_n 1, 1) := by decide +kernel
theorem d_IS_becomeCopyOf_25 : decode b_IS_becomeCopyOf 25 = .ok (.getfield 11, 3) := by decide +kernel
theorem d_IS_becomeCopyOf_28 : decode b_IS_becomeCopyOf 28 = .ok (.iload_n 2, 1) := by decide +kernel
theorem d_IS_becomeCopyOf_29 : decode b_IS_becomeCopyOf 29 = .ok (.aaload, 1) := by decide +kernel
theorem d_IS_becomeCopyOf_30 : decode b_IS_becomeCopyOf 30 = .ok (.invokevirtual 28, 3) := by decide +kernel
theorem d_IS_becomeCopyOf_33 : decode b_IS_becomeCopyOf 33 = .ok (.iinc 2 1, 3) := by decide +kernel
theorem d_IS_becomeCopyOf_36 : decode b_IS_becomeCopyOf 36 = .ok (.goto (-26), 3) := by decide +kernel
theorem d_IS_becomeCopyOf_39 : decode b_IS_becomeCopyOf 39 = .ok (.return_, 1) := by decide +kernel
theorem wv_IS_28 : xh_V "SpendScript$ItemStack" 28 0 y_BS_becomeCopyOf b_BS_becomeCopyOf 2 none 1 := ⟨(sp_tb (List.mem_of_getElem? (i := 383) (by decide +kernel))), (sp_tb (List.mem_of_getElem? (i := 2) (by decide +kernel))), (sp_tb (List.mem_of_getElem? (i := 408) (by decide +kernel))), ⟨by decide +kernel, by decide +kernel, by decide +kernel⟩, (sp_tb (List.mem_of_getElem? (i := 381) (by decide +kernel))), (sp_tb (List.mem_of_getElem? (i := 382) (by decide +kernel))), F_BS, 2, rfl⟩
abbrev rm_IS_becomeCopyOf : Room := { frames := 2, cells := 0, slots := 0, locals := 101 }
def fx_IS_becomeCopyOf_b10 (S : Nat) (o1 : Nat) : Nat → Int32 → xh_T → Option (Unit × xh_T)
  | 0, _, _ => none
  | n + 1, a2, X => if X.1 S 2 ≤ a2 then
  some ((), X)
  else xh_o a2 30 (xh_o a2 30 (xh_b (fx_BS_becomeCopyOf (X.2.1 (S + 1) a2.toNatClampNeg) (X.2.1 (o1 + 1) a2.toNatClampNeg) X) (fun (_ : Unit) (X2 : xh_T) =>
  xh_n (a2 + 1) (fun v6 : Int32 =>
  fx_IS_becomeCopyOf_b10 S o1 n v6 X2))))
set_option maxRecDepth 100000 in
set_option maxHeartbeats 4000000 in
theorem jb_IS_becomeCopyOf_b10 {p : Program} {l : Launch} {e : Env} {s : State} {m : MethodId} {args : Array Value} {below : List Frame} {meth : Method} {c : Code} {D : va_G} {G : xh_G} {S : Nat} {o1 : Nat} (hz : xh_C p s m args c b_IS_becomeCopyOf 3 "SpendScript$ItemStack" D G (xh_A G s.heap.size)) (hr : meth.sig.returnType = none) (hlk : meth.locks = false) (hS : sp_is S = true) (ho1 : sp_is o1 = true) : ∀ (n : Nat) (a2 : Int32) (X : xh_T), xh_J p l e rm_IS_becomeCopyOf s m args below meth c 0 0 D G (xh_A G s.heap.size) 3 (fun r X' => MQ below (xh_Qv D G (xh_A G s.heap.size) r X') args s 0 0 (xh_A G s.heap.size)) 10 [(0, .ref (G.1 S)), (1, .ref (G.1 o1)), (2, .int a2)] [] X (fx_IS_becomeCopyOf_b10 S o1 n a2 X) := by
  intro n
  induction n with
  | zero => intro a2 X; exact jr_none
  | succ n ih =>
    intro a2 X
    rw [fx_IS_becomeCopyOf_b10]
    refine jr_iload_n hz d_IS_becomeCopyOf_10 rfl 2 rfl ?_
    refine jr_aload_n hz d_IS_becomeCopyOf_11 rfl 0 rfl ?_
    refine jr_geti (j := 2) hz (sp_is_of hS).1 (sp_is_of hS).2.1 rfl wf_IS_24 d_IS_becomeCopyOf_12 ?_
    refine jr_icmp_ge (tgt := 39) hz d_IS_becomeCopyOf_15 (by decide) ?_ ?_
    · exact jr_vret hz hr hlk d_IS_becomeCopyOf_39
    · refine jr_aload_n hz d_IS_becomeCopyOf_18 rfl 0 rfl ?_
      refine jr_getr (j := 0) (t := (S + 1)) hz (sp_is_of hS).1 (sp_is_of hS).2.1 rfl wf_IS_11 d_IS_becomeCopyOf_19 ?_
      refine jr_iload_n hz d_IS_becomeCopyOf_22 rfl 2 rfl ?_
      refine jr_aald (n := 30) hz (sp_is_of hS).2.2.1 (sp_is_of hS).2.2.2.1 d_IS_becomeCopyOf_23 ?_
      refine jr_aload_n hz d_IS_becomeCopyOf_24 rfl 1 rfl ?_
      refine jr_getr (j := 0) (t := (o1 + 1)) hz (sp_is_of ho1).1 (sp_is_of ho1).2.1 rfl wf_IS_11 d_IS_becomeCopyOf_25 ?_
      refine jr_iload_n hz d_IS_becomeCopyOf_28 rfl 2 rfl ?_
      refine jr_aald (n := 30) hz (sp_is_of ho1).2.2.1 (sp_is_of ho1).2.2.2.1 d_IS_becomeCopyOf_29 ?_
      refine jr_callVv (As := [.ref (G.1 (X.2.1 (o1 + 1) a2.toNatClampNeg))]) (a := (X.2.1 (S + 1) a2.toNatClampNeg)) (ci := 0) (st := []) hz (cx_BS_becomeCopyOf l D G hz.2.2.2.2.2.2.1 (X.2.1 (S + 1) a2.toNatClampNeg) (X.2.1 (o1 + 1) a2.toNatClampNeg) X) (fun z h => sp_bs_v (xh_k_t h)) wv_IS_28 ⟨rfl, rfl, Nat.le_of_ble_eq_true rfl, Nat.le_of_ble_eq_true rfl⟩ ⟨Nat.zero_le _, Nat.zero_le _⟩ rfl rfl (Nat.le_of_ble_eq_true rfl) d_IS_becomeCopyOf_30 (fun _ X2 => ?_)
      refine jr_iinc (lf := [(0, .ref (G.1 S)), (1, .ref (G.1 o1))]) (w := 1) hz d_IS_becomeCopyOf_33 2 rfl (by decide) (by decide) rfl (fun v6 => ?_)
      refine jr_goto (tgt := 10) hz d_IS_becomeCopyOf_36 (by decide) ?_
      refine jr_sub (ls' := [(0, .ref (G.1 S)), (1, .ref (G.1 o1)), (2, .int v6)]) [1, 2, 0] rfl ?_
      exact ih v6 X2
def fx_IS_becomeCopyOf (S : Nat) (o1 : Nat) (X : xh_T) : Option (Unit × xh_T) :=
  xh_k (sp_is S) (
  xh_k (sp_is o1) (
  xh_n (xh_i X S 2 (X.1 o1 2)) (fun X1 : xh_T =>
  xh_n 0 (fun v1 : Int32 =>
  fx_IS_becomeCopyOf_b10 S o1 sp_fuel v1 X1))))
set_option maxRecDepth 100000 in
set_option maxHeartbeats 4000000 in
theorem cx_IS_becomeCopyOf (l : Launch) (D : va_G) (G : xh_G) (hD : xh_D G) (S : Nat) (o1 : Nat) (X : xh_T) : xh_M xh_Qv l D G y_IS_becomeCopyOf b_IS_becomeCopyOf 3 none rm_IS_becomeCopyOf [.ref (G.1 S), .ref (G.1 o1)] X (fx_IS_becomeCopyOf S o1 X) := by
  refine xh_enter (ls := [(0, .ref (G.1 S)), (1, .ref (G.1 o1))]) hD (by decide +kernel) (Nat.le_of_ble_eq_true rfl) rfl ?_
  intro p e s m args below meth c hz hr hlk
  unfold fx_IS_becomeCopyOf
  refine jr_k (fun hS => ?_)
  refine jr_k (fun ho1 => ?_)
  refine jr_aload_n hz d_IS_becomeCopyOf_0 rfl 0 rfl ?_
  refine jr_aload_n hz d_IS_becomeCopyOf_1 rfl 1 rfl ?_
  refine jr_geti (j := 2) hz (sp_is_of ho1).1 (sp_is_of ho1).2.1 rfl wf_IS_24 d_IS_becomeCopyOf_2 ?_
  refine jr_puti hz (sp_is_of hS).1 (sp_is_of hS).2.1 rfl wp_IS_24 d_IS_becomeCopyOf_5 (fun X1 => ?_)
  refine jr_iconst (v := 0) hz d_IS_becomeCopyOf_8 (by decide) ?_
  refine jr_istore_n (lf := [(0, .ref (G.1 S)), (1, .ref (G.1 o1))]) hz d_IS_becomeCopyOf_9 rfl (by decide) rfl (fun v1 => ?_)
  refine jr_sub (ls' := [(0, .ref (G.1 S)), (1, .ref (G.1 o1)), (2, .int v1)]) [1, 2, 0] rfl ?_
  exact jb_IS_becomeCopyOf_b10 hz hr hlk hS ho1 sp_fuel v1 X1
theorem d_IS_push_0 : decode b_IS_push 0 = .ok (.aload_n 0, 1) := by decide +kernel
theorem d_IS_push_1 : decode b_IS_push 1 = .ok (.getfield 24, 3) := by decide +kernel
theorem d_IS_push_4 : decode b_IS_push 4 = .ok (.bipush 30, 2) := by decide +kernel
theorem d_IS_push_6 : decode b_IS_push 6 = .ok (.if_icmp .lt 8, 3) := by decide +kernel
theorem d_IS_push_9 : decode b_IS_push 9 = .ok (.aload_n 0, 1) := by decide +kernel
theorem d_IS_push_10 : decode b_IS_push 10 = .ok (.getfield 20, 3) := by decide +kernel
theorem d_IS_push_13 : decode b_IS_push 13 = .ok (.areturn, 1) := by decide +kernel
theorem d_IS_push_14 : decode b_IS_push 14 = .ok (.aload_n 0, 1) := by decide +kernel
theorem d_IS_push_15 : decode b_IS_push 15 = .ok (.dup, 1) := by decide +kernel
theorem d_IS_push_16 : decode b_IS_push 16 = .ok (.getfield 24, 3) := by decide +kernel
theorem d_IS_push_19 : decode b_IS_push 19 = .ok (.iconst 1, 1) := by decide +kernel
theorem d_IS_push_20 : decode b_IS_push 20 = .ok (.iadd, 1) := by decide +kernel
theorem d_IS_push_21 : decode b_IS_push 21 = .ok (.putfield 24, 3) := by decide +kernel
theorem d_IS_push_24 : decode b_IS_push 24 = .ok (.aload_n 0, 1) := by decide +kernel
theorem d_IS_push_25 : decode b_IS_push 25 = .ok (.getfield 11, 3) := by decide +kernel
theorem d_IS_push_28 : decode b_IS_push 28 = .ok (.aload_n 0, 1) := by decide +kernel
theorem d_IS_push_29 : decode b_IS_push 29 = .ok (.getfield 24, 3) := by decide +kernel
theorem d_IS_push_32 : decode b_IS_push 32 = .ok (.iconst 1, 1) := by decide +kernel
theorem d_IS_push_33 : decode b_IS_push 33 = .ok (.isub, 1) := by decide +kernel
theorem d_IS_push_34 : decode b_IS_push 34 = .ok (.aaload, 1) := by decide +kernel
theorem d_IS_push_35 : decode b_IS_push 35 = .ok (.areturn, 1) := by decide +kernel
abbrev rm_IS_push : Room := { frames := 0, cells := 0, slots := 0, locals := 0 }
def fx_IS_push (S : Nat) (X : xh_T) : Option (Nat × xh_T) :=
  xh_k (sp_is S) (
  if X.1 S 2 < 30 then
  xh_n (xh_i X S 2 (X.1 S 2 + 1)) (fun X1 : xh_T =>
  xh_o (X1.1 S 2 - 1) 30 (some ((X1.2.1 (S + 1) ((X1.1 S 2 - 1)).toNatClampNeg), X1)))
  else some ((S + 62), X))
set_option maxRecDepth 100000 in
set_option maxHeartbeats 4000000 in
theorem cx_IS_push (l : Launch) (D : va_G) (G : xh_G) (hD : xh_D G) (S : Nat) (X : xh_T) : xh_M xh_Qr l D G y_IS_push b_IS_push 1 (some (.object "SpendScript$ByteString")) rm_IS_push [.ref (G.1 S)] X (fx_IS_push S X) := by
  refine xh_enter (ls := [(0, .ref (G.1 S))]) hD (by decide +kernel) (Nat.le_of_ble_eq_true rfl) rfl ?_
  intro p e s m args below meth c hz hr hlk
  unfold fx_IS_push
  refine jr_k (fun hS => ?_)
  refine jr_aload_n hz d_IS_push_0 rfl 0 rfl ?_
  refine jr_geti (j := 2) hz (sp_is_of hS).1 (sp_is_of hS).2.1 rfl wf_IS_24 d_IS_push_1 ?_
  refine jr_bipush (v := 30) hz d_IS_push_4 (by decide) ?_
  refine jr_icmp_lt (tgt := 14) hz d_IS_push_6 (by decide) ?_ ?_
  · refine jr_aload_n hz d_IS_push_14 rfl 0 rfl ?_
    refine jr_dup hz d_IS_push_15 rfl ?_
    refine jr_geti (j := 2) hz (sp_is_of hS).1 (sp_is_of hS).2.1 rfl wf_IS_24 d_IS_push_16 ?_
    refine jr_iconst (v := 1) hz d_IS_push_19 (by decide) ?_
    refine jr_iadd hz d_IS_push_20 ?_
    refine jr_puti hz (sp_is_of hS).1 (sp_is_of hS).2.1 rfl wp_IS_24 d_IS_push_21 (fun X1 => ?_)
    refine jr_aload_n hz d_IS_push_24 rfl 0 rfl ?_
    refine jr_getr (j := 0) (t := (S + 1)) hz (sp_is_of hS).1 (sp_is_of hS).2.1 rfl wf_IS_11 d_IS_push_25 ?_
    refine jr_aload_n hz d_IS_push_28 rfl 0 rfl ?_
    refine jr_geti (j := 2) hz (sp_is_of hS).1 (sp_is_of hS).2.1 rfl wf_IS_24 d_IS_push_29 ?_
    refine jr_iconst (v := 1) hz d_IS_push_32 (by decide) ?_
    refine jr_isub hz d_IS_push_33 ?_
    refine jr_aald (n := 30) hz (sp_is_of hS).2.2.1 (sp_is_of hS).2.2.2.1 d_IS_push_34 ?_
    exact jr_aret hz hr hlk d_IS_push_35
  · refine jr_aload_n hz d_IS_push_9 rfl 0 rfl ?_
    refine jr_getr (j := 1) (t := (S + 62)) hz (sp_is_of hS).1 (sp_is_of hS).2.1 rfl wf_IS_20 d_IS_push_10 ?_
    exact jr_aret hz hr hlk d_IS_push_13
theorem d_IS_pushCopy_0 : decode b_IS_pushCopy 0 = .ok (.aload_n 0, 1) := by decide +kernel
theorem d_IS_pushCopy_1 : decode b_IS_pushCopy 1 = .ok (.iload_n 1, 1) := by decide +kernel
theorem d_IS_pushCopy_2 : decode b_IS_pushCopy 2 = .ok (.invokevirtual 32, 3) := by decide +kernel
theorem d_IS_pushCopy_5 : decode b_IS_pushCopy 5 = .ok (.astore_n 2, 1) := by decide +kernel
theorem d_IS_pushCopy_6 : decode b_IS_pushCopy 6 = .ok (.aload_n 0, 1) := by decide +kernel
theorem d_IS_pushCopy_7 : decode b_IS_pushCopy 7 = .ok (.invokevirtual 36, 3) := by decide +kernel
theorem d_IS_pushCopy_10 : decode b_IS_pushCopy 10 = .ok (.aload_n 2, 1) := by decide +kernel
theorem d_IS_pushCopy_11 : decode b_IS_pushCopy 11 = .ok (.invokevirtual 28, 3) := by decide +kernel
theorem d_IS_pushCopy_14 : decode b_IS_pushCopy 14 = .ok (.return_, 1) := by decide +kernel
theorem wv_IS_32 : xh_V "SpendScript$ItemStack" 32 1 y_IS_item b_IS_item 2 (some (.object "SpendScript$ByteString")) 1 := ⟨(sp_tb (List.mem_of_getElem? (i := 300) (by decide +kernel))), (sp_tb (List.mem_of_getElem? (i := 4) (by decide +kernel))), (sp_tb (List.mem_of_getElem? (i := 402) (by decide +kernel))), ⟨by decide +kernel, by decide +kernel, by decide +kernel⟩, (sp_tb (List.mem_of_getElem? (i := 298) (by decide +kernel))), (sp_tb (List.mem_of_getElem? (i := 299) (by decide +kernel))), F_IS, 3, rfl⟩
theorem wv_IS_36 : xh_V "SpendScript$ItemStack" 36 1 y_IS_push b_IS_push 1 (some (.object "SpendScript$ByteString")) 0 := ⟨(sp_tb (List.mem_of_getElem? (i := 255) (by decide +kernel))), (sp_tb (List.mem_of_getElem? (i := 4) (by decide +kernel))), (sp_tb (List.mem_of_getElem? (i := 407) (by decide +kernel))), ⟨by decide +kernel, by decide +kernel, by decide +kernel⟩, (sp_tb (List.mem_of_getElem? (i := 253) (by decide +kernel))), (sp_tb (List.mem_of_getElem? (i := 254) (by decide +kernel))), F_IS, 3, rfl⟩
abbrev rm_IS_pushCopy : Room := { frames := 2, cells := 0, slots := 0, locals := 101 }
def fx_IS_pushCopy (S : Nat) (p1 : Int32) (X : xh_T) : Option (Unit × xh_T) :=
  xh_k (sp_is S) (
  xh_b (fx_IS_item S p1 X) (fun (q4 : Nat) (X1 : xh_T) =>
  xh_n q4 (fun q5 : Nat =>
  xh_b (fx_IS_push S X1) (fun (q9 : Nat) (X2 : xh_T) =>
  xh_b (fx_BS_becomeCopyOf q9 q5 X2) (fun (_ : Unit) (X3 : xh_T) =>
  some ((), X3))))))
set_option maxRecDepth 100000 in
set_option maxHeartbeats 4000000 in
theorem cx_IS_pushCopy (l : Launch) (D : va_G) (G : xh_G) (hD : xh_D G) (S : Nat) (p1 : Int32) (X : xh_T) : xh_M xh_Qv l D G y_IS_pushCopy b_IS_pushCopy 3 none rm_IS_pushCopy [.ref (G.1 S), .int p1] X (fx_IS_pushCopy S p1 X) := by
  refine xh_enter (ls := [(0, .ref (G.1 S)), (1, .int p1)]) hD (by decide +kernel) (Nat.le_of_ble_eq_true rfl) rfl ?_
  intro p e s m args below meth c hz hr hlk
  unfold fx_IS_pushCopy
  refine jr_k (fun hS => ?_)
  refine jr_aload_n hz d_IS_pushCopy_0 rfl 0 rfl ?_
  refine jr_iload_n hz d_IS_pushCopy_1 rfl 1 rfl ?_
  refine jr_callVr (As := [.int p1]) (a := S) (ci := 1) (st := []) hz (cx_IS_item l D G hz.2.2.2.2.2.2.1 S p1 X) (fun z h => sp_is_v (xh_k_t h)) wv_IS_32 ⟨rfl, rfl, Nat.le_of_ble_eq_true rfl, Nat.le_of_ble_eq_true rfl⟩ ⟨Nat.zero_le _, Nat.zero_le _⟩ rfl rfl (Nat.le_of_ble_eq_true rfl) d_IS_pushCopy_2 (fun q4 X1 => ?_)
  refine jr_astore_n (lf := [(0, .ref (G.1 S)), (1, .int p1)]) hz d_IS_pushCopy_5 rfl (by decide) rfl (fun q5 => ?_)
  refine jr_aload_n hz d_IS_pushCopy_6 rfl 1 rfl ?_
  refine jr_callVr (As := []) (a := S) (ci := 1) (st := []) hz (cx_IS_push l D G hz.2.2.2.2.2.2.1 S X1) (fun z h => sp_is_v (xh_k_t h)) wv_IS_36 ⟨rfl, rfl, Nat.le_of_ble_eq_true rfl, Nat.le_of_ble_eq_true rfl⟩ ⟨Nat.zero_le _, Nat.zero_le _⟩ rfl rfl (Nat.le_of_ble_eq_true rfl) d_IS_pushCopy_7 (fun q9 X2 => ?_)
  refine jr_aload_n hz d_IS_pushCopy_10 rfl 0 rfl ?_
  refine jr_callVv (As := [.ref (G.1 q5)]) (a := q9) (ci := 0) (st := []) hz (cx_BS_becomeCopyOf l D G hz.2.2.2.2.2.2.1 q9 q5 X2) (fun z h => sp_bs_v (xh_k_t h)) wv_IS_28 ⟨rfl, rfl, Nat.le_of_ble_eq_true rfl, Nat.le_of_ble_eq_true rfl⟩ ⟨Nat.zero_le _, Nat.zero_le _⟩ rfl rfl (Nat.le_of_ble_eq_true rfl) d_IS_pushCopy_11 (fun _ X3 => ?_)
  exact jr_vret hz hr hlk d_IS_pushCopy_14
theorem d_IS_drop_0 : decode b_IS_drop 0 = .ok (.aload_n 0, 1) := by decide +kernel
theorem d_IS_drop_1 : decode b_IS_drop 1 = .ok (.iconst 0, 1) := by decide +kernel
theorem d_IS_drop_2 : decode b_IS_drop 2 = .ok (.aload_n 0, 1) := by decide +kernel
theorem d_IS_drop_3 : decode b_IS_drop 3 = .ok (.getfield 24, 3) := by decide +kernel
theorem d_IS_drop_6 : decode b_IS_drop 6 = .ok (.iload_n 1, 1) := by decide +kernel
theorem d_IS_drop_7 : decode b_IS_drop 7 = .ok (.isub, 1) := by decide +kernel
theorem d_IS_drop_8 : decode b_IS_drop 8 = .ok (.invokestatic 40, 3) := by decide +kernel
theorem d_IS_drop_11 : decode b_IS_drop 11 = .ok (.putfield 24, 3) := by decide +kernel
theorem d_IS_drop_14 : decode b_IS_drop 14 = .ok (.return_, 1) := by decide +kernel
theorem wm_IS_40 : Cond.methodLink "SpendScript$ItemStack" 40 Lib.Math.max.name ∈ sp_ws := (sp_tb (List.mem_of_getElem? (i := 309) (by decide +kernel)))
abbrev rm_IS_drop : Room := { frames := 1, cells := 0, slots := 0, locals := 80 }
def fx_IS_drop (S : Nat) (p1 : Int32) (X : xh_T) : Option (Unit × xh_T) :=
  xh_k (sp_is S) (
  xh_n (xh_i X S 2 (if 0 < (X.1 S 2 - p1) then (X.1 S 2 - p1) else 0)) (fun X1 : xh_T =>
  some ((), X1)))
set_option maxRecDepth 100000 in
set_option maxHeartbeats 4000000 in
theorem cx_IS_drop (l : Launch) (D : va_G) (G : xh_G) (hD : xh_D G) (S : Nat) (p1 : Int32) (X : xh_T) : xh_M xh_Qv l D G y_IS_drop b_IS_drop 2 none rm_IS_drop [.ref (G.1 S), .int p1] X (fx_IS_drop S p1 X) := by
  refine xh_enter (ls := [(0, .ref (G.1 S)), (1, .int p1)]) hD (by decide +kernel) (Nat.le_of_ble_eq_true rfl) rfl ?_
  intro p e s m args below meth c hz hr hlk
  unfold fx_IS_drop
  refine jr_k (fun hS => ?_)
  refine jr_aload_n hz d_IS_drop_0 rfl 0 rfl ?_
  refine jr_iconst (v := 0) hz d_IS_drop_1 (by decide) ?_
  refine jr_aload_n hz d_IS_drop_2 rfl 0 rfl ?_
  refine jr_geti (j := 2) hz (sp_is_of hS).1 (sp_is_of hS).2.1 rfl wf_IS_24 d_IS_drop_3 ?_
  refine jr_iload_n hz d_IS_drop_6 rfl 1 rfl ?_
  refine jr_isub hz d_IS_drop_7 ?_
  refine jr_mmax hz wm_IS_40 wa_mmax_static wa_init_Math wa_mmax_code (Nat.le_of_ble_eq_true rfl) (Nat.le_of_ble_eq_true rfl) ⟨Nat.zero_le _, Nat.zero_le _⟩ d_IS_drop_8 ?_
  refine jr_puti hz (sp_is_of hS).1 (sp_is_of hS).2.1 rfl wp_IS_24 d_IS_drop_11 (fun X1 => ?_)
  exact jr_vret hz hr hlk d_IS_drop_14
theorem d_IS_raise_0 : decode b_IS_raise 0 = .ok (.aload_n 0, 1) := by decide +kernel
theorem d_IS_raise_1 : decode b_IS_raise 1 = .ok (.iload_n 1, 1) := by decide +kernel
theorem d_IS_raise_2 : decode b_IS_raise 2 = .ok (.invokevirtual 46, 3) := by decide +kernel
theorem d_IS_raise_5 : decode b_IS_raise 5 = .ok (.ifCond .ne 4, 3) := by decide +kernel
theorem d_IS_raise_8 : decode b_IS_raise 8 = .ok (.return_, 1) := by decide +kernel
theorem d_IS_raise_9 : decode b_IS_raise 9 = .ok (.aload_n 0, 1) := by decide +kernel
theorem d_IS_raise_10 : decode b_IS_raise 10 = .ok (.iload_n 1, 1) := by decide +kernel
theorem d_IS_raise_11 : decode b_IS_raise 11 = .ok (.invokevirtual 32, 3) := by decide +kernel
theorem d_IS_raise_14 : decode b_IS_raise 14 = .ok (.astore_n 2, 1) := by decide +kernel
theorem d_IS_raise_15 : decode b_IS_raise 15 = .ok (.aload_n 0, 1) := by decide +kernel
theorem d_IS_raise_16 : decode b_IS_raise 16 = .ok (.getfield 24, 3) := by decide +kernel
theorem d_IS_raise_19 : decode b_IS_raise 19 = .ok (.iconst 1, 1) := by decide +kernel
theorem d_IS_raise_20 : decode b_IS_raise 20 = .ok (.isub, 1) := by decide +kernel
theorem d_IS_raise_21 : decode b_IS_raise 21 = .ok (.iload_n 1, 1) := by decide +kernel
theorem d_IS_raise_22 : decode b_IS_raise 22 = .ok (.isub, 1) := by decide +kernel
theorem d_IS_raise_23 : decode b_IS_raise 23 = .ok (.istore_n 3, 1) := by decide +kernel
theorem d_IS_raise_24 : decode b_IS_raise 24 = .ok (.iload_n 3, 1) := by decide +kernel
theorem d_IS_raise_25 : decode b_IS_raise 25 = .ok (.aload_n 0, 1) := by decide +kernel
theorem d_IS_raise_26 : decode b_IS_raise 26 = .ok (.getfield 24, 3) := by decide +kernel
theorem d_IS_raise_29 : decode b_IS_raise 29 = .ok (.iconst 1, 1) := by decide +kernel
theorem d_IS_raise_30 : decode b_IS_raise 30 = .ok (.isub, 1) := by decide +kernel
theorem d_IS_raise_31 : decode b_IS_raise 31 = .ok (.if_icmp .ge 23, 3) := by decide +kernel
theorem d_IS_raise_34 : decode b_IS_raise 34 = .ok (.aload_n 0, 1) := by decide +kernel
theorem d_IS_raise_35 : decode b_IS_raise 35 = .ok (.getfield 11, 3) := by decide +kernel
theorem d_IS_raise_38 : decode b_IS_raise 38 = .ok (.iload_n 3, 1) := by decide +kernel
theorem d_IS_raise_39 : decode b_IS_raise 39 = .ok (.aload_n 0, 1) := by decide +kernel
theorem d_IS_raise_40 : decode b_IS_raise 40 = .ok (.getfield 11, 3) := by decide +kernel
theorem d_IS_raise_43 : decode b_IS_raise 43 = .ok (.iload_n 3, 1) := by decide +kernel
theorem d_IS_raise_44 : decode b_IS_raise 44 = .ok (.iconst 1, 1) := by decide +kernel
theorem d_IS_raise_45 : decode b_IS_raise 45 = .ok (.iadd, 1) := by decide +kernel
theorem d_IS_raise_46 : decode b_IS_raise 46 = .ok (.aaload, 1) := by decide +kernel
theorem d_IS_raise_47 : decode b_IS_raise 47 = .ok (.aastore, 1) := by decide +kernel
theorem d_IS_raise_48 : decode b_IS_raise 48 = .ok (.iinc 3 1, 3) := by decide +kernel
theorem d_IS_raise_51 : decode b_IS_raise 51 = .ok (.goto (-27), 3) := by decide +kernel
theorem d_IS_raise_54 : decode b_IS_raise 54 = .ok (.aload_n 0, 1) := by decide +kernel
theorem d_IS_raise_55 : decode b_IS_raise 55 = .ok (.getfield 11, 3) := by decide +kernel
theorem d_IS_raise_58 : decode b_IS_raise 58 = .ok (.aload_n 0, 1) := by decide +kernel
theorem d_IS_raise_59 : decode b_IS_raise 59 = .ok (.getfield 24, 3) := by decide +kernel
theorem d_IS_raise_62 : decode b_IS_raise 62 = .ok (.iconst 1, 1) := by decide +kernel
theorem d_IS_raise_63 : decode b_IS_raise 63 = .ok (.isub, 1) := by decide +kernel
theorem d_IS_raise_64 : decode b_IS_raise 64 = .ok (.aload_n 2, 1) := by decide +kernel
theorem d_IS_raise_65 : decode b_IS_raise 65 = .ok (.aastore, 1) := by decide +kernel
theorem d_IS_raise_66 : decode b_IS_raise 66 = .ok (.return_, 1) := by decide +kernel
theorem wv_IS_46 : xh_V "SpendScript$ItemStack" 46 1 y_IS_has b_IS_has 2 (some .boolean) 1 := ⟨(sp_tb (List.mem_of_getElem? (i := 296) (by decide +kernel))), (sp_tb (List.mem_of_getElem? (i := 4) (by decide +kernel))), (sp_tb (List.mem_of_getElem? (i := 401) (by decide +kernel))), ⟨by decide +kernel, by decide +kernel, by decide +kernel⟩, (sp_tb (List.mem_of_getElem? (i := 294) (by decide +kernel))), (sp_tb (List.mem_of_getElem? (i := 295) (by decide +kernel))), F_IS, 3, rfl⟩
abbrev rm_IS_raise : Room := { frames := 1, cells := 0, slots := 0, locals := 21 }
def fx_IS_raise_b24 (S : Nat) : Nat → Nat → Int32 → xh_T → Option (Unit × xh_T)
  | 0, _, _, _ => none
  | n + 1, a2, a3, X => if (X.1 S 2 - 1) ≤ a3 then
  xh_o (X.1 S 2 - 1) 30 (xh_k (sp_bs a2) (xh_n (xh_r X (S + 1) ((X.1 S 2 - 1) : Int32).toNatClampNeg a2) (fun X3 : xh_T =>
  some ((), X3))))
  else xh_o (a3 + 1) 30 (xh_o a3 30 (xh_k (sp_bs (X.2.1 (S + 1) ((a3 + 1)).toNatClampNeg)) (xh_n (xh_r X (S + 1) (a3 : Int32).toNatClampNeg (X.2.1 (S + 1) ((a3 + 1)).toNatClampNeg)) (fun X4 : xh_T =>
  xh_n (a3 + 1) (fun v11 : Int32 =>
  fx_IS_raise_b24 S n a2 v11 X4)))))
set_option maxRecDepth 100000 in
set_option maxHeartbeats 4000000 in
theorem jb_IS_raise_b24 {p : Program} {l : Launch} {e : Env} {s : State} {m : MethodId} {args : Array Value} {below : List Frame} {meth : Method} {c : Code} {D : va_G} {G : xh_G} {S : Nat} (hz : xh_C p s m args c b_IS_raise 4 "SpendScript$ItemStack" D G (xh_A G s.heap.size)) (hr : meth.sig.returnType = none) (hlk : meth.locks = false) (hS : sp_is S = true) : ∀ (n : Nat) (a2 : Nat) (a3 : Int32) (X : xh_T), xh_J p l e rm_IS_raise s m args below meth c 0 0 D G (xh_A G s.heap.size) 4 (fun r X' => MQ below (xh_Qv D G (xh_A G s.heap.size) r X') args s 0 0 (xh_A G s.heap.size)) 24 [(0, .ref (G.1 S)), (2, .ref (G.1 a2)), (3, .int a3)] [] X (fx_IS_raise_b24 S n a2 a3 X) := by
  intro n
  induction n with
  | zero => intro a2 a3 X; exact jr_none
  | succ n ih =>
    intro a2 a3 X
    rw [fx_IS_raise_b24]
    refine jr_iload_n hz d_IS_raise_24 rfl 2 rfl ?_
    refine jr_aload_n hz d_IS_raise_25 rfl 0 rfl ?_
    refine jr_geti (j := 2) hz (sp_is_of hS).1 (sp_is_of hS).2.1 rfl wf_IS_24 d_IS_raise_26 ?_
    refine jr_iconst (v := 1) hz d_IS_raise_29 (by decide) ?_
    refine jr_isub hz d_IS_raise_30 ?_
    refine jr_icmp_ge (tgt := 54) hz d_IS_raise_31 (by decide) ?_ ?_
    · refine jr_aload_n hz d_IS_raise_54 rfl 0 rfl ?_
      refine jr_getr (j := 0) (t := (S + 1)) hz (sp_is_of hS).1 (sp_is_of hS).2.1 rfl wf_IS_11 d_IS_raise_55 ?_
      refine jr_aload_n hz d_IS_raise_58 rfl 0 rfl ?_
      refine jr_geti (j := 2) hz (sp_is_of hS).1 (sp_is_of hS).2.1 rfl wf_IS_24 d_IS_raise_59 ?_
      refine jr_iconst (v := 1) hz d_IS_raise_62 (by decide) ?_
      refine jr_isub hz d_IS_raise_63 ?_
      refine jr_aload_n hz d_IS_raise_64 rfl 1 rfl ?_
      refine jr_aast (n := 30) hz (sp_is_of hS).2.2.1 (sp_is_of hS).2.2.2.1 d_IS_raise_65 (fun X3 => ?_)
      exact jr_vret hz hr hlk d_IS_raise_66
    · refine jr_aload_n hz d_IS_raise_34 rfl 0 rfl ?_
      refine jr_getr (j := 0) (t := (S + 1)) hz (sp_is_of hS).1 (sp_is_of hS).2.1 rfl wf_IS_11 d_IS_raise_35 ?_
      refine jr_iload_n hz d_IS_raise_38 rfl 2 rfl ?_
      refine jr_aload_n hz d_IS_raise_39 rfl 0 rfl ?_
      refine jr_getr (j := 0) (t := (S + 1)) hz (sp_is_of hS).1 (sp_is_of hS).2.1 rfl wf_IS_11 d_IS_raise_40 ?_
      refine jr_iload_n hz d_IS_raise_43 rfl 2 rfl ?_
      refine jr_iconst (v := 1) hz d_IS_raise_44 (by decide) ?_
      refine jr_iadd hz d_IS_raise_45 ?_
      refine jr_aald (n := 30) hz (sp_is_of hS).2.2.1 (sp_is_of hS).2.2.2.1 d_IS_raise_46 ?_
      refine jr_aast (n := 30) hz (sp_is_of hS).2.2.1 (sp_is_of hS).2.2.2.1 d_IS_raise_47 (fun X4 => ?_)
      refine jr_iinc (lf := [(0, .ref (G.1 S)), (2, .ref (G.1 a2))]) (w := 1) hz d_IS_raise_48 2 rfl (by decide) (by decide) rfl (fun v11 => ?_)
      refine jr_goto (tgt := 24) hz d_IS_raise_51 (by decide) ?_
      refine jr_sub (ls' := [(0, .ref (G.1 S)), (2, .ref (G.1 a2)), (3, .int v11)]) [1, 2, 0] rfl ?_
      exact ih a2 v11 X4
def fx_IS_raise (S : Nat) (p1 : Int32) (X : xh_T) : Option (Unit × xh_T) :=
  xh_k (sp_is S) (
  xh_b (fx_IS_has S p1 X) (fun (r2 : Int32) (X1 : xh_T) =>
  if r2 = 0 then
  some ((), X1)
  else xh_b (fx_IS_item S p1 X1) (fun (q8 : Nat) (X2 : xh_T) =>
  xh_n q8 (fun q9 : Nat =>
  xh_n ((X2.1 S 2 - 1) - p1) (fun v10 : Int32 =>
  fx_IS_raise_b24 S sp_fuel q9 v10 X2)))))
set_option maxRecDepth 100000 in
set_option maxHeartbeats 4000000 in
theorem cx_IS_raise (l : Launch) (D : va_G) (G : xh_G) (hD : xh_D G) (S : Nat) (p1 : Int32) (X : xh_T) : xh_M xh_Qv l D G y_IS_raise b_IS_raise 4 none rm_IS_raise [.ref (G.1 S), .int p1] X (fx_IS_raise S p1 X) := by
  refine xh_enter (ls := [(0, .ref (G.1 S)), (1, .int p1)]) hD (by decide +kernel) (Nat.le_of_ble_eq_true rfl) rfl ?_
  intro p e s m args below meth c hz hr hlk
  unfold fx_IS_raise
  refine jr_k (fun hS => ?_)
  refine jr_aload_n hz d_IS_raise_0 rfl 0 rfl ?_
  refine jr_iload_n hz d_IS_raise_1 rfl 1 rfl ?_
  refine jr_callVi (As := [.int p1]) (a := S) (ci := 1) (st := []) hz (cx_IS_has l D G hz.2.2.2.2.2.2.1 S p1 X) (fun z h => sp_is_v (xh_k_t h)) wv_IS_46 ⟨rfl, rfl, Nat.le_of_ble_eq_true rfl, Nat.le_of_ble_eq_true rfl⟩ ⟨Nat.zero_le _, Nat.zero_le _⟩ rfl rfl (Nat.le_of_ble_eq_true rfl) d_IS_raise_2 (fun r2 X1 => ?_)
  refine jr_if_ne (tgt := 9) hz d_IS_raise_5 (by decide) ?_ ?_
  · refine jr_aload_n hz d_IS_raise_9 rfl 0 rfl ?_
    refine jr_iload_n hz d_IS_raise_10 rfl 1 rfl ?_
    refine jr_callVr (As := [.int p1]) (a := S) (ci := 1) (st := []) hz (cx_IS_item l D G hz.2.2.2.2.2.2.1 S p1 X1) (fun z h => sp_is_v (xh_k_t h)) wv_IS_32 ⟨rfl, rfl, Nat.le_of_ble_eq_true rfl, Nat.le_of_ble_eq_true rfl⟩ ⟨Nat.zero_le _, Nat.zero_le _⟩ rfl rfl (Nat.le_of_ble_eq_true rfl) d_IS_raise_11 (fun q8 X2 => ?_)
    refine jr_astore_n (lf := [(0, .ref (G.1 S)), (1, .int p1)]) hz d_IS_raise_14 rfl (by decide) rfl (fun q9 => ?_)
    refine jr_aload_n hz d_IS_raise_15 rfl 1 rfl ?_
    refine jr_geti (j := 2) hz (sp_is_of hS).1 (sp_is_of hS).2.1 rfl wf_IS_24 d_IS_raise_16 ?_
    refine jr_iconst (v := 1) hz d_IS_raise_19 (by decide) ?_
    refine jr_isub hz d_IS_raise_20 ?_
    refine jr_iload_n hz d_IS_raise_21 rfl 2 rfl ?_
    refine jr_isub hz d_IS_raise_22 ?_
    refine jr_istore_n (lf := [(2, .ref (G.1 q9)), (0, .ref (G.1 S)), (1, .int p1)]) hz d_IS_raise_23 rfl (by decide) rfl (fun v10 => ?_)
    refine jr_sub (ls' := [(0, .ref (G.1 S)), (2, .ref (G.1 q9)), (3, .int v10)]) [2, 1, 0] rfl ?_
    exact jb_IS_raise_b24 hz hr hlk hS sp_fuel q9 v10 X2
  · exact jr_vret hz hr hlk d_IS_raise_8
theorem d_IS_sinkTop_0 : decode b_IS_sinkTop 0 = .ok (.aload_n 0, 1) := by decide +kernel
theorem d_IS_sinkTop_1 : decode b_IS_sinkTop 1 = .ok (.iload_n 1, 1) := by decide +kernel
theorem d_IS_sinkTop_2 : decode b_IS_sinkTop 2 = .ok (.invokevirtual 46, 3) := by decide +kernel
theorem d_IS_sinkTop_5 : decode b_IS_sinkTop 5 = .ok (.ifCond .ne 4, 3) := by decide +kernel
theorem d_IS_sinkTop_8 : decode b_IS_sinkTop 8 = .ok (.return_, 1) := by decide +kernel
theorem d_IS_sinkTop_9 : decode b_IS_sinkTop 9 = .ok (.aload_n 0, 1) := by decide +kernel
theorem d_IS_sinkTop_10 : decode b_IS_sinkTop 10 = .ok (.iconst 0, 1) := by decide +kernel
theorem d_IS_sinkTop_11 : decode b_IS_sinkTop 11 = .ok (.invokevirtual 32, 3) := by decide +kernel
theorem d_IS_sinkTop_14 : decode b_IS_sinkTop 14 = .ok (.astore_n 2, 1) := by decide +kernel
theorem d_IS_sinkTop_15 : decode b_IS_sinkTop 15 = .ok (.aload_n 0, 1) := by decide +kernel
theorem d_IS_sinkTop_16 : decode b_IS_sinkTop 16 = .ok (.getfield 24, 3) := by decide +kernel
theorem d_IS_sinkTop_19 : decode b_IS_sinkTop 19 = .ok (.iconst 1, 1) := by decide +kernel
theorem d_IS_sinkTop_20 : decode b_IS_sinkTop 20 = .ok (.isub, 1) := by decide +kernel
theorem d_IS_sinkTop_21 : decode b_IS_sinkTop 21 = .ok (.istore_n 3, 1) := by decide +kernel
theorem d_IS_sinkTop_22 : decode b_IS_sinkTop 22 = .ok (.iload_n 3, 1) := by decide +kernel
theorem d_IS_sinkTop_23 : decode b_IS_sinkTop 23 = .ok (.aload_n 0, 1) := by decide +kernel
theorem d_IS_sinkTop_24 : decode b_IS_sinkTop 24 = .ok (.getfield 24, 3) := by decide +kernel
theorem d_IS_sinkTop_27 : decode b_IS_sinkTop 27 = .ok (.iconst 1, 1) := by decide +kernel
theorem d_IS_sinkTop_28 : decode b_IS_sinkTop 28 = .ok (.isub, 1) := by decide +kernel
theorem d_IS_sinkTop_29 : decode b_IS_sinkTop 29 = .ok (.iload_n 1, 1) := by decide +kernel
theorem d_IS_sinkTop_30 : decode b_IS_sinkTop 30 = .ok (.isub, 1) := by decide +kernel
theorem d_IS_sinkTop_31 : decode b_IS_sinkTop 31 = .ok (.if_icmp .le 23, 3) := by decide +kernel
theorem d_IS_sinkTop_34 : decode b_IS_sinkTop 34 = .ok (.aload_n 0, 1) := by decide +kernel
theorem d_IS_sinkTop_35 : decode b_IS_sinkTop 35 = .ok (.getfield 11, 3) := by decide +kernel
theorem d_IS_sinkTop_38 : decode b_IS_sinkTop 38 = .ok (.iload_n 3, 1) := by decide +kernel
theorem d_IS_sinkTop_39 : decode b_IS_sinkTop 39 = .ok (.aload_n 0, 1) := by decide +kernel
theorem d_IS_sinkTop_40 : decode b_IS_sinkTop 40 = .ok (.getfield 11, 3) := by decide +kernel
theorem d_IS_sinkTop_43 : decode b_IS_sinkTop 43 = .ok (.iload_n 3, 1) := by decide +kernel
theorem d_IS_sinkTop_44 : decode b_IS_sinkTop 44 = .ok (.iconst 1, 1) := by decide +kernel
theorem d_IS_sinkTop_45 : decode b_IS_sinkTop 45 = .ok (.isub, 1) := by decide +kernel
theorem d_IS_sinkTop_46 : decode b_IS_sinkTop 46 = .ok (.aaload, 1) := by decide +kernel
theorem d_IS_sinkTop_47 : decode b_IS_sinkTop 47 = .ok (.aastore, 1) := by decide +kernel
theorem d_IS_sinkTop_48 : decode b_IS_sinkTop 48 = .ok (.iinc 3 (-1), 3) := by decide +kernel
theorem d_IS_sinkTop_51 : decode b_IS_sinkTop 51 = .ok (.goto (-29), 3) := by decide +kernel
theorem d_IS_sinkTop_54 : decode b_IS_sinkTop 54 = .ok (.aload_n 0, 1) := by decide +kernel
theorem d_IS_sinkTop_55 : decode b_IS_sinkTop 55 = .ok (.getfield 11, 3) := by decide +kernel
theorem d_IS_sinkTop_58 : decode b_IS_sinkTop 58 = .ok (.aload_n 0, 1) := by decide +kernel
theorem d_IS_sinkTop_59 : decode b_IS_sinkTop 59 = .ok (.getfield 24, 3) := by decide +kernel
theorem d_IS_sinkTop_62 : decode b_IS_sinkTop 62 = .ok (.iconst 1, 1) := by decide +kernel
theorem d_IS_sinkTop_63 : decode b_IS_sinkTop 63 = .ok (.isub, 1) := by decide +kernel
theorem d_IS_sinkTop_64 : decode b_IS_sinkTop 64 = .ok (.iload_n 1, 1) := by decide +kernel
theorem d_IS_sinkTop_65 : decode b_IS_sinkTop 65 = .ok (.isub, 1) := by decide +kernel
theorem d_IS_sinkTop_66 : decode b_IS_sinkTop 66 = .ok (.aload_n 2, 1) := by decide +kernel
theorem d_IS_sinkTop_67 : decode b_IS_sinkTop 67 = .ok (.aastore, 1) := by decide +kernel
theorem d_IS_sinkTop_68 : decode b_IS_sinkTop 68 = .ok (.return_, 1) := by decide +kernel
abbrev rm_IS_sinkTop : Room := { frames := 1, cells := 0, slots := 0, locals := 21 }
def fx_IS_sinkTop_b22 (S : Nat) : Nat → Int32 → Nat → Int32 → xh_T → Option (Unit × xh_T)
  | 0, _, _, _, _ => none
  | n + 1, a1, a2, a3, X => if a3 ≤ ((X.1 S 2 - 1) - a1) then
  xh_o ((X.1 S 2 - 1) - a1) 30 (xh_k (sp_bs a2) (xh_n (xh_r X (S + 1) (((X.1 S 2 - 1) - a1) : Int32).toNatClampNeg a2) (fun X3 : xh_T =>
  some ((), X3))))
  else xh_o (a3 - 1) 30 (xh_o a3 30 (xh_k (sp_bs (X.2.1 (S + 1) ((a3 - 1)).toNatClampNeg)) (xh_n (xh_r X (S + 1) (a3 : Int32).toNatClampNeg (X.2.1 (S + 1) ((a3 - 1)).toNatClampNeg)) (fun X4 : xh_T =>
  xh_n (a3 + (-1)) (fun v11 : Int32 =>
  fx_IS_sinkTop_b22 S n a1 a2 v11 X4)))))
set_option maxRecDepth 100000 in
set_option maxHeartbeats 4000000 in
theorem jb_IS_sinkTop_b22 {p : Program} {l : Launch} {e : Env} {s : State} {m : MethodId} {args : Array Value} {below : List Frame} {meth : Method} {c : Code} {D : va_G} {G : xh_G} {S : Nat} (hz : xh_C p s m args c b_IS_sinkTop 4 "SpendScript$ItemStack" D G (xh_A G s.heap.size)) (hr : meth.sig.returnType = none) (hlk : meth.locks = false) (hS : sp_is S = true) : ∀ (n : Nat) (a1 : Int32) (a2 : Nat) (a3 : Int32) (X : xh_T), xh_J p l e rm_IS_sinkTop s m args below meth c 0 0 D G (xh_A G s.heap.size) 4 (fun r X' => MQ below (xh_Qv D G (xh_A G s.heap.size) r X') args s 0 0 (xh_A G s.heap.size)) 22 [(0, .ref (G.1 S)), (1, .int a1), (2, .ref (G.1 a2)), (3, .int a3)] [] X (fx_IS_sinkTop_b22 S n a1 a2 a3 X) := by
  intro n
  induction n with
  | zero => intro a1 a2 a3 X; exact jr_none
  | succ n ih =>
    intro a1 a2 a3 X
    rw [fx_IS_sinkTop_b22]
    refine jr_iload_n hz d_IS_sinkTop_22 rfl 3 rfl ?_
    refine jr_aload_n hz d_IS_sinkTop_23 rfl 0 rfl ?_
    refine jr_geti (j := 2) hz (sp_is_of hS).1 (sp_is_of hS).2.1 rfl wf_IS_24 d_IS_sinkTop_24 ?_
    refine jr_iconst (v := 1) hz d_IS_sinkTop_27 (by decide) ?_
    refine jr_isub hz d_IS_sinkTop_28 ?_
    refine jr_iload_n hz d_IS_sinkTop_29 rfl 1 rfl ?_
    refine jr_isub hz d_IS_sinkTop_30 ?_
    refine jr_icmp_le (tgt := 54) hz d_IS_sinkTop_31 (by decide) ?_ ?_
    · refine jr_aload_n hz d_IS_sinkTop_54 rfl 0 rfl ?_
      refine jr_getr (j := 0) (t := (S + 1)) hz (sp_is_of hS).1 (sp_is_of hS).2.1 rfl wf_IS_11 d_IS_sinkTop_55 ?_
      refine jr_aload_n hz d_IS_sinkTop_58 rfl 0 rfl ?_
      refine jr_geti (j := 2) hz (sp_is_of hS).1 (sp_is_of hS).2.1 rfl wf_IS_24 d_IS_sinkTop_59 ?_
      refine jr_iconst (v := 1) hz d_IS_sinkTop_62 (by decide) ?_
      refine jr_isub hz d_IS_sinkTop_63 ?_
      refine jr_iload_n hz d_IS_sinkTop_64 rfl 1 rfl ?_
      refine jr_isub hz d_IS_sinkTop_65 ?_
      refine jr_aload_n hz d_IS_sinkTop_66 rfl 2 rfl ?_
      refine jr_aast (n := 30) hz (sp_is_of hS).2.2.1 (sp_is_of hS).2.2.2.1 d_IS_sinkTop_67 (fun X3 => ?_)
      exact jr_vret hz hr hlk d_IS_sinkTop_68
    · refine jr_aload_n hz d_IS_sinkTop_34 rfl 0 rfl ?_
      refine jr_getr (j := 0) (t := (S + 1)) hz (sp_is_of hS).1 (sp_is_of hS).2.1 rfl wf_IS_11 d_IS_sinkTop_35 ?_
      refine jr_iload_n hz d_IS_sinkTop_38 rfl 3 rfl ?_
      refine jr_aload_n hz d_IS_sinkTop_39 rfl 0 rfl ?_
      refine jr_getr (j := 0) (t := (S + 1)) hz (sp_is_of hS).1 (sp_is_of hS).2.1 rfl wf_IS_11 d_IS_sinkTop_40 ?_
      refine jr_iload_n hz d_IS_sinkTop_43 rfl 3 rfl ?_
      refine jr_iconst (v := 1) hz d_IS_sinkTop_44 (by decide) ?_
      refine jr_isub hz d_IS_sinkTop_45 ?_
      refine jr_aald (n := 30) hz (sp_is_of hS).2.2.1 (sp_is_of hS).2.2.2.1 d_IS_sinkTop_46 ?_
      refine jr_aast (n := 30) hz (sp_is_of hS).2.2.1 (sp_is_of hS).2.2.2.1 d_IS_sinkTop_47 (fun X4 => ?_)
      refine jr_iinc (lf := [(0, .ref (G.1 S)), (1, .int a1), (2, .ref (G.1 a2))]) (w := (-1)) hz d_IS_sinkTop_48 3 rfl (by decide) (by decide) rfl (fun v11 => ?_)
      refine jr_goto (tgt := 22) hz d_IS_sinkTop_51 (by decide) ?_
      refine jr_sub (ls' := [(0, .ref (G.1 S)), (1, .int a1), (2, .ref (G.1 a2)), (3, .int v11)]) [1, 2, 3, 0] rfl ?_
      exact ih a1 a2 v11 X4
def fx_IS_sinkTop (S : Nat) (p1 : Int32) (X : xh_T) : Option (Unit × xh_T) :=
  xh_k (sp_is S) (
  xh_b (fx_IS_has S p1 X) (fun (r2 : Int32) (X1 : xh_T) =>
  if r2 = 0 then
  some ((), X1)
  else xh_b (fx_IS_item S 0 X1) (fun (q8 : Nat) (X2 : xh_T) =>
  xh_n q8 (fun q9 : Nat =>
  xh_n (X2.1 S 2 - 1) (fun v10 : Int32 =>
  fx_IS_sinkTop_b22 S sp_fuel p1 q9 v10 X2)))))
set_option maxRecDepth 100000 in
set_option maxHeartbeats 4000000 in
theorem cx_IS_sinkTop (l : Launch) (D : va_G) (G : xh_G) (hD : xh_D G) (S : Nat) (p1 : Int32) (X : xh_T) : xh_M xh_Qv l D G y_IS_sinkTop b_IS_sinkTop 4 none rm_IS_sinkTop [.ref (G.1 S), .int p1] X (fx_IS_sinkTop S p1 X) := by
  refine xh_enter (ls := [(0, .ref (G.1 S)), (1, .int p1)]) hD (by decide +kernel) (Nat.le_of_ble_eq_true rfl) rfl ?_
  intro p e s m args below meth c hz hr hlk
  unfold fx_IS_sinkTop
  refine jr_k (fun hS => ?_)
  refine jr_aload_n hz d_IS_sinkTop_0 rfl 0 rfl ?_
  refine jr_iload_n hz d_IS_sinkTop_1 rfl 1 rfl ?_
  refine jr_callVi (As := [.int p1]) (a := S) (ci := 1) (st := []) hz (cx_IS_has l D G hz.2.2.2.2.2.2.1 S p1 X) (fun z h => sp_is_v (xh_k_t h)) wv_IS_46 ⟨rfl, rfl, Nat.le_of_ble_eq_true rfl, Nat.le_of_ble_eq_true rfl⟩ ⟨Nat.zero_le _, Nat.zero_le _⟩ rfl rfl (Nat.le_of_ble_eq_true rfl) d_IS_sinkTop_2 (fun r2 X1 => ?_)
  refine jr_if_ne (tgt := 9) hz d_IS_sinkTop_5 (by decide) ?_ ?_
  · refine jr_aload_n hz d_IS_sinkTop_9 rfl 0 rfl ?_
    refine jr_iconst (v := 0) hz d_IS_sinkTop_10 (by decide) ?_
    refine jr_callVr (As := [.int 0]) (a := S) (ci := 1) (st := []) hz (cx_IS_item l D G hz.2.2.2.2.2.2.1 S 0 X1) (fun z h => sp_is_v (xh_k_t h)) wv_IS_32 ⟨rfl, rfl, Nat.le_of_ble_eq_true rfl, Nat.le_of_ble_eq_true rfl⟩ ⟨Nat.zero_le _, Nat.zero_le _⟩ rfl rfl (Nat.le_of_ble_eq_true rfl) d_IS_sinkTop_11 (fun q8 X2 => ?_)
    refine jr_astore_n (lf := [(0, .ref (G.1 S)), (1, .int p1)]) hz d_IS_sinkTop_14 rfl (by decide) rfl (fun q9 => ?_)
    refine jr_aload_n hz d_IS_sinkTop_15 rfl 1 rfl ?_
    refine jr_geti (j := 2) hz (sp_is_of hS).1 (sp_is_of hS).2.1 rfl wf_IS_24 d_IS_sinkTop_16 ?_
    refine jr_iconst (v := 1) hz d_IS_sinkTop_19 (by decide) ?_
    refine jr_isub hz d_IS_sinkTop_20 ?_
    refine jr_istore_n (lf := [(2, .ref (G.1 q9)), (0, .ref (G.1 S)), (1, .int p1)]) hz d_IS_sinkTop_21 rfl (by decide) rfl (fun v10 => ?_)
    refine jr_sub (ls' := [(0, .ref (G.1 S)), (1, .int p1), (2, .ref (G.1 q9)), (3, .int v10)]) [2, 3, 1, 0] rfl ?_
    exact jb_IS_sinkTop_b22 hz hr hlk hS sp_fuel p1 q9 v10 X2
  · exact jr_vret hz hr hlk d_IS_sinkTop_8

/-! printed by wip/whole/gen_walks.py -/
theorem d_SS_itemByte_0 : decode b_SS_itemByte 0 = .ok (.aload_n 0, 1) := by decide +kernel
theorem d_SS_itemByte_1 : decode b_SS_itemByte 1 = .ok (.getfield 34, 3) := by decide +kernel
theorem d_SS_itemByte_4 : decode b_SS_itemByte 4 = .ok (.iload_n 1, 1) := by decide +kernel
theorem d_SS_itemByte_5 : decode b_SS_itemByte 5 = .ok (.invokevirtual 120, 3) := by decide +kernel
theorem d_SS_itemByte_8 : decode b_SS_itemByte 8 = .ok (.iload_n 2, 1) := by decide +kernel
theorem d_SS_itemByte_9 : decode b_SS_itemByte 9 = .ok (.invokevirtual 123, 3) := by decide +kernel
theorem d_SS_itemByte_12 : decode b_SS_itemByte 12 = .ok (.ireturn, 1) := by decide +kernel
abbrev rm_SS_itemByte : Room := { frames := 1, cells := 0, slots := 0, locals := 21 }
def fx_SS_itemByte (p1 : Int32) (p2 : Int32) (X : xh_T) : Option (Int32 × xh_T) :=
  xh_b (fx_IS_item 10 p1 X) (fun (q4 : Nat) (X1 : xh_T) =>
  xh_b (fx_BS_byteAt q4 p2 X1) (fun (r5 : Int32) (X2 : xh_T) =>
  some (r5, X2)))
set_option maxRecDepth 100000 in
set_option maxHeartbeats 4000000 in
theorem cx_SS_itemByte (l : Launch) (D : va_G) (G : xh_G) (hD : xh_D G) (p1 : Int32) (p2 : Int32) (X : xh_T) : xh_M xh_Qi l D G y_SS_itemByte b_SS_itemByte 3 (some .int) rm_SS_itemByte [.ref (G.1 0), .int p1, .int p2] X (fx_SS_itemByte p1 p2 X) := by
  refine xh_enter (ls := [(0, .ref (G.1 0)), (1, .int p1), (2, .int p2)]) hD (by decide +kernel) (Nat.le_of_ble_eq_true rfl) rfl ?_
  intro p e s m args below meth c hz hr hlk
  unfold fx_SS_itemByte
  refine jr_aload_n hz d_SS_itemByte_0 rfl 0 rfl ?_
  refine jr_getr (j := 4) (t := 10) hz lq_0 ly_0 rfl wf_SS_34 d_SS_itemByte_1 ?_
  refine jr_iload_n hz d_SS_itemByte_4 rfl 1 rfl ?_
  refine jr_callVr (As := [.int p1]) (a := 10) (ci := 1) (st := []) hz (cx_IS_item l D G hz.2.2.2.2.2.2.1 10 p1 X) (fun z h => sp_is_v (xh_k_t h)) wv_SS_120 ⟨rfl, rfl, Nat.le_of_ble_eq_true rfl, Nat.le_of_ble_eq_true rfl⟩ ⟨Nat.zero_le _, Nat.zero_le _⟩ rfl rfl (Nat.le_of_ble_eq_true rfl) d_SS_itemByte_5 (fun q4 X1 => ?_)
  refine jr_iload_n hz d_SS_itemByte_8 rfl 2 rfl ?_
  refine jr_callVi (As := [.int p2]) (a := q4) (ci := 0) (st := []) hz (cx_BS_byteAt l D G hz.2.2.2.2.2.2.1 q4 p2 X1) (fun z h => sp_bs_v (xh_k_t h)) wv_SS_123 ⟨rfl, rfl, Nat.le_of_ble_eq_true rfl, Nat.le_of_ble_eq_true rfl⟩ ⟨Nat.zero_le _, Nat.zero_le _⟩ rfl rfl (Nat.le_of_ble_eq_true rfl) d_SS_itemByte_9 (fun r5 X2 => ?_)
  exact jr_iret hz hr hlk d_SS_itemByte_12

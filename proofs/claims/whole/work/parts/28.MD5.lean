/-! printed by wip/whole/gen_walks.py -/
theorem d_MD_needs_0 : decode b_MD_needs 0 = .ok (.iload_n 0, 1) := by decide +kernel
theorem d_MD_needs_1 : decode b_MD_needs 1 = .ok (.bipush 97, 2) := by decide +kernel
theorem d_MD_needs_3 : decode b_MD_needs 3 = .ok (.if_icmp .eq 33, 3) := by decide +kernel
theorem d_MD_needs_6 : decode b_MD_needs 6 = .ok (.iload_n 0, 1) := by decide +kernel
theorem d_MD_needs_7 : decode b_MD_needs 7 = .ok (.bipush 106, 2) := by decide +kernel
theorem d_MD_needs_9 : decode b_MD_needs 9 = .ok (.if_icmp .eq 27, 3) := by decide +kernel
theorem d_MD_needs_12 : decode b_MD_needs 12 = .ok (.iload_n 0, 1) := by decide +kernel
theorem d_MD_needs_13 : decode b_MD_needs 13 = .ok (.bipush 108, 2) := by decide +kernel
theorem d_MD_needs_15 : decode b_MD_needs 15 = .ok (.if_icmp .eq 21, 3) := by decide +kernel
theorem d_MD_needs_18 : decode b_MD_needs 18 = .ok (.iload_n 0, 1) := by decide +kernel
theorem d_MD_needs_19 : decode b_MD_needs 19 = .ok (.bipush 116, 2) := by decide +kernel
theorem d_MD_needs_21 : decode b_MD_needs 21 = .ok (.if_icmp .eq 15, 3) := by decide +kernel
theorem d_MD_needs_24 : decode b_MD_needs 24 = .ok (.iload_n 0, 1) := by decide +kernel
theorem d_MD_needs_25 : decode b_MD_needs 25 = .ok (.bipush 121, 2) := by decide +kernel
theorem d_MD_needs_27 : decode b_MD_needs 27 = .ok (.if_icmp .eq 9, 3) := by decide +kernel
theorem d_MD_needs_30 : decode b_MD_needs 30 = .ok (.iload_n 0, 1) := by decide +kernel
theorem d_MD_needs_31 : decode b_MD_needs 31 = .ok (.bipush 122, 2) := by decide +kernel
theorem d_MD_needs_33 : decode b_MD_needs 33 = .ok (.if_icmp .ne 5, 3) := by decide +kernel
theorem d_MD_needs_36 : decode b_MD_needs 36 = .ok (.iconst 0, 1) := by decide +kernel
theorem d_MD_needs_37 : decode b_MD_needs 37 = .ok (.ireturn, 1) := by decide +kernel
theorem d_MD_needs_38 : decode b_MD_needs 38 = .ok (.iload_n 0, 1) := by decide +kernel
theorem d_MD_needs_39 : decode b_MD_needs 39 = .ok (.bipush 123, 2) := by decide +kernel
theorem d_MD_needs_41 : decode b_MD_needs 41 = .ok (.if_icmp .ne 5, 3) := by decide +kernel
theorem d_MD_needs_44 : decode b_MD_needs 44 = .ok (.iconst 3, 1) := by decide +kernel
theorem d_MD_needs_45 : decode b_MD_needs 45 = .ok (.ireturn, 1) := by decide +kernel
theorem d_MD_needs_46 : decode b_MD_needs 46 = .ok (.iload_n 0, 1) := by decide +kernel
theorem d_MD_needs_47 : decode b_MD_needs 47 = .ok (.bipush 109, 2) := by decide +kernel
theorem d_MD_needs_49 : decode b_MD_needs 49 = .ok (.if_icmp .eq 33, 3) := by decide +kernel
theorem d_MD_needs_52 : decode b_MD_needs 52 = .ok (.iload_n 0, 1) := by decide +kernel
theorem d_MD_needs_53 : decode b_MD_needs 53 = .ok (.bipush 110, 2) := by decide +kernel
theorem d_MD_needs_55 : decode b_MD_needs 55 = .ok (.if_icmp .eq 27, 3) := by decide +kernel
theorem d_MD_needs_58 : decode b_MD_needs 58 = .ok (.iload_n 0, 1) := by decide +kernel
theorem d_MD_needs_59 : decode b_MD_needs 59 = .ok (.bipush 119, 2) := by decide +kernel
theorem d_MD_needs_61 : decode b_MD_needs 61 = .ok (.if_icmp .eq 21, 3) := by decide +kernel
theorem d_MD_needs_64 : decode b_MD_needs 64 = .ok (.iload_n 0, 1) := by decide +kernel
theorem d_MD_needs_65 : decode b_MD_needs 65 = .ok (.bipush 120, 2) := by decide +kernel
theorem d_MD_needs_67 : decode b_MD_needs 67 = .ok (.if_icmp .eq 15, 3) := by decide +kernel
theorem d_MD_needs_70 : decode b_MD_needs 70 = .ok (.iload_n 0, 1) := by decide +kernel
theorem d_MD_needs_71 : decode b_MD_needs 71 = .ok (.bipush 124, 2) := by decide +kernel
theorem d_MD_needs_73 : decode b_MD_needs 73 = .ok (.if_icmp .eq 9, 3) := by decide +kernel
theorem d_MD_needs_76 : decode b_MD_needs 76 = .ok (.iload_n 0, 1) := by decide +kernel
theorem d_MD_needs_77 : decode b_MD_needs 77 = .ok (.bipush 125, 2) := by decide +kernel
theorem d_MD_needs_79 : decode b_MD_needs 79 = .ok (.if_icmp .ne 7, 3) := by decide +kernel
theorem d_MD_needs_82 : decode b_MD_needs 82 = .ok (.iconst 2, 1) := by decide +kernel
theorem d_MD_needs_83 : decode b_MD_needs 83 = .ok (.goto 4, 3) := by decide +kernel
theorem d_MD_needs_86 : decode b_MD_needs 86 = .ok (.iconst 1, 1) := by decide +kernel
theorem d_MD_needs_87 : decode b_MD_needs 87 = .ok (.ireturn, 1) := by decide +kernel
abbrev rm_MD_needs : Room := { frames := 0, cells := 0, slots := 0, locals := 0 }
def fx_MD_needs_b82 (X : xh_T) : Option (Int32 × xh_T) :=
  some (2, X)
set_option maxRecDepth 100000 in
set_option maxHeartbeats 4000000 in
theorem jb_MD_needs_b82 {p : Program} {l : Launch} {e : Env} {s : State} {m : MethodId} {args : Array Value} {below : List Frame} {meth : Method} {c : Code} {D : va_G} {G : xh_G} (hz : xh_C p s m args c b_MD_needs 1 "SpendScriptModel" D G (xh_A G s.heap.size)) (hr : meth.sig.returnType = (some .int)) (hlk : meth.locks = false) (X : xh_T) : xh_J p l e rm_MD_needs s m args below meth c 0 0 D G (xh_A G s.heap.size) 1 (fun r X' => MQ below (xh_Qi D G (xh_A G s.heap.size) r X') args s 0 0 (xh_A G s.heap.size)) 82 [] [] X (fx_MD_needs_b82 X) := by
  unfold fx_MD_needs_b82
  refine jr_iconst (v := 2) hz d_MD_needs_82 (by decide) ?_
  refine jr_goto (tgt := 87) hz d_MD_needs_83 (by decide) ?_
  exact jr_iret hz hr hlk d_MD_needs_87
def fx_MD_needs (p1 : Int32) (X : xh_T) : Option (Int32 × xh_T) :=
  if p1 = 97 then
  some (0, X)
  else if p1 = 106 then
  some (0, X)
  else if p1 = 108 then
  some (0, X)
  else if p1 = 116 then
  some (0, X)
  else if p1 = 121 then
  some (0, X)
  else if p1 = 122 then
  some (0, X)
  else if p1 = 123 then
  some (3, X)
  else if p1 = 109 then
  fx_MD_needs_b82 X
  else if p1 = 110 then
  fx_MD_needs_b82 X
  else if p1 = 119 then
  fx_MD_needs_b82 X
  else if p1 = 120 then
  fx_MD_needs_b82 X
  else if p1 = 124 then
  fx_MD_needs_b82 X
  else if p1 = 125 then
  fx_MD_needs_b82 X
  else some (1, X)
set_option maxRecDepth 100000 in
set_option maxHeartbeats 4000000 in
theorem cx_MD_needs (l : Launch) (D : va_G) (G : xh_G) (hD : xh_D G) (p1 : Int32) (X : xh_T) : xh_M xh_Qi l D G y_MD_needs b_MD_needs 1 (some .int) rm_MD_needs [.int p1] X (fx_MD_needs p1 X) := by
  refine xh_enter (ls := [(0, .int p1)]) hD (by decide +kernel) (Nat.le_of_ble_eq_true rfl) rfl ?_
  intro p e s m args below meth c hz hr hlk
  unfold fx_MD_needs
  refine jr_iload_n hz d_MD_needs_0 rfl 0 rfl ?_
  refine jr_bipush (v := 97) hz d_MD_needs_1 (by decide) ?_
  refine jr_icmp_eq (tgt := 36) hz d_MD_needs_3 (by decide) ?_ ?_
  · refine jr_iconst (v := 0) hz d_MD_needs_36 (by decide) ?_
    exact jr_iret hz hr hlk d_MD_needs_37
  · refine jr_iload_n hz d_MD_needs_6 rfl 0 rfl ?_
    refine jr_bipush (v := 106) hz d_MD_needs_7 (by decide) ?_
    refine jr_icmp_eq (tgt := 36) hz d_MD_needs_9 (by decide) ?_ ?_
    · refine jr_iconst (v := 0) hz d_MD_needs_36 (by decide) ?_
      exact jr_iret hz hr hlk d_MD_needs_37
    · refine jr_iload_n hz d_MD_needs_12 rfl 0 rfl ?_
      refine jr_bipush (v := 108) hz d_MD_needs_13 (by decide) ?_
      refine jr_icmp_eq (tgt := 36) hz d_MD_needs_15 (by decide) ?_ ?_
      · refine jr_iconst (v := 0) hz d_MD_needs_36 (by decide) ?_
        exact jr_iret hz hr hlk d_MD_needs_37
      · refine jr_iload_n hz d_MD_needs_18 rfl 0 rfl ?_
        refine jr_bipush (v := 116) hz d_MD_needs_19 (by decide) ?_
        refine jr_icmp_eq (tgt := 36) hz d_MD_needs_21 (by decide) ?_ ?_
        · refine jr_iconst (v := 0) hz d_MD_needs_36 (by decide) ?_
          exact jr_iret hz hr hlk d_MD_needs_37
        · refine jr_iload_n hz d_MD_needs_24 rfl 0 rfl ?_
          refine jr_bipush (v := 121) hz d_MD_needs_25 (by decide) ?_
          refine jr_icmp_eq (tgt := 36) hz d_MD_needs_27 (by decide) ?_ ?_
          · refine jr_iconst (v := 0) hz d_MD_needs_36 (by decide) ?_
            exact jr_iret hz hr hlk d_MD_needs_37
          · refine jr_iload_n hz d_MD_needs_30 rfl 0 rfl ?_
            refine jr_bipush (v := 122) hz d_MD_needs_31 (by decide) ?_
            refine jr_icmp_ne (tgt := 38) hz d_MD_needs_33 (by decide) ?_ ?_
            · refine jr_iload_n hz d_MD_needs_38 rfl 0 rfl ?_
              refine jr_bipush (v := 123) hz d_MD_needs_39 (by decide) ?_
              refine jr_icmp_ne (tgt := 46) hz d_MD_needs_41 (by decide) ?_ ?_
              · refine jr_iload_n hz d_MD_needs_46 rfl 0 rfl ?_
                refine jr_bipush (v := 109) hz d_MD_needs_47 (by decide) ?_
                refine jr_icmp_eq (tgt := 82) hz d_MD_needs_49 (by decide) ?_ ?_
                · refine jr_sub (ls' := []) [] rfl ?_
                  exact jb_MD_needs_b82 hz hr hlk X
                · refine jr_iload_n hz d_MD_needs_52 rfl 0 rfl ?_
                  refine jr_bipush (v := 110) hz d_MD_needs_53 (by decide) ?_
                  refine jr_icmp_eq (tgt := 82) hz d_MD_needs_55 (by decide) ?_ ?_
                  · refine jr_sub (ls' := []) [] rfl ?_
                    exact jb_MD_needs_b82 hz hr hlk X
                  · refine jr_iload_n hz d_MD_needs_58 rfl 0 rfl ?_
                    refine jr_bipush (v := 119) hz d_MD_needs_59 (by decide) ?_
                    refine jr_icmp_eq (tgt := 82) hz d_MD_needs_61 (by decide) ?_ ?_
                    · refine jr_sub (ls' := []) [] rfl ?_
                      exact jb_MD_needs_b82 hz hr hlk X
                    · refine jr_iload_n hz d_MD_needs_64 rfl 0 rfl ?_
                      refine jr_bipush (v := 120) hz d_MD_needs_65 (by decide) ?_
                      refine jr_icmp_eq (tgt := 82) hz d_MD_needs_67 (by decide) ?_ ?_
                      · refine jr_sub (ls' := []) [] rfl ?_
                        exact jb_MD_needs_b82 hz hr hlk X
                      · refine jr_iload_n hz d_MD_needs_70 rfl 0 rfl ?_
                        refine jr_bipush (v := 124) hz d_MD_needs_71 (by decide) ?_
                        refine jr_icmp_eq (tgt := 82) hz d_MD_needs_73 (by decide) ?_ ?_
                        · refine jr_sub (ls' := []) [] rfl ?_
                          exact jb_MD_needs_b82 hz hr hlk X
                        · refine jr_iload_n hz d_MD_needs_76 rfl 0 rfl ?_
                          refine jr_bipush (v := 125) hz d_MD_needs_77 (by decide) ?_
                          refine jr_icmp_ne (tgt := 86) hz d_MD_needs_79 (by decide) ?_ ?_
                          · refine jr_iconst (v := 1) hz d_MD_needs_86 (by decide) ?_
                            exact jr_iret hz hr hlk d_MD_needs_87
                          · refine jr_sub (ls' := []) [] rfl ?_
                            exact jb_MD_needs_b82 hz hr hlk X
              · refine jr_iconst (v := 3) hz d_MD_needs_44 (by decide) ?_
                exact jr_iret hz hr hlk d_MD_needs_45
            · refine jr_iconst (v := 0) hz d_MD_needs_36 (by decide) ?_
              exact jr_iret hz hr hlk d_MD_needs_37
theorem d_MD_pick_0 : decode b_MD_pick 0 = .ok (.aload_n 0, 1) := by decide +kernel
theorem d_MD_pick_1 : decode b_MD_pick 1 = .ok (.iconst 0, 1) := by decide +kernel
theorem d_MD_pick_2 : decode b_MD_pick 2 = .ok (.invokevirtual 157, 3) := by decide +kernel
theorem d_MD_pick_5 : decode b_MD_pick 5 = .ok (.istore_n 2, 1) := by decide +kernel
theorem d_MD_pick_6 : decode b_MD_pick 6 = .ok (.iload_n 2, 1) := by decide +kernel
theorem d_MD_pick_7 : decode b_MD_pick 7 = .ok (.ifCond .le 5, 3) := by decide +kernel
theorem d_MD_pick_10 : decode b_MD_pick 10 = .ok (.iload_n 2, 1) := by decide +kernel
theorem d_MD_pick_11 : decode b_MD_pick 11 = .ok (.ireturn, 1) := by decide +kernel
theorem d_MD_pick_12 : decode b_MD_pick 12 = .ok (.aload_n 0, 1) := by decide +kernel
theorem d_MD_pick_13 : decode b_MD_pick 13 = .ok (.getfield 35, 3) := by decide +kernel
theorem d_MD_pick_16 : decode b_MD_pick 16 = .ok (.iconst 0, 1) := by decide +kernel
theorem d_MD_pick_17 : decode b_MD_pick 17 = .ok (.laload, 1) := by decide +kernel
theorem d_MD_pick_18 : decode b_MD_pick 18 = .ok (.lconst 0, 1) := by decide +kernel
theorem d_MD_pick_19 : decode b_MD_pick 19 = .ok (.lcmp, 1) := by decide +kernel
theorem d_MD_pick_20 : decode b_MD_pick 20 = .ok (.ifCond .ge 6, 3) := by decide +kernel
theorem d_MD_pick_23 : decode b_MD_pick 23 = .ok (.bipush 13, 2) := by decide +kernel
theorem d_MD_pick_25 : decode b_MD_pick 25 = .ok (.ireturn, 1) := by decide +kernel
theorem d_MD_pick_26 : decode b_MD_pick 26 = .ok (.aload_n 0, 1) := by decide +kernel
theorem d_MD_pick_27 : decode b_MD_pick 27 = .ok (.getfield 35, 3) := by decide +kernel
theorem d_MD_pick_30 : decode b_MD_pick 30 = .ok (.iconst 0, 1) := by decide +kernel
theorem d_MD_pick_31 : decode b_MD_pick 31 = .ok (.laload, 1) := by decide +kernel
theorem d_MD_pick_32 : decode b_MD_pick 32 = .ok (.aload_n 0, 1) := by decide +kernel
theorem d_MD_pick_33 : decode b_MD_pick 33 = .ok (.getfield 56, 3) := by decide +kernel
theorem d_MD_pick_36 : decode b_MD_pick 36 = .ok (.iconst 2, 1) := by decide +kernel
theorem d_MD_pick_37 : decode b_MD_pick 37 = .ok (.isub, 1) := by decide +kernel
theorem d_MD_pick_38 : decode b_MD_pick 38 = .ok (.i2l, 1) := by decide +kernel
theorem d_MD_pick_39 : decode b_MD_pick 39 = .ok (.lcmp, 1) := by decide +kernel
theorem d_MD_pick_40 : decode b_MD_pick 40 = .ok (.ifCond .le 6, 3) := by decide +kernel
theorem d_MD_pick_43 : decode b_MD_pick 43 = .ok (.bipush 11, 2) := by decide +kernel
theorem d_MD_pick_45 : decode b_MD_pick 45 = .ok (.ireturn, 1) := by decide +kernel
theorem d_MD_pick_46 : decode b_MD_pick 46 = .ok (.aload_n 0, 1) := by decide +kernel
theorem d_MD_pick_47 : decode b_MD_pick 47 = .ok (.getfield 35, 3) := by decide +kernel
theorem d_MD_pick_50 : decode b_MD_pick 50 = .ok (.iconst 0, 1) := by decide +kernel
theorem d_MD_pick_51 : decode b_MD_pick 51 = .ok (.laload, 1) := by decide +kernel
theorem d_MD_pick_52 : decode b_MD_pick 52 = .ok (.l2i, 1) := by decide +kernel
theorem d_MD_pick_53 : decode b_MD_pick 53 = .ok (.istore_n 3, 1) := by decide +kernel
theorem d_MD_pick_54 : decode b_MD_pick 54 = .ok (.aload_n 0, 1) := by decide +kernel
theorem d_MD_pick_55 : decode b_MD_pick 55 = .ok (.iconst 1, 1) := by decide +kernel
theorem d_MD_pick_56 : decode b_MD_pick 56 = .ok (.invokevirtual 138, 3) := by decide +kernel
theorem d_MD_pick_59 : decode b_MD_pick 59 = .ok (.aload_n 0, 1) := by decide +kernel
theorem d_MD_pick_60 : decode b_MD_pick 60 = .ok (.iload_n 3, 1) := by decide +kernel
theorem d_MD_pick_61 : decode b_MD_pick 61 = .ok (.invokevirtual 151, 3) := by decide +kernel
theorem d_MD_pick_64 : decode b_MD_pick 64 = .ok (.iload_n 1, 1) := by decide +kernel
theorem d_MD_pick_65 : decode b_MD_pick 65 = .ok (.bipush 122, 2) := by decide +kernel
theorem d_MD_pick_67 : decode b_MD_pick 67 = .ok (.if_icmp .ne 10, 3) := by decide +kernel
theorem d_MD_pick_70 : decode b_MD_pick 70 = .ok (.aload_n 0, 1) := by decide +kernel
theorem d_MD_pick_71 : decode b_MD_pick 71 = .ok (.iload_n 3, 1) := by decide +kernel
theorem d_MD_pick_72 : decode b_MD_pick 72 = .ok (.iconst 1, 1) := by decide +kernel
theorem d_MD_pick_73 : decode b_MD_pick 73 = .ok (.iadd, 1) := by decide +kernel
theorem d_MD_pick_74 : decode b_MD_pick 74 = .ok (.invokevirtual 154, 3) := by decide +kernel
theorem d_MD_pick_77 : decode b_MD_pick 77 = .ok (.iconst 0, 1) := by decide +kernel
theorem d_MD_pick_78 : decode b_MD_pick 78 = .ok (.ireturn, 1) := by decide +kernel
theorem wv_MD_151 : xh_V "SpendScriptModel" 151 7 y_MD_again b_MD_again 2 none 1 := ⟨(sp_tb (List.mem_of_getElem? (i := 730) (by decide +kernel))), (sp_tb (List.mem_of_getElem? (i := 8) (by decide +kernel))), (sp_tb (List.mem_of_getElem? (i := 727) (by decide +kernel))), ⟨by decide +kernel, by decide +kernel, by decide +kernel⟩, (sp_tb (List.mem_of_getElem? (i := 729) (by decide +kernel))), (sp_pv (q := (y_MD_again, 19)) (List.mem_of_getElem? (i := 46) (by decide +kernel))), F_MD, 19, rfl⟩
theorem wv_MD_154 : xh_V "SpendScriptModel" 154 7 y_MD_remove b_MD_remove 3 none 1 := ⟨(sp_tb (List.mem_of_getElem? (i := 737) (by decide +kernel))), (sp_tb (List.mem_of_getElem? (i := 8) (by decide +kernel))), (sp_tb (List.mem_of_getElem? (i := 734) (by decide +kernel))), ⟨by decide +kernel, by decide +kernel, by decide +kernel⟩, (sp_tb (List.mem_of_getElem? (i := 736) (by decide +kernel))), (sp_pv (q := (y_MD_remove, 19)) (List.mem_of_getElem? (i := 47) (by decide +kernel))), F_MD, 19, rfl⟩
abbrev rm_MD_pick : Room := { frames := 4, cells := 0, slots := 0, locals := 90 }
def fx_MD_pick (p1 : Int32) (X : xh_T) : Option (Int32 × xh_T) :=
  xh_b (fx_MD_take 0 X) (fun (r1 : Int32) (X1 : xh_T) =>
  xh_n r1 (fun v5 : Int32 =>
  if v5 ≤ 0 then
  xh_o 0 3 (if 0 ≤ (lg_cmp (X1.2.2 215 (0 : Int32).toNatClampNeg) 0) then
  xh_o 0 3 (if (lg_cmp (X1.2.2 215 (0 : Int32).toNatClampNeg) (((X1.1 206 5 - 2) : Int32).toInt64)) ≤ 0 then
  xh_o 0 3 (xh_n (((X1.2.2 215 (0 : Int32).toNatClampNeg) : Int64).toInt32) (fun v6 : Int32 =>
  xh_b (fx_MD_pop 1 X1) (fun (_ : Unit) (X2 : xh_T) =>
  xh_b (fx_MD_again v6 X2) (fun (_ : Unit) (X3 : xh_T) =>
  if p1 = 122 then
  xh_b (fx_MD_remove (v6 + 1) X3) (fun (_ : Unit) (X4 : xh_T) =>
  some (0, X4))
  else some (0, X3)))))
  else some (11, X1))
  else some (13, X1))
  else some (v5, X1)))
set_option maxRecDepth 100000 in
set_option maxHeartbeats 4000000 in
theorem cx_MD_pick (l : Launch) (D : va_G) (G : xh_G) (hD : xh_D G) (p1 : Int32) (X : xh_T) : xh_M xh_Qi l D G y_MD_pick b_MD_pick 4 (some .int) rm_MD_pick [.ref (G.1 206), .int p1] X (fx_MD_pick p1 X) := by
  refine xh_enter (ls := [(0, .ref (G.1 206)), (1, .int p1)]) hD (by decide +kernel) (Nat.le_of_ble_eq_true rfl) rfl ?_
  intro p e s m args below meth c hz hr hlk
  unfold fx_MD_pick
  refine jr_aload_n hz d_MD_pick_0 rfl 0 rfl ?_
  refine jr_iconst (v := 0) hz d_MD_pick_1 (by decide) ?_
  refine jr_callVi (As := [.int 0]) (a := 206) (ci := 7) (st := []) hz (cx_MD_take l D G hz.2.2.2.2.2.2.1 0 X) (fun _ _ => ⟨lq_206, _, ly_206⟩) wv_MD_157 ⟨rfl, rfl, Nat.le_of_ble_eq_true rfl, Nat.le_of_ble_eq_true rfl⟩ ⟨Nat.zero_le _, Nat.zero_le _⟩ rfl rfl (Nat.le_of_ble_eq_true rfl) d_MD_pick_2 (fun r1 X1 => ?_)
  refine jr_istore_n (lf := [(0, .ref (G.1 206)), (1, .int p1)]) hz d_MD_pick_5 rfl (by decide) rfl (fun v5 => ?_)
  refine jr_iload_n hz d_MD_pick_6 rfl 0 rfl ?_
  refine jr_if_le (tgt := 12) hz d_MD_pick_7 (by decide) ?_ ?_
  · refine jr_aload_n hz d_MD_pick_12 rfl 1 rfl ?_
    refine jr_getr (j := 18) (t := 215) hz lq_206 ly_206 rfl wf_MD_35 d_MD_pick_13 ?_
    refine jr_iconst (v := 0) hz d_MD_pick_16 (by decide) ?_
    refine jr_lald (n := 3) hz lq_215 ly_215 d_MD_pick_17 ?_
    refine jr_lconst (v := 0) hz d_MD_pick_18 (by decide) ?_
    refine jr_lcmp hz d_MD_pick_19 ?_
    refine jr_if_ge (tgt := 26) hz d_MD_pick_20 (by decide) ?_ ?_
    · refine jr_aload_n hz d_MD_pick_26 rfl 1 rfl ?_
      refine jr_getr (j := 18) (t := 215) hz lq_206 ly_206 rfl wf_MD_35 d_MD_pick_27 ?_
      refine jr_iconst (v := 0) hz d_MD_pick_30 (by decide) ?_
      refine jr_lald (n := 3) hz lq_215 ly_215 d_MD_pick_31 ?_
      refine jr_aload_n hz d_MD_pick_32 rfl 1 rfl ?_
      refine jr_geti (j := 5) hz lq_206 ly_206 rfl wf_MD_56 d_MD_pick_33 ?_
      refine jr_iconst (v := 2) hz d_MD_pick_36 (by decide) ?_
      refine jr_isub hz d_MD_pick_37 ?_
      refine jr_i2l hz d_MD_pick_38 ?_
      refine jr_lcmp hz d_MD_pick_39 ?_
      refine jr_if_le (tgt := 46) hz d_MD_pick_40 (by decide) ?_ ?_
      · refine jr_aload_n hz d_MD_pick_46 rfl 1 rfl ?_
        refine jr_getr (j := 18) (t := 215) hz lq_206 ly_206 rfl wf_MD_35 d_MD_pick_47 ?_
        refine jr_iconst (v := 0) hz d_MD_pick_50 (by decide) ?_
        refine jr_lald (n := 3) hz lq_215 ly_215 d_MD_pick_51 ?_
        refine jr_l2i hz d_MD_pick_52 ?_
        refine jr_istore_n (lf := [(2, .int v5), (0, .ref (G.1 206)), (1, .int p1)]) hz d_MD_pick_53 rfl (by decide) rfl (fun v6 => ?_)
        refine jr_aload_n hz d_MD_pick_54 rfl 2 rfl ?_
        refine jr_iconst (v := 1) hz d_MD_pick_55 (by decide) ?_
        refine jr_callVv (As := [.int 1]) (a := 206) (ci := 7) (st := []) hz (cx_MD_pop l D G hz.2.2.2.2.2.2.1 1 X1) (fun _ _ => ⟨lq_206, _, ly_206⟩) wv_MD_138 ⟨rfl, rfl, Nat.le_of_ble_eq_true rfl, Nat.le_of_ble_eq_true rfl⟩ ⟨Nat.zero_le _, Nat.zero_le _⟩ rfl rfl (Nat.le_of_ble_eq_true rfl) d_MD_pick_56 (fun _ X2 => ?_)
        refine jr_aload_n hz d_MD_pick_59 rfl 2 rfl ?_
        refine jr_iload_n hz d_MD_pick_60 rfl 0 rfl ?_
        refine jr_callVv (As := [.int v6]) (a := 206) (ci := 7) (st := []) hz (cx_MD_again l D G hz.2.2.2.2.2.2.1 v6 X2) (fun _ _ => ⟨lq_206, _, ly_206⟩) wv_MD_151 ⟨rfl, rfl, Nat.le_of_ble_eq_true rfl, Nat.le_of_ble_eq_true rfl⟩ ⟨Nat.zero_le _, Nat.zero_le _⟩ rfl rfl (Nat.le_of_ble_eq_true rfl) d_MD_pick_61 (fun _ X3 => ?_)
        refine jr_iload_n hz d_MD_pick_64 rfl 3 rfl ?_
        refine jr_bipush (v := 122) hz d_MD_pick_65 (by decide) ?_
        refine jr_icmp_ne (tgt := 77) hz d_MD_pick_67 (by decide) ?_ ?_
        · refine jr_iconst (v := 0) hz d_MD_pick_77 (by decide) ?_
          exact jr_iret hz hr hlk d_MD_pick_78
        · refine jr_aload_n hz d_MD_pick_70 rfl 2 rfl ?_
          refine jr_iload_n hz d_MD_pick_71 rfl 0 rfl ?_
          refine jr_iconst (v := 1) hz d_MD_pick_72 (by decide) ?_
          refine jr_iadd hz d_MD_pick_73 ?_
          refine jr_callVv (As := [.int (v6 + 1)]) (a := 206) (ci := 7) (st := []) hz (cx_MD_remove l D G hz.2.2.2.2.2.2.1 (v6 + 1) X3) (fun _ _ => ⟨lq_206, _, ly_206⟩) wv_MD_154 ⟨rfl, rfl, Nat.le_of_ble_eq_true rfl, Nat.le_of_ble_eq_true rfl⟩ ⟨Nat.zero_le _, Nat.zero_le _⟩ rfl rfl (Nat.le_of_ble_eq_true rfl) d_MD_pick_74 (fun _ X4 => ?_)
          refine jr_iconst (v := 0) hz d_MD_pick_77 (by decide) ?_
          exact jr_iret hz hr hlk d_MD_pick_78
      · refine jr_bipush (v := 11) hz d_MD_pick_43 (by decide) ?_
        exact jr_iret hz hr hlk d_MD_pick_45
    · refine jr_bipush (v := 13) hz d_MD_pick_23 (by decide) ?_
      exact jr_iret hz hr hlk d_MD_pick_25
  · refine jr_iload_n hz d_MD_pick_10 rfl 0 rfl ?_
    exact jr_iret hz hr hlk d_MD_pick_11
theorem d_MD_grows_0 : decode b_MD_grows 0 = .ok (.iload_n 0, 1) := by decide +kernel
theorem d_MD_grows_1 : decode b_MD_grows 1 = .ok (.bipush 110, 2) := by decide +kernel
theorem d_MD_grows_3 : decode b_MD_grows 3 = .ok (.if_icmp .ne 5, 3) := by decide +kernel
theorem d_MD_grows_6 : decode b_MD_grows 6 = .ok (.iconst 2, 1) := by decide +kernel
theorem d_MD_grows_7 : decode b_MD_grows 7 = .ok (.ireturn, 1) := by decide +kernel
theorem d_MD_grows_8 : decode b_MD_grows 8 = .ok (.iload_n 0, 1) := by decide +kernel
theorem d_MD_grows_9 : decode b_MD_grows 9 = .ok (.bipush 116, 2) := by decide +kernel
theorem d_MD_grows_11 : decode b_MD_grows 11 = .ok (.if_icmp .eq 21, 3) := by decide +kernel
theorem d_MD_grows_14 : decode b_MD_grows 14 = .ok (.iload_n 0, 1) := by decide +kernel
theorem d_MD_grows_15 : decode b_MD_grows 15 = .ok (.bipush 118, 2) := by decide +kernel
theorem d_MD_grows_17 : decode b_MD_grows 17 = .ok (.if_icmp .eq 15, 3) := by decide +kernel
theorem d_MD_grows_20 : decode b_MD_grows 20 = .ok (.iload_n 0, 1) := by decide +kernel
theorem d_MD_grows_21 : decode b_MD_grows 21 = .ok (.bipush 120, 2) := by decide +kernel
theorem d_MD_grows_23 : decode b_MD_grows 23 = .ok (.if_icmp .eq 9, 3) := by decide +kernel
theorem d_MD_grows_26 : decode b_MD_grows 26 = .ok (.iload_n 0, 1) := by decide +kernel
theorem d_MD_grows_27 : decode b_MD_grows 27 = .ok (.bipush 125, 2) := by decide +kernel
theorem d_MD_grows_29 : decode b_MD_grows 29 = .ok (.if_icmp .ne 7, 3) := by decide +kernel
theorem d_MD_grows_32 : decode b_MD_grows 32 = .ok (.iconst 1, 1) := by decide +kernel
theorem d_MD_grows_33 : decode b_MD_grows 33 = .ok (.goto 4, 3) := by decide +kernel
theorem d_MD_grows_36 : decode b_MD_grows 36 = .ok (.iconst 0, 1) := by decide +kernel
theorem d_MD_grows_37 : decode b_MD_grows 37 = .ok (.ireturn, 1) := by decide +kernel
abbrev rm_MD_grows : Room := { frames := 0, cells := 0, slots := 0, locals := 0 }
def fx_MD_grows_b32 (X : xh_T) : Option (Int32 × xh_T) :=
  some (1, X)
set_option maxRecDepth 100000 in
set_option maxHeartbeats 4000000 in
theorem jb_MD_grows_b32 {p : Program} {l : Launch} {e : Env} {s : State} {m : MethodId} {args : Array Value} {below : List Frame} {meth : Method} {c : Code} {D : va_G} {G : xh_G} (hz : xh_C p s m args c b_MD_grows 1 "SpendScriptModel" D G (xh_A G s.heap.size)) (hr : meth.sig.returnType = (some .int)) (hlk : meth.locks = false) (X : xh_T) : xh_J p l e rm_MD_grows s m args below meth c 0 0 D G (xh_A G s.heap.size) 1 (fun r X' => MQ below (xh_Qi D G (xh_A G s.heap.size) r X') args s 0 0 (xh_A G s.heap.size)) 32 [] [] X (fx_MD_grows_b32 X) := by
  unfold fx_MD_grows_b32
  refine jr_iconst (v := 1) hz d_MD_grows_32 (by decide) ?_
  refine jr_goto (tgt := 37) hz d_MD_grows_33 (by decide) ?_
  exact jr_iret hz hr hlk d_MD_grows_37
def fx_MD_grows (p1 : Int32) (X : xh_T) : Option (Int32 × xh_T) :=
  if p1 = 110 then
  some (2, X)
  else if p1 = 116 then
  fx_MD_grows_b32 X
  else if p1 = 118 then
  fx_MD_grows_b32 X
  else if p1 = 120 then
  fx_MD_grows_b32 X
  else if p1 = 125 then
  fx_MD_grows_b32 X
  else some (0, X)
set_option maxRecDepth 100000 in
set_option maxHeartbeats 4000000 in
theorem cx_MD_grows (l : Launch) (D : va_G) (G : xh_G) (hD : xh_D G) (p1 : Int32) (X : xh_T) : xh_M xh_Qi l D G y_MD_grows b_MD_grows 1 (some .int) rm_MD_grows [.int p1] X (fx_MD_grows p1 X) := by
  refine xh_enter (ls := [(0, .int p1)]) hD (by decide +kernel) (Nat.le_of_ble_eq_true rfl) rfl ?_
  intro p e s m args below meth c hz hr hlk
  unfold fx_MD_grows
  refine jr_iload_n hz d_MD_grows_0 rfl 0 rfl ?_
  refine jr_bipush (v := 110) hz d_MD_grows_1 (by decide) ?_
  refine jr_icmp_ne (tgt := 8) hz d_MD_grows_3 (by decide) ?_ ?_
  · refine jr_iload_n hz d_MD_grows_8 rfl 0 rfl ?_
    refine jr_bipush (v := 116) hz d_MD_grows_9 (by decide) ?_
    refine jr_icmp_eq (tgt := 32) hz d_MD_grows_11 (by decide) ?_ ?_
    · refine jr_sub (ls' := []) [] rfl ?_
      exact jb_MD_grows_b32 hz hr hlk X
    · refine jr_iload_n hz d_MD_grows_14 rfl 0 rfl ?_
      refine jr_bipush (v := 118) hz d_MD_grows_15 (by decide) ?_
      refine jr_icmp_eq (tgt := 32) hz d_MD_grows_17 (by decide) ?_ ?_
      · refine jr_sub (ls' := []) [] rfl ?_
        exact jb_MD_grows_b32 hz hr hlk X
      · refine jr_iload_n hz d_MD_grows_20 rfl 0 rfl ?_
        refine jr_bipush (v := 120) hz d_MD_grows_21 (by decide) ?_
        refine jr_icmp_eq (tgt := 32) hz d_MD_grows_23 (by decide) ?_ ?_
        · refine jr_sub (ls' := []) [] rfl ?_
          exact jb_MD_grows_b32 hz hr hlk X
        · refine jr_iload_n hz d_MD_grows_26 rfl 0 rfl ?_
          refine jr_bipush (v := 125) hz d_MD_grows_27 (by decide) ?_
          refine jr_icmp_ne (tgt := 36) hz d_MD_grows_29 (by decide) ?_ ?_
          · refine jr_iconst (v := 0) hz d_MD_grows_36 (by decide) ?_
            exact jr_iret hz hr hlk d_MD_grows_37
          · refine jr_sub (ls' := []) [] rfl ?_
            exact jb_MD_grows_b32 hz hr hlk X
  · refine jr_iconst (v := 2) hz d_MD_grows_6 (by decide) ?_
    exact jr_iret hz hr hlk d_MD_grows_7
theorem d_MD_move_0 : decode b_MD_move 0 = .ok (.iload_n 1, 1) := by decide +kernel
theorem d_MD_move_1 : decode b_MD_move 1 = .ok (.bipush 106, 2) := by decide +kernel
theorem d_MD_move_3 : decode b_MD_move 3 = .ok (.if_icmp .ne 6, 3) := by decide +kernel
theorem d_MD_move_6 : decode b_MD_move 6 = .ok (.bipush 10, 2) := by decide +kernel
theorem d_MD_move_8 : decode b_MD_move 8 = .ok (.ireturn, 1) := by decide +kernel
theorem d_MD_move_9 : decode b_MD_move 9 = .ok (.aload_n 0, 1) := by decide +kernel
theorem d_MD_move_10 : decode b_MD_move 10 = .ok (.getfield 56, 3) := by decide +kernel
theorem d_MD_move_13 : decode b_MD_move 13 = .ok (.iload_n 1, 1) := by decide +kernel
theorem d_MD_move_14 : decode b_MD_move 14 = .ok (.invokestatic 142, 3) := by decide +kernel
theorem d_MD_move_17 : decode b_MD_move 17 = .ok (.if_icmp .lt 16, 3) := by decide +kernel
theorem d_MD_move_20 : decode b_MD_move 20 = .ok (.iload_n 1, 1) := by decide +kernel
theorem d_MD_move_21 : decode b_MD_move 21 = .ok (.bipush 108, 2) := by decide +kernel
theorem d_MD_move_23 : decode b_MD_move 23 = .ok (.if_icmp .ne 13, 3) := by decide +kernel
theorem d_MD_move_26 : decode b_MD_move 26 = .ok (.aload_n 0, 1) := by decide +kernel
theorem d_MD_move_27 : decode b_MD_move 27 = .ok (.getfield 76, 3) := by decide +kernel
theorem d_MD_move_30 : decode b_MD_move 30 = .ok (.ifCond .ne 6, 3) := by decide +kernel
theorem d_MD_move_33 : decode b_MD_move 33 = .ok (.bipush 11, 2) := by decide +kernel
theorem d_MD_move_35 : decode b_MD_move 35 = .ok (.ireturn, 1) := by decide +kernel
theorem d_MD_move_36 : decode b_MD_move 36 = .ok (.iload_n 1, 1) := by decide +kernel
theorem d_MD_move_37 : decode b_MD_move 37 = .ok (.bipush 105, 2) := by decide +kernel
theorem d_MD_move_39 : decode b_MD_move 39 = .ok (.if_icmp .ne 14, 3) := by decide +kernel
theorem d_MD_move_42 : decode b_MD_move 42 = .ok (.aload_n 0, 1) := by decide +kernel
theorem d_MD_move_43 : decode b_MD_move 43 = .ok (.iconst 0, 1) := by decide +kernel
theorem d_MD_move_44 : decode b_MD_move 44 = .ok (.invokevirtual 135, 3) := by decide +kernel
theorem d_MD_move_47 : decode b_MD_move 47 = .ok (.ifCond .ne 6, 3) := by decide +kernel
theorem d_MD_move_50 : decode b_MD_move 50 = .ok (.bipush 9, 2) := by decide +kernel
theorem d_MD_move_52 : decode b_MD_move 52 = .ok (.ireturn, 1) := by decide +kernel
theorem d_MD_move_53 : decode b_MD_move 53 = .ok (.iload_n 1, 1) := by decide +kernel
theorem d_MD_move_54 : decode b_MD_move 54 = .ok (.bipush 121, 2) := by decide +kernel
theorem d_MD_move_56 : decode b_MD_move 56 = .ok (.if_icmp .eq 9, 3) := by decide +kernel
theorem d_MD_move_59 : decode b_MD_move 59 = .ok (.iload_n 1, 1) := by decide +kernel
theorem d_MD_move_60 : decode b_MD_move 60 = .ok (.bipush 122, 2) := by decide +kernel
theorem d_MD_move_62 : decode b_MD_move 62 = .ok (.if_icmp .ne 9, 3) := by decide +kernel
theorem d_MD_move_65 : decode b_MD_move 65 = .ok (.aload_n 0, 1) := by decide +kernel
theorem d_MD_move_66 : decode b_MD_move 66 = .ok (.iload_n 1, 1) := by decide +kernel
theorem d_MD_move_67 : decode b_MD_move 67 = .ok (.invokevirtual 145, 3) := by decide +kernel
theorem d_MD_move_70 : decode b_MD_move 70 = .ok (.ireturn, 1) := by decide +kernel
theorem d_MD_move_71 : decode b_MD_move 71 = .ok (.iload_n 1, 1) := by decide +kernel
theorem d_MD_move_72 : decode b_MD_move 72 = .ok (.bipush 115, 2) := by decide +kernel
theorem d_MD_move_74 : decode b_MD_move 74 = .ok (.if_icmp .ne 19, 3) := by decide +kernel
theorem d_MD_move_77 : decode b_MD_move 77 = .ok (.aload_n 0, 1) := by decide +kernel
theorem d_MD_move_78 : decode b_MD_move 78 = .ok (.iconst 0, 1) := by decide +kernel
theorem d_MD_move_79 : decode b_MD_move 79 = .ok (.invokevirtual 135, 3) := by decide +kernel
theorem d_MD_move_82 : decode b_MD_move 82 = .ok (.ifCond .eq 7, 3) := by decide +kernel
theorem d_MD_move_85 : decode b_MD_move 85 = .ok (.iconst 1, 1) := by decide +kernel
theorem d_MD_move_86 : decode b_MD_move 86 = .ok (.goto 11, 3) := by decide +kernel
theorem d_MD_move_89 : decode b_MD_move 89 = .ok (.iconst 0, 1) := by decide +kernel
theorem d_MD_move_90 : decode b_MD_move 90 = .ok (.goto 7, 3) := by decide +kernel
theorem d_MD_move_93 : decode b_MD_move 93 = .ok (.iload_n 1, 1) := by decide +kernel
theorem d_MD_move_94 : decode b_MD_move 94 = .ok (.invokestatic 148, 3) := by decide +kernel
theorem d_MD_move_97 : decode b_MD_move 97 = .ok (.istore_n 2, 1) := by decide +kernel
theorem d_MD_move_98 : decode b_MD_move 98 = .ok (.iload_n 2, 1) := by decide +kernel
theorem d_MD_move_99 : decode b_MD_move 99 = .ok (.ifCond .le 14, 3) := by decide +kernel
theorem d_MD_move_102 : decode b_MD_move 102 = .ok (.aload_n 0, 1) := by decide +kernel
theorem d_MD_move_103 : decode b_MD_move 103 = .ok (.iload_n 2, 1) := by decide +kernel
theorem d_MD_move_104 : decode b_MD_move 104 = .ok (.invokevirtual 109, 3) := by decide +kernel
theorem d_MD_move_107 : decode b_MD_move 107 = .ok (.ifCond .eq 6, 3) := by decide +kernel
theorem d_MD_move_110 : decode b_MD_move 110 = .ok (.bipush 14, 2) := by decide +kernel
theorem d_MD_move_112 : decode b_MD_move 112 = .ok (.ireturn, 1) := by decide +kernel
theorem d_MD_move_113 : decode b_MD_move 113 = .ok (.iload_n 1, 1) := by decide +kernel
theorem d_MD_move_114 : decode b_MD_move 114 = .ok (.tableswitch 302 105 125 #[98, 302, 106, 147, 195, 203, 302, 302, 302, 302, 216, 229, 98, 241, 249, 257, 302, 302, 265, 278, 278], 98) := by decide +kernel
theorem d_MD_move_212 : decode b_MD_move 212 = .ok (.aload_n 0, 1) := by decide +kernel
theorem d_MD_move_213 : decode b_MD_move 213 = .ok (.iconst 1, 1) := by decide +kernel
theorem d_MD_move_214 : decode b_MD_move 214 = .ok (.invokevirtual 138, 3) := by decide +kernel
theorem d_MD_move_217 : decode b_MD_move 217 = .ok (.goto 199, 3) := by decide +kernel
theorem d_MD_move_220 : decode b_MD_move 220 = .ok (.aload_n 0, 1) := by decide +kernel
theorem d_MD_move_221 : decode b_MD_move 221 = .ok (.getfield 16, 3) := by decide +kernel
theorem d_MD_move_224 : decode b_MD_move 224 = .ok (.aload_n 0, 1) := by decide +kernel
theorem d_MD_move_225 : decode b_MD_move 225 = .ok (.iconst 0, 1) := by decide +kernel
theorem d_MD_move_226 : decode b_MD_move 226 = .ok (.invokevirtual 59, 3) := by decide +kernel
theorem d_MD_move_229 : decode b_MD_move 229 = .ok (.aload_n 0, 1) := by decide +kernel
theorem d_MD_move_230 : decode b_MD_move 230 = .ok (.getfield 19, 3) := by decide +kernel
theorem d_MD_move_233 : decode b_MD_move 233 = .ok (.bipush 33, 2) := by decide +kernel
theorem d_MD_move_235 : decode b_MD_move 235 = .ok (.aload_n 0, 1) := by decide +kernel
theorem d_MD_move_236 : decode b_MD_move 236 = .ok (.getfield 76, 3) := by decide +kernel
theorem d_MD_move_239 : decode b_MD_move 239 = .ok (.imul, 1) := by decide +kernel
theorem d_MD_move_240 : decode b_MD_move 240 = .ok (.invokestatic 70, 3) := by decide +kernel
theorem d_MD_move_243 : decode b_MD_move 243 = .ok (.aload_n 0, 1) := by decide +kernel
theorem d_MD_move_244 : decode b_MD_move 244 = .ok (.aload_n 0, 1) := by decide +kernel
theorem d_MD_move_245 : decode b_MD_move 245 = .ok (.getfield 76, 3) := by decide +kernel
theorem d_MD_move_248 : decode b_MD_move 248 = .ok (.iconst 1, 1) := by decide +kernel
theorem d_MD_move_249 : decode b_MD_move 249 = .ok (.iadd, 1) := by decide +kernel
theorem d_MD_move_250 : decode b_MD_move 250 = .ok (.putfield 76, 3) := by decide +kernel
theorem d_MD_move_253 : decode b_MD_move 253 = .ok (.aload_n 0, 1) := by decide +kernel
theorem d_MD_move_254 : decode b_MD_move 254 = .ok (.iconst 1, 1) := by decide +kernel
theorem d_MD_move_255 : decode b_MD_move 255 = .ok (.invokevirtual 138, 3) := by decide +kernel
theorem d_MD_move_258 : decode b_MD_move 258 = .ok (.goto 158, 3) := by decide +kernel
theorem d_MD_move_261 : decode b_MD_move 261 = .ok (.aload_n 0, 1) := by decide +kernel
theorem d_MD_move_262 : decode b_MD_move 262 = .ok (.aload_n 0, 1) := by decide +kernel
theorem d_MD_move_263 : decode b_MD_move 263 = .ok (.getfield 76, 3) := by decide +kernel
theorem d_MD_move_266 : decode b_MD_move 266 = .ok (.iconst 1, 1) := by decide +kernel
theorem d_MD_move_267 : decode b_MD_move 267 = .ok (.isub, 1) := by decide +kernel
theorem d_MD_move_268 : decode b_MD_move 268 = .ok (.putfield 76, 3) := by decide +kernel
theorem d_MD_move_271 : decode b_MD_move 271 = .ok (.aload_n 0, 1) := by decide +kernel
theorem d_MD_move_272 : decode b_MD_move 272 = .ok (.getfield 19, 3) := by decide +kernel
theorem d_MD_move_275 : decode b_MD_move 275 = .ok (.bipush 33, 2) := by decide +kernel
theorem d_MD_move_277 : decode b_MD_move 277 = .ok (.aload_n 0, 1) := by decide +kernel
theorem d_MD_move_278 : decode b_MD_move 278 = .ok (.getfield 76, 3) := by decide +kernel
theorem d_MD_move_281 : decode b_MD_move 281 = .ok (.imul, 1) := by decide +kernel
theorem d_MD_move_282 : decode b_MD_move 282 = .ok (.aload_n 0, 1) := by decide +kernel
theorem d_MD_move_283 : decode b_MD_move 283 = .ok (.getfield 16, 3) := by decide +kernel
theorem d_MD_move_286 : decode b_MD_move 286 = .ok (.bipush 33, 2) := by decide +kernel
theorem d_MD_move_288 : decode b_MD_move 288 = .ok (.aload_n 0, 1) := by decide +kernel
theorem d_MD_move_289 : decode b_MD_move 289 = .ok (.getfield 56, 3) := by decide +kernel
theorem d_MD_move_292 : decode b_MD_move 292 = .ok (.imul, 1) := by decide +kernel
theorem d_MD_move_293 : decode b_MD_move 293 = .ok (.invokestatic 70, 3) := by decide +kernel
theorem d_MD_move_296 : decode b_MD_move 296 = .ok (.aload_n 0, 1) := by decide +kernel
theorem d_MD_move_297 : decode b_MD_move 297 = .ok (.aload_n 0, 1) := by decide +kernel
theorem d_MD_move_298 : decode b_MD_move 298 = .ok (.getfield 56, 3) := by decide +kernel
theorem d_MD_move_301 : decode b_MD_move 301 = .ok (.iconst 1, 1) := by decide +kernel
theorem d_MD_move_302 : decode b_MD_move 302 = .ok (.iadd, 1) := by decide +kernel
theorem d_MD_move_303 : decode b_MD_move 303 = .ok (.putfield 56, 3) := by decide +kernel
theorem d_MD_move_306 : decode b_MD_move 306 = .ok (.goto 110, 3) := by decide +kernel
theorem d_MD_move_309 : decode b_MD_move 309 = .ok (.aload_n 0, 1) := by decide +kernel
theorem d_MD_move_310 : decode b_MD_move 310 = .ok (.iconst 2, 1) := by decide +kernel
theorem d_MD_move_311 : decode b_MD_move 311 = .ok (.invokevirtual 138, 3) := by decide +kernel
theorem d_MD_move_314 : decode b_MD_move 314 = .ok (.goto 102, 3) := by decide +kernel
theorem d_MD_move_317 : decode b_MD_move 317 = .ok (.aload_n 0, 1) := by decide +kernel
theorem d_MD_move_318 : decode b_MD_move 318 = .ok (.iconst 1, 1) := by decide +kernel
theorem d_MD_move_319 : decode b_MD_move 319 = .ok (.invokevirtual 151, 3) := by decide +kernel
theorem d_MD_move_322 : decode b_MD_move 322 = .ok (.aload_n 0, 1) := by decide +kernel
theorem d_MD_move_323 : decode b_MD_move 323 = .ok (.iconst 1, 1) := by decide +kernel
theorem d_MD_move_324 : decode b_MD_move 324 = .ok (.invokevirtual 151, 3) := by decide +kernel
theorem d_MD_move_327 : decode b_MD_move 327 = .ok (.goto 89, 3) := by decide +kernel
theorem d_MD_move_330 : decode b_MD_move 330 = .ok (.iload_n 2, 1) := by decide +kernel
theorem d_MD_move_331 : decode b_MD_move 331 = .ok (.iconst 1, 1) := by decide +kernel
theorem d_MD_move_332 : decode b_MD_move 332 = .ok (.if_icmp .ne 84, 3) := by decide +kernel
theorem d_MD_move_335 : decode b_MD_move 335 = .ok (.aload_n 0, 1) := by decide +kernel
theorem d_MD_move_336 : decode b_MD_move 336 = .ok (.iconst 0, 1) := by decide +kernel
theorem d_MD_move_337 : decode b_MD_move 337 = .ok (.invokevirtual 151, 3) := by decide +kernel
theorem d_MD_move_340 : decode b_MD_move 340 = .ok (.goto 76, 3) := by decide +kernel
theorem d_MD_move_343 : decode b_MD_move 343 = .ok (.aload_n 0, 1) := by decide +kernel
theorem d_MD_move_344 : decode b_MD_move 344 = .ok (.aload_n 0, 1) := by decide +kernel
theorem d_MD_move_345 : decode b_MD_move 345 = .ok (.getfield 56, 3) := by decide +kernel
theorem d_MD_move_348 : decode b_MD_move 348 = .ok (.i2l, 1) := by decide +kernel
theorem d_MD_move_349 : decode b_MD_move 349 = .ok (.invokevirtual 112, 3) := by decide +kernel
theorem d_MD_move_352 : decode b_MD_move 352 = .ok (.goto 64, 3) := by decide +kernel
theorem d_MD_move_355 : decode b_MD_move 355 = .ok (.aload_n 0, 1) := by decide +kernel
theorem d_MD_move_356 : decode b_MD_move 356 = .ok (.iconst 0, 1) := by decide +kernel
theorem d_MD_move_357 : decode b_MD_move 357 = .ok (.invokevirtual 151, 3) := by decide +kernel
theorem d_MD_move_360 : decode b_MD_move 360 = .ok (.goto 56, 3) := by decide +kernel
theorem d_MD_move_363 : decode b_MD_move 363 = .ok (.aload_n 0, 1) := by decide +kernel
theorem d_MD_move_364 : decode b_MD_move 364 = .ok (.iconst 1, 1) := by decide +kernel
theorem d_MD_move_365 : decode b_MD_move 365 = .ok (.invokevirtual 154, 3) := by decide +kernel
theorem d_MD_move_368 : decode b_MD_move 368 = .ok (.goto 48, 3) := by decide +kernel
theorem d_MD_move_371 : decode b_MD_move 371 = .ok (.aload_n 0, 1) := by decide +kernel
theorem d_MD_move_372 : decode b_MD_move 372 = .ok (.iconst 1, 1) := by decide +kernel
theorem d_MD_move_373 : decode b_MD_move 373 = .ok (.invokevirtual 151, 3) := by decide +kernel
theorem d_MD_move_376 : decode b_MD_move 376 = .ok (.goto 40, 3) := by decide +kernel
theorem d_MD_move_379 : decode b_MD_move 379 = .ok (.aload_n 0, 1) := by decide +kernel
theorem d_MD_move_380 : decode b_MD_move 380 = .ok (.iconst 2, 1) := by decide +kernel
theorem d_MD_move_381 : decode b_MD_move 381 = .ok (.invokevirtual 151, 3) := by decide +kernel
theorem d_MD_move_384 : decode b_MD_move 384 = .ok (.aload_n 0, 1) := by decide +kernel
theorem d_MD_move_385 : decode b_MD_move 385 = .ok (.iconst 3, 1) := by decide +kernel
theorem d_MD_move_386 : decode b_MD_move 386 = .ok (.invokevirtual 154, 3) := by decide +kernel
theorem d_MD_move_389 : decode b_MD_move 389 = .ok (.goto 27, 3) := by decide +kernel
theorem d_MD_move_392 : decode b_MD_move 392 = .ok (.aload_n 0, 1) := by decide +kernel
theorem d_MD_move_393 : decode b_MD_move 393 = .ok (.iconst 1, 1) := by decide +kernel
theorem d_MD_move_394 : decode b_MD_move 394 = .ok (.invokevirtual 151, 3) := by decide +kernel
theorem d_MD_move_397 : decode b_MD_move 397 = .ok (.aload_n 0, 1) := by decide +kernel
theorem d_MD_move_398 : decode b_MD_move 398 = .ok (.iconst 2, 1) := by decide +kernel
theorem d_MD_move_399 : decode b_MD_move 399 = .ok (.invokevirtual 154, 3) := by decide +kernel
theorem d_MD_move_402 : decode b_MD_move 402 = .ok (.iload_n 1, 1) := by decide +kernel
theorem d_MD_move_403 : decode b_MD_move 403 = .ok (.bipush 125, 2) := by decide +kernel
theorem d_MD_move_405 : decode b_MD_move 405 = .ok (.if_icmp .ne 11, 3) := by decide +kernel
theorem d_MD_move_408 : decode b_MD_move 408 = .ok (.aload_n 0, 1) := by decide +kernel
theorem d_MD_move_409 : decode b_MD_move 409 = .ok (.iconst 1, 1) := by decide +kernel
theorem d_MD_move_410 : decode b_MD_move 410 = .ok (.invokevirtual 151, 3) := by decide +kernel
theorem d_MD_move_413 : decode b_MD_move 413 = .ok (.goto 3, 3) := by decide +kernel
theorem d_MD_move_416 : decode b_MD_move 416 = .ok (.iconst 0, 1) := by decide +kernel
theorem d_MD_move_417 : decode b_MD_move 417 = .ok (.ireturn, 1) := by decide +kernel
theorem ws_MD_142 : xh_S "SpendScriptModel" 142 y_MD_needs b_MD_needs 1 (some .int) 1 := ⟨(sp_tb (List.mem_of_getElem? (i := 722) (by decide +kernel))), (sp_tb (List.mem_of_getElem? (i := 8) (by decide +kernel))), (sp_tb (List.mem_of_getElem? (i := 720) (by decide +kernel))), ⟨by decide +kernel, by decide +kernel, by decide +kernel⟩, (sp_tb (List.mem_of_getElem? (i := 721) (by decide +kernel)))⟩
theorem ws_MD_148 : xh_S "SpendScriptModel" 148 y_MD_grows b_MD_grows 1 (some .int) 1 := ⟨(sp_tb (List.mem_of_getElem? (i := 740) (by decide +kernel))), (sp_tb (List.mem_of_getElem? (i := 8) (by decide +kernel))), (sp_tb (List.mem_of_getElem? (i := 738) (by decide +kernel))), ⟨by decide +kernel, by decide +kernel, by decide +kernel⟩, (sp_tb (List.mem_of_getElem? (i := 739) (by decide +kernel)))⟩
theorem wv_MD_145 : xh_V "SpendScriptModel" 145 7 y_MD_pick b_MD_pick 4 (some .int) 1 := ⟨(sp_tb (List.mem_of_getElem? (i := 726) (by decide +kernel))), (sp_tb (List.mem_of_getElem? (i := 8) (by decide +kernel))), (sp_tb (List.mem_of_getElem? (i := 723) (by decide +kernel))), ⟨by decide +kernel, by decide +kernel, by decide +kernel⟩, (sp_tb (List.mem_of_getElem? (i := 725) (by decide +kernel))), (sp_pv (q := (y_MD_pick, 19)) (List.mem_of_getElem? (i := 45) (by decide +kernel))), F_MD, 19, rfl⟩
theorem wf_MD_19 : xh_F "SpendScriptModel" 19 7 3 := ⟨R_MD, F_MD, 19, rfl, by decide, iw_MD, (sp_tb (List.mem_of_getElem? (i := 540) (by decide +kernel)))⟩
theorem wp_MD_76 : xh_Fp "SpendScriptModel" 76 7 6 := ⟨R_MD, F_MD, 19, t_MD, rfl, by decide, iw_MD, (sp_tb (List.mem_of_getElem? (i := 543) (by decide +kernel))), tk_MD, nk_MD, rfl, rfl⟩
abbrev rm_MD_move : Room := { frames := 5, cells := 0, slots := 0, locals := 113 }
def fx_MD_move_b65 (a1 : Int32) (X : xh_T) : Option (Int32 × xh_T) :=
  xh_b (fx_MD_pick a1 X) (fun (r17 : Int32) (X5 : xh_T) =>
  some (r17, X5))
set_option maxRecDepth 100000 in
set_option maxHeartbeats 4000000 in
theorem jb_MD_move_b65 {p : Program} {l : Launch} {e : Env} {s : State} {m : MethodId} {args : Array Value} {below : List Frame} {meth : Method} {c : Code} {D : va_G} {G : xh_G} (hz : xh_C p s m args c b_MD_move 3 "SpendScriptModel" D G (xh_A G s.heap.size)) (hr : meth.sig.returnType = (some .int)) (hlk : meth.locks = false) (a1 : Int32) (X : xh_T) : xh_J p l e rm_MD_move s m args below meth c 0 0 D G (xh_A G s.heap.size) 3 (fun r X' => MQ below (xh_Qi D G (xh_A G s.heap.size) r X') args s 0 0 (xh_A G s.heap.size)) 65 [(0, .ref (G.1 206)), (1, .int a1)] [] X (fx_MD_move_b65 a1 X) := by
  unfold fx_MD_move_b65
  refine jr_aload_n hz d_MD_move_65 rfl 0 rfl ?_
  refine jr_iload_n hz d_MD_move_66 rfl 1 rfl ?_
  refine jr_callVi (As := [.int a1]) (a := 206) (ci := 7) (st := []) hz (cx_MD_pick l D G hz.2.2.2.2.2.2.1 a1 X) (fun _ _ => ⟨lq_206, _, ly_206⟩) wv_MD_145 ⟨rfl, rfl, Nat.le_of_ble_eq_true rfl, Nat.le_of_ble_eq_true rfl⟩ ⟨Nat.zero_le _, Nat.zero_le _⟩ rfl rfl (Nat.le_of_ble_eq_true rfl) d_MD_move_67 (fun r17 X5 => ?_)
  exact jr_iret hz hr hlk d_MD_move_70
def fx_MD_move_b113 (a1 : Int32) (a2 : Int32) (X : xh_T) : Option (Int32 × xh_T) :=
  if a1 = 105 then
  xh_b (fx_MD_pop 1 X) (fun (_ : Unit) (X7 : xh_T) =>
  some (0, X7))
  else if a1 = 106 then
  some (0, X)
  else if a1 = 107 then
  xh_b (fx_MD_row 0 X) (fun (r30 : Int32) (X8 : xh_T) =>
  xh_b (fx_MD_copy 209 r30 210 (33 * X8.1 206 6) X8) (fun (_ : Unit) (X9 : xh_T) =>
  xh_n (xh_i X9 206 6 (X9.1 206 6 + 1)) (fun X10 : xh_T =>
  xh_b (fx_MD_pop 1 X10) (fun (_ : Unit) (X11 : xh_T) =>
  some (0, X11)))))
  else if a1 = 108 then
  xh_n (xh_i X 206 6 (X.1 206 6 - 1)) (fun X12 : xh_T =>
  xh_b (fx_MD_copy 210 (33 * X12.1 206 6) 209 (33 * X12.1 206 5) X12) (fun (_ : Unit) (X13 : xh_T) =>
  xh_n (xh_i X13 206 5 (X13.1 206 5 + 1)) (fun X14 : xh_T =>
  some (0, X14))))
  else if a1 = 109 then
  xh_b (fx_MD_pop 2 X) (fun (_ : Unit) (X15 : xh_T) =>
  some (0, X15))
  else if a1 = 110 then
  xh_b (fx_MD_again 1 X) (fun (_ : Unit) (X16 : xh_T) =>
  xh_b (fx_MD_again 1 X16) (fun (_ : Unit) (X17 : xh_T) =>
  some (0, X17)))
  else if a1 = 111 then
  some (0, X)
  else if a1 = 112 then
  some (0, X)
  else if a1 = 113 then
  some (0, X)
  else if a1 = 114 then
  some (0, X)
  else if a1 = 115 then
  if a2 = 1 then
  xh_b (fx_MD_again 0 X) (fun (_ : Unit) (X18 : xh_T) =>
  some (0, X18))
  else some (0, X)
  else if a1 = 116 then
  xh_b (fx_MD_pushNumber ((X.1 206 5 : Int32).toInt64) X) (fun (_ : Unit) (X19 : xh_T) =>
  some (0, X19))
  else if a1 = 117 then
  xh_b (fx_MD_pop 1 X) (fun (_ : Unit) (X20 : xh_T) =>
  some (0, X20))
  else if a1 = 118 then
  xh_b (fx_MD_again 0 X) (fun (_ : Unit) (X21 : xh_T) =>
  some (0, X21))
  else if a1 = 119 then
  xh_b (fx_MD_remove 1 X) (fun (_ : Unit) (X22 : xh_T) =>
  some (0, X22))
  else if a1 = 120 then
  xh_b (fx_MD_again 1 X) (fun (_ : Unit) (X23 : xh_T) =>
  some (0, X23))
  else if a1 = 121 then
  some (0, X)
  else if a1 = 122 then
  some (0, X)
  else if a1 = 123 then
  xh_b (fx_MD_again 2 X) (fun (_ : Unit) (X24 : xh_T) =>
  xh_b (fx_MD_remove 3 X24) (fun (_ : Unit) (X25 : xh_T) =>
  some (0, X25)))
  else if a1 = 124 then
  xh_b (fx_MD_again 1 X) (fun (_ : Unit) (X26 : xh_T) =>
  xh_b (fx_MD_remove 2 X26) (fun (_ : Unit) (X27 : xh_T) =>
  if a1 = 125 then
  xh_b (fx_MD_again 1 X27) (fun (_ : Unit) (X28 : xh_T) =>
  some (0, X28))
  else some (0, X27)))
  else if a1 = 125 then
  xh_b (fx_MD_again 1 X) (fun (_ : Unit) (X29 : xh_T) =>
  xh_b (fx_MD_remove 2 X29) (fun (_ : Unit) (X30 : xh_T) =>
  if a1 = 125 then
  xh_b (fx_MD_again 1 X30) (fun (_ : Unit) (X31 : xh_T) =>
  some (0, X31))
  else some (0, X30)))
  else some (0, X)
set_option maxRecDepth 100000 in
set_option maxHeartbeats 4000000 in
theorem jb_MD_move_b113 {p : Program} {l : Launch} {e : Env} {s : State} {m : MethodId} {args : Array Value} {below : List Frame} {meth : Method} {c : Code} {D : va_G} {G : xh_G} (hz : xh_C p s m args c b_MD_move 3 "SpendScriptModel" D G (xh_A G s.heap.size)) (hr : meth.sig.returnType = (some .int)) (hlk : meth.locks = false) (a1 : Int32) (a2 : Int32) (X : xh_T) : xh_J p l e rm_MD_move s m args below meth c 0 0 D G (xh_A G s.heap.size) 3 (fun r X' => MQ below (xh_Qi D G (xh_A G s.heap.size) r X') args s 0 0 (xh_A G s.heap.size)) 113 [(0, .ref (G.1 206)), (1, .int a1), (2, .int a2)] [] X (fx_MD_move_b113 a1 a2 X) := by
  unfold fx_MD_move_b113
  refine jr_iload_n hz d_MD_move_113 rfl 1 rfl ?_
  refine jr_ite (fun hs0 => ?_) (fun hs0 => ?_)
  · refine jr_tableIn (off := 98) (tgt := 212) hz d_MD_move_114 (by rw [hs0]; decide) (by rw [hs0]; decide) (by rw [hs0]; first | done | decide | rfl) (by decide) ?_
    refine jr_aload_n hz d_MD_move_212 rfl 0 rfl ?_
    refine jr_iconst (v := 1) hz d_MD_move_213 (by decide) ?_
    refine jr_callVv (As := [.int 1]) (a := 206) (ci := 7) (st := []) hz (cx_MD_pop l D G hz.2.2.2.2.2.2.1 1 X) (fun _ _ => ⟨lq_206, _, ly_206⟩) wv_MD_138 ⟨rfl, rfl, Nat.le_of_ble_eq_true rfl, Nat.le_of_ble_eq_true rfl⟩ ⟨Nat.zero_le _, Nat.zero_le _⟩ rfl rfl (Nat.le_of_ble_eq_true rfl) d_MD_move_214 (fun _ X7 => ?_)
    refine jr_goto (tgt := 416) hz d_MD_move_217 (by decide) ?_
    refine jr_iconst (v := 0) hz d_MD_move_416 (by decide) ?_
    exact jr_iret hz hr hlk d_MD_move_417
  refine jr_ite (fun hs1 => ?_) (fun hs1 => ?_)
  · refine jr_tableIn (off := 302) (tgt := 416) hz d_MD_move_114 (by rw [hs1]; decide) (by rw [hs1]; decide) (by rw [hs1]; first | done | decide | rfl) (by decide) ?_
    refine jr_iconst (v := 0) hz d_MD_move_416 (by decide) ?_
    exact jr_iret hz hr hlk d_MD_move_417
  refine jr_ite (fun hs2 => ?_) (fun hs2 => ?_)
  · refine jr_tableIn (off := 106) (tgt := 220) hz d_MD_move_114 (by rw [hs2]; decide) (by rw [hs2]; decide) (by rw [hs2]; first | done | decide | rfl) (by decide) ?_
    refine jr_aload_n hz d_MD_move_220 rfl 0 rfl ?_
    refine jr_getr (j := 2) (t := 209) hz lq_206 ly_206 rfl wf_MD_16 d_MD_move_221 ?_
    refine jr_aload_n hz d_MD_move_224 rfl 0 rfl ?_
    refine jr_iconst (v := 0) hz d_MD_move_225 (by decide) ?_
    refine jr_callVi (As := [.int 0]) (a := 206) (ci := 7) (st := [.ref (G.1 209)]) hz (cx_MD_row l D G hz.2.2.2.2.2.2.1 0 X) (fun _ _ => ⟨lq_206, _, ly_206⟩) wv_MD_59 ⟨rfl, rfl, Nat.le_of_ble_eq_true rfl, Nat.le_of_ble_eq_true rfl⟩ ⟨Nat.zero_le _, Nat.zero_le _⟩ rfl rfl (Nat.le_of_ble_eq_true rfl) d_MD_move_226 (fun r30 X8 => ?_)
    refine jr_aload_n hz d_MD_move_229 rfl 0 rfl ?_
    refine jr_getr (j := 3) (t := 210) hz lq_206 ly_206 rfl wf_MD_19 d_MD_move_230 ?_
    refine jr_bipush (v := 33) hz d_MD_move_233 (by decide) ?_
    refine jr_aload_n hz d_MD_move_235 rfl 0 rfl ?_
    refine jr_geti (j := 6) hz lq_206 ly_206 rfl wf_MD_76 d_MD_move_236 ?_
    refine jr_imul hz d_MD_move_239 ?_
    refine jr_callSv (As := [.ref (G.1 209), .int r30, .ref (G.1 210), .int (33 * X8.1 206 6)]) (st := []) hz (cx_MD_copy l D G hz.2.2.2.2.2.2.1 209 r30 210 (33 * X8.1 206 6) X8) ws_MD_70 ⟨rfl, rfl, Nat.le_of_ble_eq_true rfl, Nat.le_of_ble_eq_true rfl⟩ ⟨Nat.zero_le _, Nat.zero_le _⟩ rfl rfl (Nat.le_of_ble_eq_true rfl) d_MD_move_240 (fun _ X9 => ?_)
    refine jr_aload_n hz d_MD_move_243 rfl 0 rfl ?_
    refine jr_aload_n hz d_MD_move_244 rfl 0 rfl ?_
    refine jr_geti (j := 6) hz lq_206 ly_206 rfl wf_MD_76 d_MD_move_245 ?_
    refine jr_iconst (v := 1) hz d_MD_move_248 (by decide) ?_
    refine jr_iadd hz d_MD_move_249 ?_
    refine jr_puti hz lq_206 ly_206 rfl wp_MD_76 d_MD_move_250 (fun X10 => ?_)
    refine jr_aload_n hz d_MD_move_253 rfl 0 rfl ?_
    refine jr_iconst (v := 1) hz d_MD_move_254 (by decide) ?_
    refine jr_callVv (As := [.int 1]) (a := 206) (ci := 7) (st := []) hz (cx_MD_pop l D G hz.2.2.2.2.2.2.1 1 X10) (fun _ _ => ⟨lq_206, _, ly_206⟩) wv_MD_138 ⟨rfl, rfl, Nat.le_of_ble_eq_true rfl, Nat.le_of_ble_eq_true rfl⟩ ⟨Nat.zero_le _, Nat.zero_le _⟩ rfl rfl (Nat.le_of_ble_eq_true rfl) d_MD_move_255 (fun _ X11 => ?_)
    refine jr_goto (tgt := 416) hz d_MD_move_258 (by decide) ?_
    refine jr_iconst (v := 0) hz d_MD_move_416 (by decide) ?_
    exact jr_iret hz hr hlk d_MD_move_417
  refine jr_ite (fun hs3 => ?_) (fun hs3 => ?_)
  · refine jr_tableIn (off := 147) (tgt := 261) hz d_MD_move_114 (by rw [hs3]; decide) (by rw [hs3]; decide) (by rw [hs3]; first | done | decide | rfl) (by decide) ?_
    refine jr_aload_n hz d_MD_move_261 rfl 0 rfl ?_
    refine jr_aload_n hz d_MD_move_262 rfl 0 rfl ?_
    refine jr_geti (j := 6) hz lq_206 ly_206 rfl wf_MD_76 d_MD_move_263 ?_
    refine jr_iconst (v := 1) hz d_MD_move_266 (by decide) ?_
    refine jr_isub hz d_MD_move_267 ?_
    refine jr_puti hz lq_206 ly_206 rfl wp_MD_76 d_MD_move_268 (fun X12 => ?_)
    refine jr_aload_n hz d_MD_move_271 rfl 0 rfl ?_
    refine jr_getr (j := 3) (t := 210) hz lq_206 ly_206 rfl wf_MD_19 d_MD_move_272 ?_
    refine jr_bipush (v := 33) hz d_MD_move_275 (by decide) ?_
    refine jr_aload_n hz d_MD_move_277 rfl 0 rfl ?_
    refine jr_geti (j := 6) hz lq_206 ly_206 rfl wf_MD_76 d_MD_move_278 ?_
    refine jr_imul hz d_MD_move_281 ?_
    refine jr_aload_n hz d_MD_move_282 rfl 0 rfl ?_
    refine jr_getr (j := 2) (t := 209) hz lq_206 ly_206 rfl wf_MD_16 d_MD_move_283 ?_
    refine jr_bipush (v := 33) hz d_MD_move_286 (by decide) ?_
    refine jr_aload_n hz d_MD_move_288 rfl 0 rfl ?_
    refine jr_geti (j := 5) hz lq_206 ly_206 rfl wf_MD_56 d_MD_move_289 ?_
    refine jr_imul hz d_MD_move_292 ?_
    refine jr_callSv (As := [.ref (G.1 210), .int (33 * X12.1 206 6), .ref (G.1 209), .int (33 * X12.1 206 5)]) (st := []) hz (cx_MD_copy l D G hz.2.2.2.2.2.2.1 210 (33 * X12.1 206 6) 209 (33 * X12.1 206 5) X12) ws_MD_70 ⟨rfl, rfl, Nat.le_of_ble_eq_true rfl, Nat.le_of_ble_eq_true rfl⟩ ⟨Nat.zero_le _, Nat.zero_le _⟩ rfl rfl (Nat.le_of_ble_eq_true rfl) d_MD_move_293 (fun _ X13 => ?_)
    refine jr_aload_n hz d_MD_move_296 rfl 0 rfl ?_
    refine jr_aload_n hz d_MD_move_297 rfl 0 rfl ?_
    refine jr_geti (j := 5) hz lq_206 ly_206 rfl wf_MD_56 d_MD_move_298 ?_
    refine jr_iconst (v := 1) hz d_MD_move_301 (by decide) ?_
    refine jr_iadd hz d_MD_move_302 ?_
    refine jr_puti hz lq_206 ly_206 rfl wp_MD_56 d_MD_move_303 (fun X14 => ?_)
    refine jr_goto (tgt := 416) hz d_MD_move_306 (by decide) ?_
    refine jr_iconst (v := 0) hz d_MD_move_416 (by decide) ?_
    exact jr_iret hz hr hlk d_MD_move_417
  refine jr_ite (fun hs4 => ?_) (fun hs4 => ?_)
  · refine jr_tableIn (off := 195) (tgt := 309) hz d_MD_move_114 (by rw [hs4]; decide) (by rw [hs4]; decide) (by rw [hs4]; first | done | decide | rfl) (by decide) ?_
    refine jr_aload_n hz d_MD_move_309 rfl 0 rfl ?_
    refine jr_iconst (v := 2) hz d_MD_move_310 (by decide) ?_
    refine jr_callVv (As := [.int 2]) (a := 206) (ci := 7) (st := []) hz (cx_MD_pop l D G hz.2.2.2.2.2.2.1 2 X) (fun _ _ => ⟨lq_206, _, ly_206⟩) wv_MD_138 ⟨rfl, rfl, Nat.le_of_ble_eq_true rfl, Nat.le_of_ble_eq_true rfl⟩ ⟨Nat.zero_le _, Nat.zero_le _⟩ rfl rfl (Nat.le_of_ble_eq_true rfl) d_MD_move_311 (fun _ X15 => ?_)
    refine jr_goto (tgt := 416) hz d_MD_move_314 (by decide) ?_
    refine jr_iconst (v := 0) hz d_MD_move_416 (by decide) ?_
    exact jr_iret hz hr hlk d_MD_move_417
  refine jr_ite (fun hs5 => ?_) (fun hs5 => ?_)
  · refine jr_tableIn (off := 203) (tgt := 317) hz d_MD_move_114 (by rw [hs5]; decide) (by rw [hs5]; decide) (by rw [hs5]; first | done | decide | rfl) (by decide) ?_
    refine jr_aload_n hz d_MD_move_317 rfl 0 rfl ?_
    refine jr_iconst (v := 1) hz d_MD_move_318 (by decide) ?_
    refine jr_callVv (As := [.int 1]) (a := 206) (ci := 7) (st := []) hz (cx_MD_again l D G hz.2.2.2.2.2.2.1 1 X) (fun _ _ => ⟨lq_206, _, ly_206⟩) wv_MD_151 ⟨rfl, rfl, Nat.le_of_ble_eq_true rfl, Nat.le_of_ble_eq_true rfl⟩ ⟨Nat.zero_le _, Nat.zero_le _⟩ rfl rfl (Nat.le_of_ble_eq_true rfl) d_MD_move_319 (fun _ X16 => ?_)
    refine jr_aload_n hz d_MD_move_322 rfl 0 rfl ?_
    refine jr_iconst (v := 1) hz d_MD_move_323 (by decide) ?_
    refine jr_callVv (As := [.int 1]) (a := 206) (ci := 7) (st := []) hz (cx_MD_again l D G hz.2.2.2.2.2.2.1 1 X16) (fun _ _ => ⟨lq_206, _, ly_206⟩) wv_MD_151 ⟨rfl, rfl, Nat.le_of_ble_eq_true rfl, Nat.le_of_ble_eq_true rfl⟩ ⟨Nat.zero_le _, Nat.zero_le _⟩ rfl rfl (Nat.le_of_ble_eq_true rfl) d_MD_move_324 (fun _ X17 => ?_)
    refine jr_goto (tgt := 416) hz d_MD_move_327 (by decide) ?_
    refine jr_iconst (v := 0) hz d_MD_move_416 (by decide) ?_
    exact jr_iret hz hr hlk d_MD_move_417
  refine jr_ite (fun hs6 => ?_) (fun hs6 => ?_)
  · refine jr_tableIn (off := 302) (tgt := 416) hz d_MD_move_114 (by rw [hs6]; decide) (by rw [hs6]; decide) (by rw [hs6]; first | done | decide | rfl) (by decide) ?_
    refine jr_iconst (v := 0) hz d_MD_move_416 (by decide) ?_
    exact jr_iret hz hr hlk d_MD_move_417
  refine jr_ite (fun hs7 => ?_) (fun hs7 => ?_)
  · refine jr_tableIn (off := 302) (tgt := 416) hz d_MD_move_114 (by rw [hs7]; decide) (by rw [hs7]; decide) (by rw [hs7]; first | done | decide | rfl) (by decide) ?_
    refine jr_iconst (v := 0) hz d_MD_move_416 (by decide) ?_
    exact jr_iret hz hr hlk d_MD_move_417
  refine jr_ite (fun hs8 => ?_) (fun hs8 => ?_)
  · refine jr_tableIn (off := 302) (tgt := 416) hz d_MD_move_114 (by rw [hs8]; decide) (by rw [hs8]; decide) (by rw [hs8]; first | done | decide | rfl) (by decide) ?_
    refine jr_iconst (v := 0) hz d_MD_move_416 (by decide) ?_
    exact jr_iret hz hr hlk d_MD_move_417
  refine jr_ite (fun hs9 => ?_) (fun hs9 => ?_)
  · refine jr_tableIn (off := 302) (tgt := 416) hz d_MD_move_114 (by rw [hs9]; decide) (by rw [hs9]; decide) (by rw [hs9]; first | done | decide | rfl) (by decide) ?_
    refine jr_iconst (v := 0) hz d_MD_move_416 (by decide) ?_
    exact jr_iret hz hr hlk d_MD_move_417
  refine jr_ite (fun hs10 => ?_) (fun hs10 => ?_)
  · refine jr_tableIn (off := 216) (tgt := 330) hz d_MD_move_114 (by rw [hs10]; decide) (by rw [hs10]; decide) (by rw [hs10]; first | done | decide | rfl) (by decide) ?_
    refine jr_iload_n hz d_MD_move_330 rfl 2 rfl ?_
    refine jr_iconst (v := 1) hz d_MD_move_331 (by decide) ?_
    refine jr_icmp_ne (tgt := 416) hz d_MD_move_332 (by decide) ?_ ?_
    · refine jr_iconst (v := 0) hz d_MD_move_416 (by decide) ?_
      exact jr_iret hz hr hlk d_MD_move_417
    · refine jr_aload_n hz d_MD_move_335 rfl 0 rfl ?_
      refine jr_iconst (v := 0) hz d_MD_move_336 (by decide) ?_
      refine jr_callVv (As := [.int 0]) (a := 206) (ci := 7) (st := []) hz (cx_MD_again l D G hz.2.2.2.2.2.2.1 0 X) (fun _ _ => ⟨lq_206, _, ly_206⟩) wv_MD_151 ⟨rfl, rfl, Nat.le_of_ble_eq_true rfl, Nat.le_of_ble_eq_true rfl⟩ ⟨Nat.zero_le _, Nat.zero_le _⟩ rfl rfl (Nat.le_of_ble_eq_true rfl) d_MD_move_337 (fun _ X18 => ?_)
      refine jr_goto (tgt := 416) hz d_MD_move_340 (by decide) ?_
      refine jr_iconst (v := 0) hz d_MD_move_416 (by decide) ?_
      exact jr_iret hz hr hlk d_MD_move_417
  refine jr_ite (fun hs11 => ?_) (fun hs11 => ?_)
  · refine jr_tableIn (off := 229) (tgt := 343) hz d_MD_move_114 (by rw [hs11]; decide) (by rw [hs11]; decide) (by rw [hs11]; first | done | decide | rfl) (by decide) ?_
    refine jr_aload_n hz d_MD_move_343 rfl 0 rfl ?_
    refine jr_aload_n hz d_MD_move_344 rfl 0 rfl ?_
    refine jr_geti (j := 5) hz lq_206 ly_206 rfl wf_MD_56 d_MD_move_345 ?_
    refine jr_i2l hz d_MD_move_348 ?_
    refine jr_callVv (As := [.long ((X.1 206 5 : Int32).toInt64)]) (a := 206) (ci := 7) (st := []) hz (cx_MD_pushNumber l D G hz.2.2.2.2.2.2.1 ((X.1 206 5 : Int32).toInt64) X) (fun _ _ => ⟨lq_206, _, ly_206⟩) wv_MD_112 ⟨rfl, rfl, Nat.le_of_ble_eq_true rfl, Nat.le_of_ble_eq_true rfl⟩ ⟨Nat.zero_le _, Nat.zero_le _⟩ rfl rfl (Nat.le_of_ble_eq_true rfl) d_MD_move_349 (fun _ X19 => ?_)
    refine jr_goto (tgt := 416) hz d_MD_move_352 (by decide) ?_
    refine jr_iconst (v := 0) hz d_MD_move_416 (by decide) ?_
    exact jr_iret hz hr hlk d_MD_move_417
  refine jr_ite (fun hs12 => ?_) (fun hs12 => ?_)
  · refine jr_tableIn (off := 98) (tgt := 212) hz d_MD_move_114 (by rw [hs12]; decide) (by rw [hs12]; decide) (by rw [hs12]; first | done | decide | rfl) (by decide) ?_
    refine jr_aload_n hz d_MD_move_212 rfl 0 rfl ?_
    refine jr_iconst (v := 1) hz d_MD_move_213 (by decide) ?_
    refine jr_callVv (As := [.int 1]) (a := 206) (ci := 7) (st := []) hz (cx_MD_pop l D G hz.2.2.2.2.2.2.1 1 X) (fun _ _ => ⟨lq_206, _, ly_206⟩) wv_MD_138 ⟨rfl, rfl, Nat.le_of_ble_eq_true rfl, Nat.le_of_ble_eq_true rfl⟩ ⟨Nat.zero_le _, Nat.zero_le _⟩ rfl rfl (Nat.le_of_ble_eq_true rfl) d_MD_move_214 (fun _ X20 => ?_)
    refine jr_goto (tgt := 416) hz d_MD_move_217 (by decide) ?_
    refine jr_iconst (v := 0) hz d_MD_move_416 (by decide) ?_
    exact jr_iret hz hr hlk d_MD_move_417
  refine jr_ite (fun hs13 => ?_) (fun hs13 => ?_)
  · refine jr_tableIn (off := 241) (tgt := 355) hz d_MD_move_114 (by rw [hs13]; decide) (by rw [hs13]; decide) (by rw [hs13]; first | done | decide | rfl) (by decide) ?_
    refine jr_aload_n hz d_MD_move_355 rfl 0 rfl ?_
    refine jr_iconst (v := 0) hz d_MD_move_356 (by decide) ?_
    refine jr_callVv (As := [.int 0]) (a := 206) (ci := 7) (st := []) hz (cx_MD_again l D G hz.2.2.2.2.2.2.1 0 X) (fun _ _ => ⟨lq_206, _, ly_206⟩) wv_MD_151 ⟨rfl, rfl, Nat.le_of_ble_eq_true rfl, Nat.le_of_ble_eq_true rfl⟩ ⟨Nat.zero_le _, Nat.zero_le _⟩ rfl rfl (Nat.le_of_ble_eq_true rfl) d_MD_move_357 (fun _ X21 => ?_)
    refine jr_goto (tgt := 416) hz d_MD_move_360 (by decide) ?_
    refine jr_iconst (v := 0) hz d_MD_move_416 (by decide) ?_
    exact jr_iret hz hr hlk d_MD_move_417
  refine jr_ite (fun hs14 => ?_) (fun hs14 => ?_)
  · refine jr_tableIn (off := 249) (tgt := 363) hz d_MD_move_114 (by rw [hs14]; decide) (by rw [hs14]; decide) (by rw [hs14]; first | done | decide | rfl) (by decide) ?_
    refine jr_aload_n hz d_MD_move_363 rfl 0 rfl ?_
    refine jr_iconst (v := 1) hz d_MD_move_364 (by decide) ?_
    refine jr_callVv (As := [.int 1]) (a := 206) (ci := 7) (st := []) hz (cx_MD_remove l D G hz.2.2.2.2.2.2.1 1 X) (fun _ _ => ⟨lq_206, _, ly_206⟩) wv_MD_154 ⟨rfl, rfl, Nat.le_of_ble_eq_true rfl, Nat.le_of_ble_eq_true rfl⟩ ⟨Nat.zero_le _, Nat.zero_le _⟩ rfl rfl (Nat.le_of_ble_eq_true rfl) d_MD_move_365 (fun _ X22 => ?_)
    refine jr_goto (tgt := 416) hz d_MD_move_368 (by decide) ?_
    refine jr_iconst (v := 0) hz d_MD_move_416 (by decide) ?_
    exact jr_iret hz hr hlk d_MD_move_417
  refine jr_ite (fun hs15 => ?_) (fun hs15 => ?_)
  · refine jr_tableIn (off := 257) (tgt := 371) hz d_MD_move_114 (by rw [hs15]; decide) (by rw [hs15]; decide) (by rw [hs15]; first | done | decide | rfl) (by decide) ?_
    refine jr_aload_n hz d_MD_move_371 rfl 0 rfl ?_
    refine jr_iconst (v := 1) hz d_MD_move_372 (by decide) ?_
    refine jr_callVv (As := [.int 1]) (a := 206) (ci := 7) (st := []) hz (cx_MD_again l D G hz.2.2.2.2.2.2.1 1 X) (fun _ _ => ⟨lq_206, _, ly_206⟩) wv_MD_151 ⟨rfl, rfl, Nat.le_of_ble_eq_true rfl, Nat.le_of_ble_eq_true rfl⟩ ⟨Nat.zero_le _, Nat.zero_le _⟩ rfl rfl (Nat.le_of_ble_eq_true rfl) d_MD_move_373 (fun _ X23 => ?_)
    refine jr_goto (tgt := 416) hz d_MD_move_376 (by decide) ?_
    refine jr_iconst (v := 0) hz d_MD_move_416 (by decide) ?_
    exact jr_iret hz hr hlk d_MD_move_417
  refine jr_ite (fun hs16 => ?_) (fun hs16 => ?_)
  · refine jr_tableIn (off := 302) (tgt := 416) hz d_MD_move_114 (by rw [hs16]; decide) (by rw [hs16]; decide) (by rw [hs16]; first | done | decide | rfl) (by decide) ?_
    refine jr_iconst (v := 0) hz d_MD_move_416 (by decide) ?_
    exact jr_iret hz hr hlk d_MD_move_417
  refine jr_ite (fun hs17 => ?_) (fun hs17 => ?_)
  · refine jr_tableIn (off := 302) (tgt := 416) hz d_MD_move_114 (by rw [hs17]; decide) (by rw [hs17]; decide) (by rw [hs17]; first | done | decide | rfl) (by decide) ?_
    refine jr_iconst (v := 0) hz d_MD_move_416 (by decide) ?_
    exact jr_iret hz hr hlk d_MD_move_417
  refine jr_ite (fun hs18 => ?_) (fun hs18 => ?_)
  · refine jr_tableIn (off := 265) (tgt := 379) hz d_MD_move_114 (by rw [hs18]; decide) (by rw [hs18]; decide) (by rw [hs18]; first | done | decide | rfl) (by decide) ?_
    refine jr_aload_n hz d_MD_move_379 rfl 0 rfl ?_
    refine jr_iconst (v := 2) hz d_MD_move_380 (by decide) ?_
    refine jr_callVv (As := [.int 2]) (a := 206) (ci := 7) (st := []) hz (cx_MD_again l D G hz.2.2.2.2.2.2.1 2 X) (fun _ _ => ⟨lq_206, _, ly_206⟩) wv_MD_151 ⟨rfl, rfl, Nat.le_of_ble_eq_true rfl, Nat.le_of_ble_eq_true rfl⟩ ⟨Nat.zero_le _, Nat.zero_le _⟩ rfl rfl (Nat.le_of_ble_eq_true rfl) d_MD_move_381 (fun _ X24 => ?_)
    refine jr_aload_n hz d_MD_move_384 rfl 0 rfl ?_
    refine jr_iconst (v := 3) hz d_MD_move_385 (by decide) ?_
    refine jr_callVv (As := [.int 3]) (a := 206) (ci := 7) (st := []) hz (cx_MD_remove l D G hz.2.2.2.2.2.2.1 3 X24) (fun _ _ => ⟨lq_206, _, ly_206⟩) wv_MD_154 ⟨rfl, rfl, Nat.le_of_ble_eq_true rfl, Nat.le_of_ble_eq_true rfl⟩ ⟨Nat.zero_le _, Nat.zero_le _⟩ rfl rfl (Nat.le_of_ble_eq_true rfl) d_MD_move_386 (fun _ X25 => ?_)
    refine jr_goto (tgt := 416) hz d_MD_move_389 (by decide) ?_
    refine jr_iconst (v := 0) hz d_MD_move_416 (by decide) ?_
    exact jr_iret hz hr hlk d_MD_move_417
  refine jr_ite (fun hs19 => ?_) (fun hs19 => ?_)
  · refine jr_tableIn (off := 278) (tgt := 392) hz d_MD_move_114 (by rw [hs19]; decide) (by rw [hs19]; decide) (by rw [hs19]; first | done | decide | rfl) (by decide) ?_
    refine jr_aload_n hz d_MD_move_392 rfl 0 rfl ?_
    refine jr_iconst (v := 1) hz d_MD_move_393 (by decide) ?_
    refine jr_callVv (As := [.int 1]) (a := 206) (ci := 7) (st := []) hz (cx_MD_again l D G hz.2.2.2.2.2.2.1 1 X) (fun _ _ => ⟨lq_206, _, ly_206⟩) wv_MD_151 ⟨rfl, rfl, Nat.le_of_ble_eq_true rfl, Nat.le_of_ble_eq_true rfl⟩ ⟨Nat.zero_le _, Nat.zero_le _⟩ rfl rfl (Nat.le_of_ble_eq_true rfl) d_MD_move_394 (fun _ X26 => ?_)
    refine jr_aload_n hz d_MD_move_397 rfl 0 rfl ?_
    refine jr_iconst (v := 2) hz d_MD_move_398 (by decide) ?_
    refine jr_callVv (As := [.int 2]) (a := 206) (ci := 7) (st := []) hz (cx_MD_remove l D G hz.2.2.2.2.2.2.1 2 X26) (fun _ _ => ⟨lq_206, _, ly_206⟩) wv_MD_154 ⟨rfl, rfl, Nat.le_of_ble_eq_true rfl, Nat.le_of_ble_eq_true rfl⟩ ⟨Nat.zero_le _, Nat.zero_le _⟩ rfl rfl (Nat.le_of_ble_eq_true rfl) d_MD_move_399 (fun _ X27 => ?_)
    refine jr_iload_n hz d_MD_move_402 rfl 1 rfl ?_
    refine jr_bipush (v := 125) hz d_MD_move_403 (by decide) ?_
    refine jr_icmp_ne (tgt := 416) hz d_MD_move_405 (by decide) ?_ ?_
    · refine jr_iconst (v := 0) hz d_MD_move_416 (by decide) ?_
      exact jr_iret hz hr hlk d_MD_move_417
    · refine jr_aload_n hz d_MD_move_408 rfl 0 rfl ?_
      refine jr_iconst (v := 1) hz d_MD_move_409 (by decide) ?_
      refine jr_callVv (As := [.int 1]) (a := 206) (ci := 7) (st := []) hz (cx_MD_again l D G hz.2.2.2.2.2.2.1 1 X27) (fun _ _ => ⟨lq_206, _, ly_206⟩) wv_MD_151 ⟨rfl, rfl, Nat.le_of_ble_eq_true rfl, Nat.le_of_ble_eq_true rfl⟩ ⟨Nat.zero_le _, Nat.zero_le _⟩ rfl rfl (Nat.le_of_ble_eq_true rfl) d_MD_move_410 (fun _ X28 => ?_)
      refine jr_goto (tgt := 416) hz d_MD_move_413 (by decide) ?_
      refine jr_iconst (v := 0) hz d_MD_move_416 (by decide) ?_
      exact jr_iret hz hr hlk d_MD_move_417
  refine jr_ite (fun hs20 => ?_) (fun hs20 => ?_)
  · refine jr_tableIn (off := 278) (tgt := 392) hz d_MD_move_114 (by rw [hs20]; decide) (by rw [hs20]; decide) (by rw [hs20]; first | done | decide | rfl) (by decide) ?_
    refine jr_aload_n hz d_MD_move_392 rfl 0 rfl ?_
    refine jr_iconst (v := 1) hz d_MD_move_393 (by decide) ?_
    refine jr_callVv (As := [.int 1]) (a := 206) (ci := 7) (st := []) hz (cx_MD_again l D G hz.2.2.2.2.2.2.1 1 X) (fun _ _ => ⟨lq_206, _, ly_206⟩) wv_MD_151 ⟨rfl, rfl, Nat.le_of_ble_eq_true rfl, Nat.le_of_ble_eq_true rfl⟩ ⟨Nat.zero_le _, Nat.zero_le _⟩ rfl rfl (Nat.le_of_ble_eq_true rfl) d_MD_move_394 (fun _ X29 => ?_)
    refine jr_aload_n hz d_MD_move_397 rfl 0 rfl ?_
    refine jr_iconst (v := 2) hz d_MD_move_398 (by decide) ?_
    refine jr_callVv (As := [.int 2]) (a := 206) (ci := 7) (st := []) hz (cx_MD_remove l D G hz.2.2.2.2.2.2.1 2 X29) (fun _ _ => ⟨lq_206, _, ly_206⟩) wv_MD_154 ⟨rfl, rfl, Nat.le_of_ble_eq_true rfl, Nat.le_of_ble_eq_true rfl⟩ ⟨Nat.zero_le _, Nat.zero_le _⟩ rfl rfl (Nat.le_of_ble_eq_true rfl) d_MD_move_399 (fun _ X30 => ?_)
    refine jr_iload_n hz d_MD_move_402 rfl 1 rfl ?_
    refine jr_bipush (v := 125) hz d_MD_move_403 (by decide) ?_
    refine jr_icmp_ne (tgt := 416) hz d_MD_move_405 (by decide) ?_ ?_
    · refine jr_iconst (v := 0) hz d_MD_move_416 (by decide) ?_
      exact jr_iret hz hr hlk d_MD_move_417
    · refine jr_aload_n hz d_MD_move_408 rfl 0 rfl ?_
      refine jr_iconst (v := 1) hz d_MD_move_409 (by decide) ?_
      refine jr_callVv (As := [.int 1]) (a := 206) (ci := 7) (st := []) hz (cx_MD_again l D G hz.2.2.2.2.2.2.1 1 X30) (fun _ _ => ⟨lq_206, _, ly_206⟩) wv_MD_151 ⟨rfl, rfl, Nat.le_of_ble_eq_true rfl, Nat.le_of_ble_eq_true rfl⟩ ⟨Nat.zero_le _, Nat.zero_le _⟩ rfl rfl (Nat.le_of_ble_eq_true rfl) d_MD_move_410 (fun _ X31 => ?_)
      refine jr_goto (tgt := 416) hz d_MD_move_413 (by decide) ?_
      refine jr_iconst (v := 0) hz d_MD_move_416 (by decide) ?_
      exact jr_iret hz hr hlk d_MD_move_417
  refine jr_tableOut (tgt := 416) hz d_MD_move_114 (by have := lv_neT (k := 105) hs0 (show _ = (105 : Int) by decide); have := lv_neT (k := 106) hs1 (show _ = (106 : Int) by decide); have := lv_neT (k := 107) hs2 (show _ = (107 : Int) by decide); have := lv_neT (k := 108) hs3 (show _ = (108 : Int) by decide); have := lv_neT (k := 109) hs4 (show _ = (109 : Int) by decide); have := lv_neT (k := 110) hs5 (show _ = (110 : Int) by decide); have := lv_neT (k := 111) hs6 (show _ = (111 : Int) by decide); have := lv_neT (k := 112) hs7 (show _ = (112 : Int) by decide); have := lv_neT (k := 113) hs8 (show _ = (113 : Int) by decide); have := lv_neT (k := 114) hs9 (show _ = (114 : Int) by decide); have := lv_neT (k := 115) hs10 (show _ = (115 : Int) by decide); have := lv_neT (k := 116) hs11 (show _ = (116 : Int) by decide); have := lv_neT (k := 117) hs12 (show _ = (117 : Int) by decide); have := lv_neT (k := 118) hs13 (show _ = (118 : Int) by decide); have := lv_neT (k := 119) hs14 (show _ = (119 : Int) by decide); have := lv_neT (k := 120) hs15 (show _ = (120 : Int) by decide); have := lv_neT (k := 121) hs16 (show _ = (121 : Int) by decide); have := lv_neT (k := 122) hs17 (show _ = (122 : Int) by decide); have := lv_neT (k := 123) hs18 (show _ = (123 : Int) by decide); have := lv_neT (k := 124) hs19 (show _ = (124 : Int) by decide); have := lv_neT (k := 125) hs20 (show _ = (125 : Int) by decide); omega) (by decide) ?_
  refine jr_iconst (v := 0) hz d_MD_move_416 (by decide) ?_
  exact jr_iret hz hr hlk d_MD_move_417
def fx_MD_move_b97 (a1 : Int32) (s0 : Int32) (X : xh_T) : Option (Int32 × xh_T) :=
  xh_n s0 (fun v21 : Int32 =>
  if v21 ≤ 0 then
  fx_MD_move_b113 a1 v21 X
  else xh_b (fx_MD_full v21 X) (fun (r23 : Int32) (X6 : xh_T) =>
  if r23 = 0 then
  fx_MD_move_b113 a1 v21 X6
  else some (14, X6)))
set_option maxRecDepth 100000 in
set_option maxHeartbeats 4000000 in
theorem jb_MD_move_b97 {p : Program} {l : Launch} {e : Env} {s : State} {m : MethodId} {args : Array Value} {below : List Frame} {meth : Method} {c : Code} {D : va_G} {G : xh_G} (hz : xh_C p s m args c b_MD_move 3 "SpendScriptModel" D G (xh_A G s.heap.size)) (hr : meth.sig.returnType = (some .int)) (hlk : meth.locks = false) (a1 : Int32) (s0 : Int32) (X : xh_T) : xh_J p l e rm_MD_move s m args below meth c 0 0 D G (xh_A G s.heap.size) 3 (fun r X' => MQ below (xh_Qi D G (xh_A G s.heap.size) r X') args s 0 0 (xh_A G s.heap.size)) 97 [(0, .ref (G.1 206)), (1, .int a1)] [.int s0] X (fx_MD_move_b97 a1 s0 X) := by
  unfold fx_MD_move_b97
  refine jr_istore_n (lf := [(0, .ref (G.1 206)), (1, .int a1)]) hz d_MD_move_97 rfl (by decide) rfl (fun v21 => ?_)
  refine jr_iload_n hz d_MD_move_98 rfl 0 rfl ?_
  refine jr_if_le (tgt := 113) hz d_MD_move_99 (by decide) ?_ ?_
  · refine jr_sub (ls' := [(0, .ref (G.1 206)), (1, .int a1), (2, .int v21)]) [1, 2, 0] rfl ?_
    exact jb_MD_move_b113 hz hr hlk a1 v21 X
  · refine jr_aload_n hz d_MD_move_102 rfl 1 rfl ?_
    refine jr_iload_n hz d_MD_move_103 rfl 0 rfl ?_
    refine jr_callVi (As := [.int v21]) (a := 206) (ci := 7) (st := []) hz (cx_MD_full l D G hz.2.2.2.2.2.2.1 v21 X) (fun _ _ => ⟨lq_206, _, ly_206⟩) wv_MD_109 ⟨rfl, rfl, Nat.le_of_ble_eq_true rfl, Nat.le_of_ble_eq_true rfl⟩ ⟨Nat.zero_le _, Nat.zero_le _⟩ rfl rfl (Nat.le_of_ble_eq_true rfl) d_MD_move_104 (fun r23 X6 => ?_)
    refine jr_if_eq (tgt := 113) hz d_MD_move_107 (by decide) ?_ ?_
    · refine jr_sub (ls' := [(0, .ref (G.1 206)), (1, .int a1), (2, .int v21)]) [1, 2, 0] rfl ?_
      exact jb_MD_move_b113 hz hr hlk a1 v21 X6
    · refine jr_bipush (v := 14) hz d_MD_move_110 (by decide) ?_
      exact jr_iret hz hr hlk d_MD_move_112
def fx_MD_move_b53 (a1 : Int32) (X : xh_T) : Option (Int32 × xh_T) :=
  if a1 = 121 then
  fx_MD_move_b65 a1 X
  else if a1 = 122 then
  fx_MD_move_b65 a1 X
  else if a1 = 115 then
  xh_b (fx_MD_isTrue 0 X) (fun (r14 : Int32) (X4 : xh_T) =>
  if r14 = 0 then
  fx_MD_move_b97 a1 0 X4
  else fx_MD_move_b97 a1 1 X4)
  else xh_b (fx_MD_grows a1 X) (fun (r9 : Int32) (X3 : xh_T) =>
  fx_MD_move_b97 a1 r9 X3)
set_option maxRecDepth 100000 in
set_option maxHeartbeats 4000000 in
theorem jb_MD_move_b53 {p : Program} {l : Launch} {e : Env} {s : State} {m : MethodId} {args : Array Value} {below : List Frame} {meth : Method} {c : Code} {D : va_G} {G : xh_G} (hz : xh_C p s m args c b_MD_move 3 "SpendScriptModel" D G (xh_A G s.heap.size)) (hr : meth.sig.returnType = (some .int)) (hlk : meth.locks = false) (a1 : Int32) (X : xh_T) : xh_J p l e rm_MD_move s m args below meth c 0 0 D G (xh_A G s.heap.size) 3 (fun r X' => MQ below (xh_Qi D G (xh_A G s.heap.size) r X') args s 0 0 (xh_A G s.heap.size)) 53 [(0, .ref (G.1 206)), (1, .int a1)] [] X (fx_MD_move_b53 a1 X) := by
  unfold fx_MD_move_b53
  refine jr_iload_n hz d_MD_move_53 rfl 1 rfl ?_
  refine jr_bipush (v := 121) hz d_MD_move_54 (by decide) ?_
  refine jr_icmp_eq (tgt := 65) hz d_MD_move_56 (by decide) ?_ ?_
  · refine jr_sub (ls' := [(0, .ref (G.1 206)), (1, .int a1)]) [0, 1] rfl ?_
    exact jb_MD_move_b65 hz hr hlk a1 X
  · refine jr_iload_n hz d_MD_move_59 rfl 1 rfl ?_
    refine jr_bipush (v := 122) hz d_MD_move_60 (by decide) ?_
    refine jr_icmp_ne (tgt := 71) hz d_MD_move_62 (by decide) ?_ ?_
    · refine jr_iload_n hz d_MD_move_71 rfl 1 rfl ?_
      refine jr_bipush (v := 115) hz d_MD_move_72 (by decide) ?_
      refine jr_icmp_ne (tgt := 93) hz d_MD_move_74 (by decide) ?_ ?_
      · refine jr_iload_n hz d_MD_move_93 rfl 1 rfl ?_
        refine jr_callSi (As := [.int a1]) (st := []) hz (cx_MD_grows l D G hz.2.2.2.2.2.2.1 a1 X) ws_MD_148 ⟨rfl, rfl, Nat.le_of_ble_eq_true rfl, Nat.le_of_ble_eq_true rfl⟩ ⟨Nat.zero_le _, Nat.zero_le _⟩ rfl rfl (Nat.le_of_ble_eq_true rfl) d_MD_move_94 (fun r9 X3 => ?_)
        refine jr_sub (ls' := [(0, .ref (G.1 206)), (1, .int a1)]) [0, 1] rfl ?_
        exact jb_MD_move_b97 hz hr hlk a1 r9 X3
      · refine jr_aload_n hz d_MD_move_77 rfl 0 rfl ?_
        refine jr_iconst (v := 0) hz d_MD_move_78 (by decide) ?_
        refine jr_callVi (As := [.int 0]) (a := 206) (ci := 7) (st := []) hz (cx_MD_isTrue l D G hz.2.2.2.2.2.2.1 0 X) (fun _ _ => ⟨lq_206, _, ly_206⟩) wv_MD_135 ⟨rfl, rfl, Nat.le_of_ble_eq_true rfl, Nat.le_of_ble_eq_true rfl⟩ ⟨Nat.zero_le _, Nat.zero_le _⟩ rfl rfl (Nat.le_of_ble_eq_true rfl) d_MD_move_79 (fun r14 X4 => ?_)
        refine jr_if_eq (tgt := 89) hz d_MD_move_82 (by decide) ?_ ?_
        · refine jr_iconst (v := 0) hz d_MD_move_89 (by decide) ?_
          refine jr_goto (tgt := 97) hz d_MD_move_90 (by decide) ?_
          refine jr_sub (ls' := [(0, .ref (G.1 206)), (1, .int a1)]) [0, 1] rfl ?_
          exact jb_MD_move_b97 hz hr hlk a1 0 X4
        · refine jr_iconst (v := 1) hz d_MD_move_85 (by decide) ?_
          refine jr_goto (tgt := 97) hz d_MD_move_86 (by decide) ?_
          refine jr_sub (ls' := [(0, .ref (G.1 206)), (1, .int a1)]) [0, 1] rfl ?_
          exact jb_MD_move_b97 hz hr hlk a1 1 X4
    · refine jr_sub (ls' := [(0, .ref (G.1 206)), (1, .int a1)]) [0, 1] rfl ?_
      exact jb_MD_move_b65 hz hr hlk a1 X
def fx_MD_move_b36 (a1 : Int32) (X : xh_T) : Option (Int32 × xh_T) :=
  if a1 = 105 then
  xh_b (fx_MD_isTrue 0 X) (fun (r6 : Int32) (X2 : xh_T) =>
  if r6 = 0 then
  some (9, X2)
  else fx_MD_move_b53 a1 X2)
  else fx_MD_move_b53 a1 X
set_option maxRecDepth 100000 in
set_option maxHeartbeats 4000000 in
theorem jb_MD_move_b36 {p : Program} {l : Launch} {e : Env} {s : State} {m : MethodId} {args : Array Value} {below : List Frame} {meth : Method} {c : Code} {D : va_G} {G : xh_G} (hz : xh_C p s m args c b_MD_move 3 "SpendScriptModel" D G (xh_A G s.heap.size)) (hr : meth.sig.returnType = (some .int)) (hlk : meth.locks = false) (a1 : Int32) (X : xh_T) : xh_J p l e rm_MD_move s m args below meth c 0 0 D G (xh_A G s.heap.size) 3 (fun r X' => MQ below (xh_Qi D G (xh_A G s.heap.size) r X') args s 0 0 (xh_A G s.heap.size)) 36 [(0, .ref (G.1 206)), (1, .int a1)] [] X (fx_MD_move_b36 a1 X) := by
  unfold fx_MD_move_b36
  refine jr_iload_n hz d_MD_move_36 rfl 1 rfl ?_
  refine jr_bipush (v := 105) hz d_MD_move_37 (by decide) ?_
  refine jr_icmp_ne (tgt := 53) hz d_MD_move_39 (by decide) ?_ ?_
  · refine jr_sub (ls' := [(0, .ref (G.1 206)), (1, .int a1)]) [0, 1] rfl ?_
    exact jb_MD_move_b53 hz hr hlk a1 X
  · refine jr_aload_n hz d_MD_move_42 rfl 0 rfl ?_
    refine jr_iconst (v := 0) hz d_MD_move_43 (by decide) ?_
    refine jr_callVi (As := [.int 0]) (a := 206) (ci := 7) (st := []) hz (cx_MD_isTrue l D G hz.2.2.2.2.2.2.1 0 X) (fun _ _ => ⟨lq_206, _, ly_206⟩) wv_MD_135 ⟨rfl, rfl, Nat.le_of_ble_eq_true rfl, Nat.le_of_ble_eq_true rfl⟩ ⟨Nat.zero_le _, Nat.zero_le _⟩ rfl rfl (Nat.le_of_ble_eq_true rfl) d_MD_move_44 (fun r6 X2 => ?_)
    refine jr_if_ne (tgt := 53) hz d_MD_move_47 (by decide) ?_ ?_
    · refine jr_sub (ls' := [(0, .ref (G.1 206)), (1, .int a1)]) [0, 1] rfl ?_
      exact jb_MD_move_b53 hz hr hlk a1 X2
    · refine jr_bipush (v := 9) hz d_MD_move_50 (by decide) ?_
      exact jr_iret hz hr hlk d_MD_move_52
def fx_MD_move (p1 : Int32) (X : xh_T) : Option (Int32 × xh_T) :=
  if p1 = 106 then
  some (10, X)
  else xh_b (fx_MD_needs p1 X) (fun (r1 : Int32) (X1 : xh_T) =>
  if X.1 206 5 < r1 then
  some (11, X1)
  else if p1 = 108 then
  if X1.1 206 6 = 0 then
  some (11, X1)
  else fx_MD_move_b36 p1 X1
  else fx_MD_move_b36 p1 X1)
set_option maxRecDepth 100000 in
set_option maxHeartbeats 4000000 in
theorem cx_MD_move (l : Launch) (D : va_G) (G : xh_G) (hD : xh_D G) (p1 : Int32) (X : xh_T) : xh_M xh_Qi l D G y_MD_move b_MD_move 3 (some .int) rm_MD_move [.ref (G.1 206), .int p1] X (fx_MD_move p1 X) := by
  refine xh_enter (ls := [(0, .ref (G.1 206)), (1, .int p1)]) hD (by decide +kernel) (Nat.le_of_ble_eq_true rfl) rfl ?_
  intro p e s m args below meth c hz hr hlk
  unfold fx_MD_move
  refine jr_iload_n hz d_MD_move_0 rfl 1 rfl ?_
  refine jr_bipush (v := 106) hz d_MD_move_1 (by decide) ?_
  refine jr_icmp_ne (tgt := 9) hz d_MD_move_3 (by decide) ?_ ?_
  · refine jr_aload_n hz d_MD_move_9 rfl 0 rfl ?_
    refine jr_geti (j := 5) hz lq_206 ly_206 rfl wf_MD_56 d_MD_move_10 ?_
    refine jr_iload_n hz d_MD_move_13 rfl 1 rfl ?_
    refine jr_callSi (As := [.int p1]) (st := [.int (X.1 206 5)]) hz (cx_MD_needs l D G hz.2.2.2.2.2.2.1 p1 X) ws_MD_142 ⟨rfl, rfl, Nat.le_of_ble_eq_true rfl, Nat.le_of_ble_eq_true rfl⟩ ⟨Nat.zero_le _, Nat.zero_le _⟩ rfl rfl (Nat.le_of_ble_eq_true rfl) d_MD_move_14 (fun r1 X1 => ?_)
    refine jr_icmp_lt (tgt := 33) hz d_MD_move_17 (by decide) ?_ ?_
    · refine jr_bipush (v := 11) hz d_MD_move_33 (by decide) ?_
      exact jr_iret hz hr hlk d_MD_move_35
    · refine jr_iload_n hz d_MD_move_20 rfl 1 rfl ?_
      refine jr_bipush (v := 108) hz d_MD_move_21 (by decide) ?_
      refine jr_icmp_ne (tgt := 36) hz d_MD_move_23 (by decide) ?_ ?_
      · refine jr_sub (ls' := [(0, .ref (G.1 206)), (1, .int p1)]) [0, 1] rfl ?_
        exact jb_MD_move_b36 hz hr hlk p1 X1
      · refine jr_aload_n hz d_MD_move_26 rfl 0 rfl ?_
        refine jr_geti (j := 6) hz lq_206 ly_206 rfl wf_MD_76 d_MD_move_27 ?_
        refine jr_if_ne (tgt := 36) hz d_MD_move_30 (by decide) ?_ ?_
        · refine jr_sub (ls' := [(0, .ref (G.1 206)), (1, .int p1)]) [0, 1] rfl ?_
          exact jb_MD_move_b36 hz hr hlk p1 X1
        · refine jr_bipush (v := 11) hz d_MD_move_33 (by decide) ?_
          exact jr_iret hz hr hlk d_MD_move_35
  · refine jr_bipush (v := 10) hz d_MD_move_6 (by decide) ?_
    exact jr_iret hz hr hlk d_MD_move_8

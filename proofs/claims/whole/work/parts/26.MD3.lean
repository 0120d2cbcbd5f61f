/-! printed by wip/whole/gen_walks.py -/
theorem d_MD_known_0 : decode b_MD_known 0 = .ok (.iload_n 0, 1) := by decide +kernel
theorem d_MD_known_1 : decode b_MD_known 1 = .ok (.bipush 97, 2) := by decide +kernel
theorem d_MD_known_3 : decode b_MD_known 3 = .ok (.if_icmp .eq 39, 3) := by decide +kernel
theorem d_MD_known_6 : decode b_MD_known 6 = .ok (.iload_n 0, 1) := by decide +kernel
theorem d_MD_known_7 : decode b_MD_known 7 = .ok (.bipush 99, 2) := by decide +kernel
theorem d_MD_known_9 : decode b_MD_known 9 = .ok (.if_icmp .eq 33, 3) := by decide +kernel
theorem d_MD_known_12 : decode b_MD_known 12 = .ok (.iload_n 0, 1) := by decide +kernel
theorem d_MD_known_13 : decode b_MD_known 13 = .ok (.bipush 100, 2) := by decide +kernel
theorem d_MD_known_15 : decode b_MD_known 15 = .ok (.if_icmp .eq 27, 3) := by decide +kernel
theorem d_MD_known_18 : decode b_MD_known 18 = .ok (.iload_n 0, 1) := by decide +kernel
theorem d_MD_known_19 : decode b_MD_known 19 = .ok (.bipush 103, 2) := by decide +kernel
theorem d_MD_known_21 : decode b_MD_known 21 = .ok (.if_icmp .lt 9, 3) := by decide +kernel
theorem d_MD_known_24 : decode b_MD_known 24 = .ok (.iload_n 0, 1) := by decide +kernel
theorem d_MD_known_25 : decode b_MD_known 25 = .ok (.bipush 110, 2) := by decide +kernel
theorem d_MD_known_27 : decode b_MD_known 27 = .ok (.if_icmp .le 15, 3) := by decide +kernel
theorem d_MD_known_30 : decode b_MD_known 30 = .ok (.iload_n 0, 1) := by decide +kernel
theorem d_MD_known_31 : decode b_MD_known 31 = .ok (.bipush 115, 2) := by decide +kernel
theorem d_MD_known_33 : decode b_MD_known 33 = .ok (.if_icmp .lt 11, 3) := by decide +kernel
theorem d_MD_known_36 : decode b_MD_known 36 = .ok (.iload_n 0, 1) := by decide +kernel
theorem d_MD_known_37 : decode b_MD_known 37 = .ok (.bipush 125, 2) := by decide +kernel
theorem d_MD_known_39 : decode b_MD_known 39 = .ok (.if_icmp .gt 5, 3) := by decide +kernel
theorem d_MD_known_42 : decode b_MD_known 42 = .ok (.iconst 1, 1) := by decide +kernel
theorem d_MD_known_43 : decode b_MD_known 43 = .ok (.ireturn, 1) := by decide +kernel
theorem d_MD_known_44 : decode b_MD_known 44 = .ok (.iload_n 0, 1) := by decide +kernel
theorem d_MD_known_45 : decode b_MD_known 45 = .ok (.sipush 130, 3) := by decide +kernel
theorem d_MD_known_48 : decode b_MD_known 48 = .ok (.if_icmp .eq 45, 3) := by decide +kernel
theorem d_MD_known_51 : decode b_MD_known 51 = .ok (.iload_n 0, 1) := by decide +kernel
theorem d_MD_known_52 : decode b_MD_known 52 = .ok (.sipush 135, 3) := by decide +kernel
theorem d_MD_known_55 : decode b_MD_known 55 = .ok (.if_icmp .eq 38, 3) := by decide +kernel
theorem d_MD_known_58 : decode b_MD_known 58 = .ok (.iload_n 0, 1) := by decide +kernel
theorem d_MD_known_59 : decode b_MD_known 59 = .ok (.sipush 136, 3) := by decide +kernel
theorem d_MD_known_62 : decode b_MD_known 62 = .ok (.if_icmp .eq 31, 3) := by decide +kernel
theorem d_MD_known_65 : decode b_MD_known 65 = .ok (.iload_n 0, 1) := by decide +kernel
theorem d_MD_known_66 : decode b_MD_known 66 = .ok (.sipush 139, 3) := by decide +kernel
theorem d_MD_known_69 : decode b_MD_known 69 = .ok (.if_icmp .eq 24, 3) := by decide +kernel
theorem d_MD_known_72 : decode b_MD_known 72 = .ok (.iload_n 0, 1) := by decide +kernel
theorem d_MD_known_73 : decode b_MD_known 73 = .ok (.sipush 140, 3) := by decide +kernel
theorem d_MD_known_76 : decode b_MD_known 76 = .ok (.if_icmp .eq 17, 3) := by decide +kernel
theorem d_MD_known_79 : decode b_MD_known 79 = .ok (.iload_n 0, 1) := by decide +kernel
theorem d_MD_known_80 : decode b_MD_known 80 = .ok (.sipush 143, 3) := by decide +kernel
theorem d_MD_known_83 : decode b_MD_known 83 = .ok (.if_icmp .lt 12, 3) := by decide +kernel
theorem d_MD_known_86 : decode b_MD_known 86 = .ok (.iload_n 0, 1) := by decide +kernel
theorem d_MD_known_87 : decode b_MD_known 87 = .ok (.sipush 148, 3) := by decide +kernel
theorem d_MD_known_90 : decode b_MD_known 90 = .ok (.if_icmp .gt 5, 3) := by decide +kernel
theorem d_MD_known_93 : decode b_MD_known 93 = .ok (.iconst 1, 1) := by decide +kernel
theorem d_MD_known_94 : decode b_MD_known 94 = .ok (.ireturn, 1) := by decide +kernel
theorem d_MD_known_95 : decode b_MD_known 95 = .ok (.iload_n 0, 1) := by decide +kernel
theorem d_MD_known_96 : decode b_MD_known 96 = .ok (.sipush 154, 3) := by decide +kernel
theorem d_MD_known_99 : decode b_MD_known 99 = .ok (.if_icmp .lt 10, 3) := by decide +kernel
theorem d_MD_known_102 : decode b_MD_known 102 = .ok (.iload_n 0, 1) := by decide +kernel
theorem d_MD_known_103 : decode b_MD_known 103 = .ok (.sipush 165, 3) := by decide +kernel
theorem d_MD_known_106 : decode b_MD_known 106 = .ok (.if_icmp .le 24, 3) := by decide +kernel
theorem d_MD_known_109 : decode b_MD_known 109 = .ok (.iload_n 0, 1) := by decide +kernel
theorem d_MD_known_110 : decode b_MD_known 110 = .ok (.sipush 169, 3) := by decide +kernel
theorem d_MD_known_113 : decode b_MD_known 113 = .ok (.if_icmp .eq 17, 3) := by decide +kernel
theorem d_MD_known_116 : decode b_MD_known 116 = .ok (.iload_n 0, 1) := by decide +kernel
theorem d_MD_known_117 : decode b_MD_known 117 = .ok (.sipush 172, 3) := by decide +kernel
theorem d_MD_known_120 : decode b_MD_known 120 = .ok (.if_icmp .lt 14, 3) := by decide +kernel
theorem d_MD_known_123 : decode b_MD_known 123 = .ok (.iload_n 0, 1) := by decide +kernel
theorem d_MD_known_124 : decode b_MD_known 124 = .ok (.sipush 174, 3) := by decide +kernel
theorem d_MD_known_127 : decode b_MD_known 127 = .ok (.if_icmp .gt 7, 3) := by decide +kernel
theorem d_MD_known_130 : decode b_MD_known 130 = .ok (.iconst 1, 1) := by decide +kernel
theorem d_MD_known_131 : decode b_MD_known 131 = .ok (.goto 4, 3) := by decide +kernel
theorem d_MD_known_134 : decode b_MD_known 134 = .ok (.iconst 0, 1) := by decide +kernel
theorem d_MD_known_135 : decode b_MD_known 135 = .ok (.ireturn, 1) := by decide +kernel
abbrev rm_MD_known : Room := { frames := 0, cells := 0, slots := 0, locals := 0 }
def fx_MD_known_b130 (X : xh_T) : Option (Int32 × xh_T) :=
  some (1, X)
set_option maxRecDepth 100000 in
set_option maxHeartbeats 4000000 in
theorem jb_MD_known_b130 {p : Program} {l : Launch} {e : Env} {s : State} {m : MethodId} {args : Array Value} {below : List Frame} {meth : Method} {c : Code} {D : va_G} {G : xh_G} (hz : xh_C p s m args c b_MD_known 1 "SpendScriptModel" D G (xh_A G s.heap.size)) (hr : meth.sig.returnType = (some .boolean)) (hlk : meth.locks = false) (X : xh_T) : xh_J p l e rm_MD_known s m args below meth c 0 0 D G (xh_A G s.heap.size) 1 (fun r X' => MQ below (xh_Qi D G (xh_A G s.heap.size) r X') args s 0 0 (xh_A G s.heap.size)) 130 [] [] X (fx_MD_known_b130 X) := by
  unfold fx_MD_known_b130
  refine jr_iconst (v := 1) hz d_MD_known_130 (by decide) ?_
  refine jr_goto (tgt := 135) hz d_MD_known_131 (by decide) ?_
  exact jr_zret hz hr hlk (by decide) d_MD_known_135
def fx_MD_known_b109 (a0 : Int32) (X : xh_T) : Option (Int32 × xh_T) :=
  if a0 = 169 then
  fx_MD_known_b130 X
  else if a0 < 172 then
  some (0, X)
  else if 174 < a0 then
  some (0, X)
  else fx_MD_known_b130 X
set_option maxRecDepth 100000 in
set_option maxHeartbeats 4000000 in
theorem jb_MD_known_b109 {p : Program} {l : Launch} {e : Env} {s : State} {m : MethodId} {args : Array Value} {below : List Frame} {meth : Method} {c : Code} {D : va_G} {G : xh_G} (hz : xh_C p s m args c b_MD_known 1 "SpendScriptModel" D G (xh_A G s.heap.size)) (hr : meth.sig.returnType = (some .boolean)) (hlk : meth.locks = false) (a0 : Int32) (X : xh_T) : xh_J p l e rm_MD_known s m args below meth c 0 0 D G (xh_A G s.heap.size) 1 (fun r X' => MQ below (xh_Qi D G (xh_A G s.heap.size) r X') args s 0 0 (xh_A G s.heap.size)) 109 [(0, .int a0)] [] X (fx_MD_known_b109 a0 X) := by
  unfold fx_MD_known_b109
  refine jr_iload_n hz d_MD_known_109 rfl 0 rfl ?_
  refine jr_sipush (v := 169) hz d_MD_known_110 (by decide) ?_
  refine jr_icmp_eq (tgt := 130) hz d_MD_known_113 (by decide) ?_ ?_
  · refine jr_sub (ls' := []) [] rfl ?_
    exact jb_MD_known_b130 hz hr hlk X
  · refine jr_iload_n hz d_MD_known_116 rfl 0 rfl ?_
    refine jr_sipush (v := 172) hz d_MD_known_117 (by decide) ?_
    refine jr_icmp_lt (tgt := 134) hz d_MD_known_120 (by decide) ?_ ?_
    · refine jr_iconst (v := 0) hz d_MD_known_134 (by decide) ?_
      exact jr_zret hz hr hlk (by decide) d_MD_known_135
    · refine jr_iload_n hz d_MD_known_123 rfl 0 rfl ?_
      refine jr_sipush (v := 174) hz d_MD_known_124 (by decide) ?_
      refine jr_icmp_gt (tgt := 134) hz d_MD_known_127 (by decide) ?_ ?_
      · refine jr_iconst (v := 0) hz d_MD_known_134 (by decide) ?_
        exact jr_zret hz hr hlk (by decide) d_MD_known_135
      · refine jr_sub (ls' := []) [] rfl ?_
        exact jb_MD_known_b130 hz hr hlk X
def fx_MD_known_b95 (a0 : Int32) (X : xh_T) : Option (Int32 × xh_T) :=
  if a0 < 154 then
  fx_MD_known_b109 a0 X
  else if a0 ≤ 165 then
  fx_MD_known_b130 X
  else fx_MD_known_b109 a0 X
set_option maxRecDepth 100000 in
set_option maxHeartbeats 4000000 in
theorem jb_MD_known_b95 {p : Program} {l : Launch} {e : Env} {s : State} {m : MethodId} {args : Array Value} {below : List Frame} {meth : Method} {c : Code} {D : va_G} {G : xh_G} (hz : xh_C p s m args c b_MD_known 1 "SpendScriptModel" D G (xh_A G s.heap.size)) (hr : meth.sig.returnType = (some .boolean)) (hlk : meth.locks = false) (a0 : Int32) (X : xh_T) : xh_J p l e rm_MD_known s m args below meth c 0 0 D G (xh_A G s.heap.size) 1 (fun r X' => MQ below (xh_Qi D G (xh_A G s.heap.size) r X') args s 0 0 (xh_A G s.heap.size)) 95 [(0, .int a0)] [] X (fx_MD_known_b95 a0 X) := by
  unfold fx_MD_known_b95
  refine jr_iload_n hz d_MD_known_95 rfl 0 rfl ?_
  refine jr_sipush (v := 154) hz d_MD_known_96 (by decide) ?_
  refine jr_icmp_lt (tgt := 109) hz d_MD_known_99 (by decide) ?_ ?_
  · refine jr_sub (ls' := [(0, .int a0)]) [0] rfl ?_
    exact jb_MD_known_b109 hz hr hlk a0 X
  · refine jr_iload_n hz d_MD_known_102 rfl 0 rfl ?_
    refine jr_sipush (v := 165) hz d_MD_known_103 (by decide) ?_
    refine jr_icmp_le (tgt := 130) hz d_MD_known_106 (by decide) ?_ ?_
    · refine jr_sub (ls' := []) [] rfl ?_
      exact jb_MD_known_b130 hz hr hlk X
    · refine jr_sub (ls' := [(0, .int a0)]) [0] rfl ?_
      exact jb_MD_known_b109 hz hr hlk a0 X
def fx_MD_known_b44 (a0 : Int32) (X : xh_T) : Option (Int32 × xh_T) :=
  if a0 = 130 then
  some (1, X)
  else if a0 = 135 then
  some (1, X)
  else if a0 = 136 then
  some (1, X)
  else if a0 = 139 then
  some (1, X)
  else if a0 = 140 then
  some (1, X)
  else if a0 < 143 then
  fx_MD_known_b95 a0 X
  else if 148 < a0 then
  fx_MD_known_b95 a0 X
  else some (1, X)
set_option maxRecDepth 100000 in
set_option maxHeartbeats 4000000 in
theorem jb_MD_known_b44 {p : Program} {l : Launch} {e : Env} {s : State} {m : MethodId} {args : Array Value} {below : List Frame} {meth : Method} {c : Code} {D : va_G} {G : xh_G} (hz : xh_C p s m args c b_MD_known 1 "SpendScriptModel" D G (xh_A G s.heap.size)) (hr : meth.sig.returnType = (some .boolean)) (hlk : meth.locks = false) (a0 : Int32) (X : xh_T) : xh_J p l e rm_MD_known s m args below meth c 0 0 D G (xh_A G s.heap.size) 1 (fun r X' => MQ below (xh_Qi D G (xh_A G s.heap.size) r X') args s 0 0 (xh_A G s.heap.size)) 44 [(0, .int a0)] [] X (fx_MD_known_b44 a0 X) := by
  unfold fx_MD_known_b44
  refine jr_iload_n hz d_MD_known_44 rfl 0 rfl ?_
  refine jr_sipush (v := 130) hz d_MD_known_45 (by decide) ?_
  refine jr_icmp_eq (tgt := 93) hz d_MD_known_48 (by decide) ?_ ?_
  · refine jr_iconst (v := 1) hz d_MD_known_93 (by decide) ?_
    exact jr_zret hz hr hlk (by decide) d_MD_known_94
  · refine jr_iload_n hz d_MD_known_51 rfl 0 rfl ?_
    refine jr_sipush (v := 135) hz d_MD_known_52 (by decide) ?_
    refine jr_icmp_eq (tgt := 93) hz d_MD_known_55 (by decide) ?_ ?_
    · refine jr_iconst (v := 1) hz d_MD_known_93 (by decide) ?_
      exact jr_zret hz hr hlk (by decide) d_MD_known_94
    · refine jr_iload_n hz d_MD_known_58 rfl 0 rfl ?_
      refine jr_sipush (v := 136) hz d_MD_known_59 (by decide) ?_
      refine jr_icmp_eq (tgt := 93) hz d_MD_known_62 (by decide) ?_ ?_
      · refine jr_iconst (v := 1) hz d_MD_known_93 (by decide) ?_
        exact jr_zret hz hr hlk (by decide) d_MD_known_94
      · refine jr_iload_n hz d_MD_known_65 rfl 0 rfl ?_
        refine jr_sipush (v := 139) hz d_MD_known_66 (by decide) ?_
        refine jr_icmp_eq (tgt := 93) hz d_MD_known_69 (by decide) ?_ ?_
        · refine jr_iconst (v := 1) hz d_MD_known_93 (by decide) ?_
          exact jr_zret hz hr hlk (by decide) d_MD_known_94
        · refine jr_iload_n hz d_MD_known_72 rfl 0 rfl ?_
          refine jr_sipush (v := 140) hz d_MD_known_73 (by decide) ?_
          refine jr_icmp_eq (tgt := 93) hz d_MD_known_76 (by decide) ?_ ?_
          · refine jr_iconst (v := 1) hz d_MD_known_93 (by decide) ?_
            exact jr_zret hz hr hlk (by decide) d_MD_known_94
          · refine jr_iload_n hz d_MD_known_79 rfl 0 rfl ?_
            refine jr_sipush (v := 143) hz d_MD_known_80 (by decide) ?_
            refine jr_icmp_lt (tgt := 95) hz d_MD_known_83 (by decide) ?_ ?_
            · refine jr_sub (ls' := [(0, .int a0)]) [0] rfl ?_
              exact jb_MD_known_b95 hz hr hlk a0 X
            · refine jr_iload_n hz d_MD_known_86 rfl 0 rfl ?_
              refine jr_sipush (v := 148) hz d_MD_known_87 (by decide) ?_
              refine jr_icmp_gt (tgt := 95) hz d_MD_known_90 (by decide) ?_ ?_
              · refine jr_sub (ls' := [(0, .int a0)]) [0] rfl ?_
                exact jb_MD_known_b95 hz hr hlk a0 X
              · refine jr_iconst (v := 1) hz d_MD_known_93 (by decide) ?_
                exact jr_zret hz hr hlk (by decide) d_MD_known_94
def fx_MD_known_b30 (a0 : Int32) (X : xh_T) : Option (Int32 × xh_T) :=
  if a0 < 115 then
  fx_MD_known_b44 a0 X
  else if 125 < a0 then
  fx_MD_known_b44 a0 X
  else some (1, X)
set_option maxRecDepth 100000 in
set_option maxHeartbeats 4000000 in
theorem jb_MD_known_b30 {p : Program} {l : Launch} {e : Env} {s : State} {m : MethodId} {args : Array Value} {below : List Frame} {meth : Method} {c : Code} {D : va_G} {G : xh_G} (hz : xh_C p s m args c b_MD_known 1 "SpendScriptModel" D G (xh_A G s.heap.size)) (hr : meth.sig.returnType = (some .boolean)) (hlk : meth.locks = false) (a0 : Int32) (X : xh_T) : xh_J p l e rm_MD_known s m args below meth c 0 0 D G (xh_A G s.heap.size) 1 (fun r X' => MQ below (xh_Qi D G (xh_A G s.heap.size) r X') args s 0 0 (xh_A G s.heap.size)) 30 [(0, .int a0)] [] X (fx_MD_known_b30 a0 X) := by
  unfold fx_MD_known_b30
  refine jr_iload_n hz d_MD_known_30 rfl 0 rfl ?_
  refine jr_bipush (v := 115) hz d_MD_known_31 (by decide) ?_
  refine jr_icmp_lt (tgt := 44) hz d_MD_known_33 (by decide) ?_ ?_
  · refine jr_sub (ls' := [(0, .int a0)]) [0] rfl ?_
    exact jb_MD_known_b44 hz hr hlk a0 X
  · refine jr_iload_n hz d_MD_known_36 rfl 0 rfl ?_
    refine jr_bipush (v := 125) hz d_MD_known_37 (by decide) ?_
    refine jr_icmp_gt (tgt := 44) hz d_MD_known_39 (by decide) ?_ ?_
    · refine jr_sub (ls' := [(0, .int a0)]) [0] rfl ?_
      exact jb_MD_known_b44 hz hr hlk a0 X
    · refine jr_iconst (v := 1) hz d_MD_known_42 (by decide) ?_
      exact jr_zret hz hr hlk (by decide) d_MD_known_43
def fx_MD_known (p1 : Int32) (X : xh_T) : Option (Int32 × xh_T) :=
  if p1 = 97 then
  some (1, X)
  else if p1 = 99 then
  some (1, X)
  else if p1 = 100 then
  some (1, X)
  else if p1 < 103 then
  fx_MD_known_b30 p1 X
  else if p1 ≤ 110 then
  some (1, X)
  else fx_MD_known_b30 p1 X
set_option maxRecDepth 100000 in
set_option maxHeartbeats 4000000 in
theorem cx_MD_known (l : Launch) (D : va_G) (G : xh_G) (hD : xh_D G) (p1 : Int32) (X : xh_T) : xh_M xh_Qi l D G y_MD_known b_MD_known 1 (some .boolean) rm_MD_known [.int p1] X (fx_MD_known p1 X) := by
  refine xh_enter (ls := [(0, .int p1)]) hD (by decide +kernel) (Nat.le_of_ble_eq_true rfl) rfl ?_
  intro p e s m args below meth c hz hr hlk
  unfold fx_MD_known
  refine jr_iload_n hz d_MD_known_0 rfl 0 rfl ?_
  refine jr_bipush (v := 97) hz d_MD_known_1 (by decide) ?_
  refine jr_icmp_eq (tgt := 42) hz d_MD_known_3 (by decide) ?_ ?_
  · refine jr_iconst (v := 1) hz d_MD_known_42 (by decide) ?_
    exact jr_zret hz hr hlk (by decide) d_MD_known_43
  · refine jr_iload_n hz d_MD_known_6 rfl 0 rfl ?_
    refine jr_bipush (v := 99) hz d_MD_known_7 (by decide) ?_
    refine jr_icmp_eq (tgt := 42) hz d_MD_known_9 (by decide) ?_ ?_
    · refine jr_iconst (v := 1) hz d_MD_known_42 (by decide) ?_
      exact jr_zret hz hr hlk (by decide) d_MD_known_43
    · refine jr_iload_n hz d_MD_known_12 rfl 0 rfl ?_
      refine jr_bipush (v := 100) hz d_MD_known_13 (by decide) ?_
      refine jr_icmp_eq (tgt := 42) hz d_MD_known_15 (by decide) ?_ ?_
      · refine jr_iconst (v := 1) hz d_MD_known_42 (by decide) ?_
        exact jr_zret hz hr hlk (by decide) d_MD_known_43
      · refine jr_iload_n hz d_MD_known_18 rfl 0 rfl ?_
        refine jr_bipush (v := 103) hz d_MD_known_19 (by decide) ?_
        refine jr_icmp_lt (tgt := 30) hz d_MD_known_21 (by decide) ?_ ?_
        · refine jr_sub (ls' := [(0, .int p1)]) [0] rfl ?_
          exact jb_MD_known_b30 hz hr hlk p1 X
        · refine jr_iload_n hz d_MD_known_24 rfl 0 rfl ?_
          refine jr_bipush (v := 110) hz d_MD_known_25 (by decide) ?_
          refine jr_icmp_le (tgt := 42) hz d_MD_known_27 (by decide) ?_ ?_
          · refine jr_iconst (v := 1) hz d_MD_known_42 (by decide) ?_
            exact jr_zret hz hr hlk (by decide) d_MD_known_43
          · refine jr_sub (ls' := [(0, .int p1)]) [0] rfl ?_
            exact jb_MD_known_b30 hz hr hlk p1 X
theorem d_MD_branch_0 : decode b_MD_branch 0 = .ok (.aload_n 0, 1) := by decide +kernel
theorem d_MD_branch_1 : decode b_MD_branch 1 = .ok (.getfield 90, 3) := by decide +kernel
theorem d_MD_branch_4 : decode b_MD_branch 4 = .ok (.bipush 8, 2) := by decide +kernel
theorem d_MD_branch_6 : decode b_MD_branch 6 = .ok (.if_icmp .ne 6, 3) := by decide +kernel
theorem d_MD_branch_9 : decode b_MD_branch 9 = .ok (.bipush 8, 2) := by decide +kernel
theorem d_MD_branch_11 : decode b_MD_branch 11 = .ok (.ireturn, 1) := by decide +kernel
theorem d_MD_branch_12 : decode b_MD_branch 12 = .ok (.iconst 0, 1) := by decide +kernel
theorem d_MD_branch_13 : decode b_MD_branch 13 = .ok (.istore_n 3, 1) := by decide +kernel
theorem d_MD_branch_14 : decode b_MD_branch 14 = .ok (.iload_n 2, 1) := by decide +kernel
theorem d_MD_branch_15 : decode b_MD_branch 15 = .ok (.ifCond .eq 43, 3) := by decide +kernel
theorem d_MD_branch_18 : decode b_MD_branch 18 = .ok (.aload_n 0, 1) := by decide +kernel
theorem d_MD_branch_19 : decode b_MD_branch 19 = .ok (.getfield 56, 3) := by decide +kernel
theorem d_MD_branch_22 : decode b_MD_branch 22 = .ok (.ifCond .ne 6, 3) := by decide +kernel
theorem d_MD_branch_25 : decode b_MD_branch 25 = .ok (.bipush 11, 2) := by decide +kernel
theorem d_MD_branch_27 : decode b_MD_branch 27 = .ok (.ireturn, 1) := by decide +kernel
theorem d_MD_branch_28 : decode b_MD_branch 28 = .ok (.aload_n 0, 1) := by decide +kernel
theorem d_MD_branch_29 : decode b_MD_branch 29 = .ok (.iconst 0, 1) := by decide +kernel
theorem d_MD_branch_30 : decode b_MD_branch 30 = .ok (.invokevirtual 135, 3) := by decide +kernel
theorem d_MD_branch_33 : decode b_MD_branch 33 = .ok (.iload_n 1, 1) := by decide +kernel
theorem d_MD_branch_34 : decode b_MD_branch 34 = .ok (.bipush 99, 2) := by decide +kernel
theorem d_MD_branch_36 : decode b_MD_branch 36 = .ok (.if_icmp .ne 7, 3) := by decide +kernel
theorem d_MD_branch_39 : decode b_MD_branch 39 = .ok (.iconst 1, 1) := by decide +kernel
theorem d_MD_branch_40 : decode b_MD_branch 40 = .ok (.goto 4, 3) := by decide +kernel
theorem d_MD_branch_43 : decode b_MD_branch 43 = .ok (.iconst 0, 1) := by decide +kernel
theorem d_MD_branch_44 : decode b_MD_branch 44 = .ok (.if_icmp .ne 7, 3) := by decide +kernel
theorem d_MD_branch_47 : decode b_MD_branch 47 = .ok (.iconst 1, 1) := by decide +kernel
theorem d_MD_branch_48 : decode b_MD_branch 48 = .ok (.goto 4, 3) := by decide +kernel
theorem d_MD_branch_51 : decode b_MD_branch 51 = .ok (.iconst 0, 1) := by decide +kernel
theorem d_MD_branch_52 : decode b_MD_branch 52 = .ok (.istore_n 3, 1) := by decide +kernel
theorem d_MD_branch_53 : decode b_MD_branch 53 = .ok (.aload_n 0, 1) := by decide +kernel
theorem d_MD_branch_54 : decode b_MD_branch 54 = .ok (.iconst 1, 1) := by decide +kernel
theorem d_MD_branch_55 : decode b_MD_branch 55 = .ok (.invokevirtual 138, 3) := by decide +kernel
theorem d_MD_branch_58 : decode b_MD_branch 58 = .ok (.aload_n 0, 1) := by decide +kernel
theorem d_MD_branch_59 : decode b_MD_branch 59 = .ok (.getfield 25, 3) := by decide +kernel
theorem d_MD_branch_62 : decode b_MD_branch 62 = .ok (.aload_n 0, 1) := by decide +kernel
theorem d_MD_branch_63 : decode b_MD_branch 63 = .ok (.getfield 90, 3) := by decide +kernel
theorem d_MD_branch_66 : decode b_MD_branch 66 = .ok (.iload_n 3, 1) := by decide +kernel
theorem d_MD_branch_67 : decode b_MD_branch 67 = .ok (.bastore, 1) := by decide +kernel
theorem d_MD_branch_68 : decode b_MD_branch 68 = .ok (.aload_n 0, 1) := by decide +kernel
theorem d_MD_branch_69 : decode b_MD_branch 69 = .ok (.aload_n 0, 1) := by decide +kernel
theorem d_MD_branch_70 : decode b_MD_branch 70 = .ok (.getfield 90, 3) := by decide +kernel
theorem d_MD_branch_73 : decode b_MD_branch 73 = .ok (.iconst 1, 1) := by decide +kernel
theorem d_MD_branch_74 : decode b_MD_branch 74 = .ok (.iadd, 1) := by decide +kernel
theorem d_MD_branch_75 : decode b_MD_branch 75 = .ok (.putfield 90, 3) := by decide +kernel
theorem d_MD_branch_78 : decode b_MD_branch 78 = .ok (.iconst 0, 1) := by decide +kernel
theorem d_MD_branch_79 : decode b_MD_branch 79 = .ok (.ireturn, 1) := by decide +kernel
theorem wv_MD_135 : xh_V "SpendScriptModel" 135 7 y_MD_isTrue b_MD_isTrue 3 (some .boolean) 1 := ⟨(sp_tb (List.mem_of_getElem? (i := 658) (by decide +kernel))), (sp_tb (List.mem_of_getElem? (i := 8) (by decide +kernel))), (sp_tb (List.mem_of_getElem? (i := 655) (by decide +kernel))), ⟨by decide +kernel, by decide +kernel, by decide +kernel⟩, (sp_tb (List.mem_of_getElem? (i := 657) (by decide +kernel))), (sp_pv (q := (y_MD_isTrue, 19)) (List.mem_of_getElem? (i := 30) (by decide +kernel))), F_MD, 19, rfl⟩
theorem wp_MD_90 : xh_Fp "SpendScriptModel" 90 7 8 := ⟨R_MD, F_MD, 19, t_MD, rfl, by decide, iw_MD, (sp_tb (List.mem_of_getElem? (i := 545) (by decide +kernel))), tk_MD, nk_MD, rfl, rfl⟩
theorem wv_MD_138 : xh_V "SpendScriptModel" 138 7 y_MD_pop b_MD_pop 2 none 1 := ⟨(sp_tb (List.mem_of_getElem? (i := 674) (by decide +kernel))), (sp_tb (List.mem_of_getElem? (i := 8) (by decide +kernel))), (sp_tb (List.mem_of_getElem? (i := 671) (by decide +kernel))), ⟨by decide +kernel, by decide +kernel, by decide +kernel⟩, (sp_tb (List.mem_of_getElem? (i := 673) (by decide +kernel))), (sp_pv (q := (y_MD_pop, 19)) (List.mem_of_getElem? (i := 34) (by decide +kernel))), F_MD, 19, rfl⟩
abbrev rm_MD_branch : Room := { frames := 3, cells := 0, slots := 0, locals := 65 }
def fx_MD_branch_b58 (a3 : Int32) (X : xh_T) : Option (Int32 × xh_T) :=
  xh_o (X.1 206 8) 8 (xh_n (xh_i X 212 (X.1 206 8 : Int32).toNatClampNeg (vp_nar .boolean a3)) (fun X2 : xh_T =>
  xh_n (xh_i X2 206 8 (X2.1 206 8 + 1)) (fun X3 : xh_T =>
  some (0, X3))))
set_option maxRecDepth 100000 in
set_option maxHeartbeats 4000000 in
theorem jb_MD_branch_b58 {p : Program} {l : Launch} {e : Env} {s : State} {m : MethodId} {args : Array Value} {below : List Frame} {meth : Method} {c : Code} {D : va_G} {G : xh_G} (hz : xh_C p s m args c b_MD_branch 4 "SpendScriptModel" D G (xh_A G s.heap.size)) (hr : meth.sig.returnType = (some .int)) (hlk : meth.locks = false) (a3 : Int32) (X : xh_T) : xh_J p l e rm_MD_branch s m args below meth c 0 0 D G (xh_A G s.heap.size) 4 (fun r X' => MQ below (xh_Qi D G (xh_A G s.heap.size) r X') args s 0 0 (xh_A G s.heap.size)) 58 [(0, .ref (G.1 206)), (3, .int a3)] [] X (fx_MD_branch_b58 a3 X) := by
  unfold fx_MD_branch_b58
  refine jr_aload_n hz d_MD_branch_58 rfl 0 rfl ?_
  refine jr_getr (j := 7) (t := 212) hz lq_206 ly_206 rfl wf_MD_25 d_MD_branch_59 ?_
  refine jr_aload_n hz d_MD_branch_62 rfl 0 rfl ?_
  refine jr_geti (j := 8) hz lq_206 ly_206 rfl wf_MD_90 d_MD_branch_63 ?_
  refine jr_iload_n hz d_MD_branch_66 rfl 1 rfl ?_
  refine jr_zast (n := 8) hz lq_212 ly_212 d_MD_branch_67 (fun X2 => ?_)
  refine jr_aload_n hz d_MD_branch_68 rfl 0 rfl ?_
  refine jr_aload_n hz d_MD_branch_69 rfl 0 rfl ?_
  refine jr_geti (j := 8) hz lq_206 ly_206 rfl wf_MD_90 d_MD_branch_70 ?_
  refine jr_iconst (v := 1) hz d_MD_branch_73 (by decide) ?_
  refine jr_iadd hz d_MD_branch_74 ?_
  refine jr_puti hz lq_206 ly_206 rfl wp_MD_90 d_MD_branch_75 (fun X3 => ?_)
  refine jr_iconst (v := 0) hz d_MD_branch_78 (by decide) ?_
  exact jr_iret hz hr hlk d_MD_branch_79
def fx_MD_branch_b52 (s0 : Int32) (X : xh_T) : Option (Int32 × xh_T) :=
  xh_n s0 (fun v6 : Int32 =>
  xh_b (fx_MD_pop 1 X) (fun (_ : Unit) (X4 : xh_T) =>
  fx_MD_branch_b58 v6 X4))
set_option maxRecDepth 100000 in
set_option maxHeartbeats 4000000 in
theorem jb_MD_branch_b52 {p : Program} {l : Launch} {e : Env} {s : State} {m : MethodId} {args : Array Value} {below : List Frame} {meth : Method} {c : Code} {D : va_G} {G : xh_G} (hz : xh_C p s m args c b_MD_branch 4 "SpendScriptModel" D G (xh_A G s.heap.size)) (hr : meth.sig.returnType = (some .int)) (hlk : meth.locks = false) (s0 : Int32) (X : xh_T) : xh_J p l e rm_MD_branch s m args below meth c 0 0 D G (xh_A G s.heap.size) 4 (fun r X' => MQ below (xh_Qi D G (xh_A G s.heap.size) r X') args s 0 0 (xh_A G s.heap.size)) 52 [(0, .ref (G.1 206))] [.int s0] X (fx_MD_branch_b52 s0 X) := by
  unfold fx_MD_branch_b52
  refine jr_istore_n (lf := [(0, .ref (G.1 206))]) hz d_MD_branch_52 rfl (by decide) rfl (fun v6 => ?_)
  refine jr_aload_n hz d_MD_branch_53 rfl 1 rfl ?_
  refine jr_iconst (v := 1) hz d_MD_branch_54 (by decide) ?_
  refine jr_callVv (As := [.int 1]) (a := 206) (ci := 7) (st := []) hz (cx_MD_pop l D G hz.2.2.2.2.2.2.1 1 X) (fun _ _ => ⟨lq_206, _, ly_206⟩) wv_MD_138 ⟨rfl, rfl, Nat.le_of_ble_eq_true rfl, Nat.le_of_ble_eq_true rfl⟩ ⟨Nat.zero_le _, Nat.zero_le _⟩ rfl rfl (Nat.le_of_ble_eq_true rfl) d_MD_branch_55 (fun _ X4 => ?_)
  refine jr_sub (ls' := [(0, .ref (G.1 206)), (3, .int v6)]) [1, 0] rfl ?_
  exact jb_MD_branch_b58 hz hr hlk v6 X4
def fx_MD_branch_b44 (s0 : Int32) (s1 : Int32) (X : xh_T) : Option (Int32 × xh_T) :=
  if s1 = s0 then
  fx_MD_branch_b52 1 X
  else fx_MD_branch_b52 0 X
set_option maxRecDepth 100000 in
set_option maxHeartbeats 4000000 in
theorem jb_MD_branch_b44 {p : Program} {l : Launch} {e : Env} {s : State} {m : MethodId} {args : Array Value} {below : List Frame} {meth : Method} {c : Code} {D : va_G} {G : xh_G} (hz : xh_C p s m args c b_MD_branch 4 "SpendScriptModel" D G (xh_A G s.heap.size)) (hr : meth.sig.returnType = (some .int)) (hlk : meth.locks = false) (s0 : Int32) (s1 : Int32) (X : xh_T) : xh_J p l e rm_MD_branch s m args below meth c 0 0 D G (xh_A G s.heap.size) 4 (fun r X' => MQ below (xh_Qi D G (xh_A G s.heap.size) r X') args s 0 0 (xh_A G s.heap.size)) 44 [(0, .ref (G.1 206))] [.int s0, .int s1] X (fx_MD_branch_b44 s0 s1 X) := by
  unfold fx_MD_branch_b44
  refine jr_icmp_ne (tgt := 51) hz d_MD_branch_44 (by decide) ?_ ?_
  · refine jr_iconst (v := 0) hz d_MD_branch_51 (by decide) ?_
    refine jr_sub (ls' := [(0, .ref (G.1 206))]) [0] rfl ?_
    exact jb_MD_branch_b52 hz hr hlk 0 X
  · refine jr_iconst (v := 1) hz d_MD_branch_47 (by decide) ?_
    refine jr_goto (tgt := 52) hz d_MD_branch_48 (by decide) ?_
    refine jr_sub (ls' := [(0, .ref (G.1 206))]) [0] rfl ?_
    exact jb_MD_branch_b52 hz hr hlk 1 X
def fx_MD_branch (p1 : Int32) (p2 : Int32) (X : xh_T) : Option (Int32 × xh_T) :=
  if X.1 206 8 = 8 then
  some (8, X)
  else xh_n 0 (fun v1 : Int32 =>
  if p2 = 0 then
  fx_MD_branch_b58 v1 X
  else if X.1 206 5 = 0 then
  some (11, X)
  else xh_b (fx_MD_isTrue 0 X) (fun (r3 : Int32) (X1 : xh_T) =>
  if p1 = 99 then
  fx_MD_branch_b44 1 r3 X1
  else fx_MD_branch_b44 0 r3 X1))
set_option maxRecDepth 100000 in
set_option maxHeartbeats 4000000 in
theorem cx_MD_branch (l : Launch) (D : va_G) (G : xh_G) (hD : xh_D G) (p1 : Int32) (p2 : Int32) (X : xh_T) : xh_M xh_Qi l D G y_MD_branch b_MD_branch 4 (some .int) rm_MD_branch [.ref (G.1 206), .int p1, .int p2] X (fx_MD_branch p1 p2 X) := by
  refine xh_enter (ls := [(0, .ref (G.1 206)), (1, .int p1), (2, .int p2)]) hD (by decide +kernel) (Nat.le_of_ble_eq_true rfl) rfl ?_
  intro p e s m args below meth c hz hr hlk
  unfold fx_MD_branch
  refine jr_aload_n hz d_MD_branch_0 rfl 0 rfl ?_
  refine jr_geti (j := 8) hz lq_206 ly_206 rfl wf_MD_90 d_MD_branch_1 ?_
  refine jr_bipush (v := 8) hz d_MD_branch_4 (by decide) ?_
  refine jr_icmp_ne (tgt := 12) hz d_MD_branch_6 (by decide) ?_ ?_
  · refine jr_iconst (v := 0) hz d_MD_branch_12 (by decide) ?_
    refine jr_istore_n (lf := [(0, .ref (G.1 206)), (1, .int p1), (2, .int p2)]) hz d_MD_branch_13 rfl (by decide) rfl (fun v1 => ?_)
    refine jr_iload_n hz d_MD_branch_14 rfl 3 rfl ?_
    refine jr_if_eq (tgt := 58) hz d_MD_branch_15 (by decide) ?_ ?_
    · refine jr_sub (ls' := [(0, .ref (G.1 206)), (3, .int v1)]) [1, 0] rfl ?_
      exact jb_MD_branch_b58 hz hr hlk v1 X
    · refine jr_aload_n hz d_MD_branch_18 rfl 1 rfl ?_
      refine jr_geti (j := 5) hz lq_206 ly_206 rfl wf_MD_56 d_MD_branch_19 ?_
      refine jr_if_ne (tgt := 28) hz d_MD_branch_22 (by decide) ?_ ?_
      · refine jr_aload_n hz d_MD_branch_28 rfl 1 rfl ?_
        refine jr_iconst (v := 0) hz d_MD_branch_29 (by decide) ?_
        refine jr_callVi (As := [.int 0]) (a := 206) (ci := 7) (st := []) hz (cx_MD_isTrue l D G hz.2.2.2.2.2.2.1 0 X) (fun _ _ => ⟨lq_206, _, ly_206⟩) wv_MD_135 ⟨rfl, rfl, Nat.le_of_ble_eq_true rfl, Nat.le_of_ble_eq_true rfl⟩ ⟨Nat.zero_le _, Nat.zero_le _⟩ rfl rfl (Nat.le_of_ble_eq_true rfl) d_MD_branch_30 (fun r3 X1 => ?_)
        refine jr_iload_n hz d_MD_branch_33 rfl 2 rfl ?_
        refine jr_bipush (v := 99) hz d_MD_branch_34 (by decide) ?_
        refine jr_icmp_ne (tgt := 43) hz d_MD_branch_36 (by decide) ?_ ?_
        · refine jr_iconst (v := 0) hz d_MD_branch_43 (by decide) ?_
          refine jr_sub (ls' := [(0, .ref (G.1 206))]) [1] rfl ?_
          exact jb_MD_branch_b44 hz hr hlk 0 r3 X1
        · refine jr_iconst (v := 1) hz d_MD_branch_39 (by decide) ?_
          refine jr_goto (tgt := 44) hz d_MD_branch_40 (by decide) ?_
          refine jr_sub (ls' := [(0, .ref (G.1 206))]) [1] rfl ?_
          exact jb_MD_branch_b44 hz hr hlk 1 r3 X1
      · refine jr_bipush (v := 11) hz d_MD_branch_25 (by decide) ?_
        exact jr_iret hz hr hlk d_MD_branch_27
  · refine jr_bipush (v := 8) hz d_MD_branch_9 (by decide) ?_
    exact jr_iret hz hr hlk d_MD_branch_11
theorem d_MD_value_0 : decode b_MD_value 0 = .ok (.iconst 0, 1) := by decide +kernel
theorem d_MD_value_1 : decode b_MD_value 1 = .ok (.istore 7, 2) := by decide +kernel
theorem d_MD_value_3 : decode b_MD_value 3 = .ok (.iload_n 0, 1) := by decide +kernel
theorem d_MD_value_4 : decode b_MD_value 4 = .ok (.tableswitch 348 139 164 #[120, 124, 348, 348, 128, 131, 144, 160, 176, 180, 348, 348, 348, 348, 348, 184, 206, 228, 348, 244, 260, 276, 292, 308, 324, 336], 120) := by decide +kernel
theorem d_MD_value_124 : decode b_MD_value 124 = .ok (.lload_n 1, 1) := by decide +kernel
theorem d_MD_value_125 : decode b_MD_value 125 = .ok (.lconst 1, 1) := by decide +kernel
theorem d_MD_value_126 : decode b_MD_value 126 = .ok (.ladd, 1) := by decide +kernel
theorem d_MD_value_127 : decode b_MD_value 127 = .ok (.lreturn, 1) := by decide +kernel
theorem d_MD_value_128 : decode b_MD_value 128 = .ok (.lload_n 1, 1) := by decide +kernel
theorem d_MD_value_129 : decode b_MD_value 129 = .ok (.lconst 1, 1) := by decide +kernel
theorem d_MD_value_130 : decode b_MD_value 130 = .ok (.lsub, 1) := by decide +kernel
theorem d_MD_value_131 : decode b_MD_value 131 = .ok (.lreturn, 1) := by decide +kernel
theorem d_MD_value_132 : decode b_MD_value 132 = .ok (.lload_n 1, 1) := by decide +kernel
theorem d_MD_value_133 : decode b_MD_value 133 = .ok (.lneg, 1) := by decide +kernel
theorem d_MD_value_134 : decode b_MD_value 134 = .ok (.lreturn, 1) := by decide +kernel
theorem d_MD_value_135 : decode b_MD_value 135 = .ok (.lload_n 1, 1) := by decide +kernel
theorem d_MD_value_136 : decode b_MD_value 136 = .ok (.lconst 0, 1) := by decide +kernel
theorem d_MD_value_137 : decode b_MD_value 137 = .ok (.lcmp, 1) := by decide +kernel
theorem d_MD_value_138 : decode b_MD_value 138 = .ok (.ifCond .ge 8, 3) := by decide +kernel
theorem d_MD_value_141 : decode b_MD_value 141 = .ok (.lload_n 1, 1) := by decide +kernel
theorem d_MD_value_142 : decode b_MD_value 142 = .ok (.lneg, 1) := by decide +kernel
theorem d_MD_value_143 : decode b_MD_value 143 = .ok (.goto 4, 3) := by decide +kernel
theorem d_MD_value_146 : decode b_MD_value 146 = .ok (.lload_n 1, 1) := by decide +kernel
theorem d_MD_value_147 : decode b_MD_value 147 = .ok (.lreturn, 1) := by decide +kernel
theorem d_MD_value_148 : decode b_MD_value 148 = .ok (.lload_n 1, 1) := by decide +kernel
theorem d_MD_value_149 : decode b_MD_value 149 = .ok (.lconst 0, 1) := by decide +kernel
theorem d_MD_value_150 : decode b_MD_value 150 = .ok (.lcmp, 1) := by decide +kernel
theorem d_MD_value_151 : decode b_MD_value 151 = .ok (.ifCond .ne 7, 3) := by decide +kernel
theorem d_MD_value_154 : decode b_MD_value 154 = .ok (.iconst 1, 1) := by decide +kernel
theorem d_MD_value_155 : decode b_MD_value 155 = .ok (.goto 4, 3) := by decide +kernel
theorem d_MD_value_158 : decode b_MD_value 158 = .ok (.iconst 0, 1) := by decide +kernel
theorem d_MD_value_159 : decode b_MD_value 159 = .ok (.istore 7, 2) := by decide +kernel
theorem d_MD_value_161 : decode b_MD_value 161 = .ok (.goto 212, 3) := by decide +kernel
theorem d_MD_value_164 : decode b_MD_value 164 = .ok (.lload_n 1, 1) := by decide +kernel
theorem d_MD_value_165 : decode b_MD_value 165 = .ok (.lconst 0, 1) := by decide +kernel
theorem d_MD_value_166 : decode b_MD_value 166 = .ok (.lcmp, 1) := by decide +kernel
theorem d_MD_value_167 : decode b_MD_value 167 = .ok (.ifCond .eq 7, 3) := by decide +kernel
theorem d_MD_value_170 : decode b_MD_value 170 = .ok (.iconst 1, 1) := by decide +kernel
theorem d_MD_value_171 : decode b_MD_value 171 = .ok (.goto 4, 3) := by decide +kernel
theorem d_MD_value_174 : decode b_MD_value 174 = .ok (.iconst 0, 1) := by decide +kernel
theorem d_MD_value_175 : decode b_MD_value 175 = .ok (.istore 7, 2) := by decide +kernel
theorem d_MD_value_177 : decode b_MD_value 177 = .ok (.goto 196, 3) := by decide +kernel
theorem d_MD_value_180 : decode b_MD_value 180 = .ok (.lload_n 3, 1) := by decide +kernel
theorem d_MD_value_181 : decode b_MD_value 181 = .ok (.lload_n 1, 1) := by decide +kernel
theorem d_MD_value_182 : decode b_MD_value 182 = .ok (.ladd, 1) := by decide +kernel
theorem d_MD_value_183 : decode b_MD_value 183 = .ok (.lreturn, 1) := by decide +kernel
theorem d_MD_value_184 : decode b_MD_value 184 = .ok (.lload_n 3, 1) := by decide +kernel
theorem d_MD_value_185 : decode b_MD_value 185 = .ok (.lload_n 1, 1) := by decide +kernel
theorem d_MD_value_186 : decode b_MD_value 186 = .ok (.lsub, 1) := by decide +kernel
theorem d_MD_value_187 : decode b_MD_value 187 = .ok (.lreturn, 1) := by decide +kernel
theorem d_MD_value_188 : decode b_MD_value 188 = .ok (.lload_n 1, 1) := by decide +kernel
theorem d_MD_value_189 : decode b_MD_value 189 = .ok (.lconst 0, 1) := by decide +kernel
theorem d_MD_value_190 : decode b_MD_value 190 = .ok (.lcmp, 1) := by decide +kernel
theorem d_MD_value_191 : decode b_MD_value 191 = .ok (.ifCond .eq 13, 3) := by decide +kernel
theorem d_MD_value_194 : decode b_MD_value 194 = .ok (.lload_n 3, 1) := by decide +kernel
theorem d_MD_value_195 : decode b_MD_value 195 = .ok (.lconst 0, 1) := by decide +kernel
theorem d_MD_value_196 : decode b_MD_value 196 = .ok (.lcmp, 1) := by decide +kernel
theorem d_MD_value_197 : decode b_MD_value 197 = .ok (.ifCond .eq 7, 3) := by decide +kernel
theorem d_MD_value_200 : decode b_MD_value 200 = .ok (.iconst 1, 1) := by decide +kernel
theorem d_MD_value_201 : decode b_MD_value 201 = .ok (.goto 4, 3) := by decide +kernel
theorem d_MD_value_204 : decode b_MD_value 204 = .ok (.iconst 0, 1) := by decide +kernel
theorem d_MD_value_205 : decode b_MD_value 205 = .ok (.istore 7, 2) := by decide +kernel
theorem d_MD_value_207 : decode b_MD_value 207 = .ok (.goto 166, 3) := by decide +kernel
theorem d_MD_value_210 : decode b_MD_value 210 = .ok (.lload_n 1, 1) := by decide +kernel
theorem d_MD_value_211 : decode b_MD_value 211 = .ok (.lconst 0, 1) := by decide +kernel
theorem d_MD_value_212 : decode b_MD_value 212 = .ok (.lcmp, 1) := by decide +kernel
theorem d_MD_value_213 : decode b_MD_value 213 = .ok (.ifCond .ne 9, 3) := by decide +kernel
theorem d_MD_value_216 : decode b_MD_value 216 = .ok (.lload_n 3, 1) := by decide +kernel
theorem d_MD_value_217 : decode b_MD_value 217 = .ok (.lconst 0, 1) := by decide +kernel
theorem d_MD_value_218 : decode b_MD_value 218 = .ok (.lcmp, 1) := by decide +kernel
theorem d_MD_value_219 : decode b_MD_value 219 = .ok (.ifCond .eq 7, 3) := by decide +kernel
theorem d_MD_value_222 : decode b_MD_value 222 = .ok (.iconst 1, 1) := by decide +kernel
theorem d_MD_value_223 : decode b_MD_value 223 = .ok (.goto 4, 3) := by decide +kernel
theorem d_MD_value_226 : decode b_MD_value 226 = .ok (.iconst 0, 1) := by decide +kernel
theorem d_MD_value_227 : decode b_MD_value 227 = .ok (.istore 7, 2) := by decide +kernel
theorem d_MD_value_229 : decode b_MD_value 229 = .ok (.goto 144, 3) := by decide +kernel
theorem d_MD_value_232 : decode b_MD_value 232 = .ok (.lload_n 3, 1) := by decide +kernel
theorem d_MD_value_233 : decode b_MD_value 233 = .ok (.lload_n 1, 1) := by decide +kernel
theorem d_MD_value_234 : decode b_MD_value 234 = .ok (.lcmp, 1) := by decide +kernel
theorem d_MD_value_235 : decode b_MD_value 235 = .ok (.ifCond .ne 7, 3) := by decide +kernel
theorem d_MD_value_238 : decode b_MD_value 238 = .ok (.iconst 1, 1) := by decide +kernel
theorem d_MD_value_239 : decode b_MD_value 239 = .ok (.goto 4, 3) := by decide +kernel
theorem d_MD_value_242 : decode b_MD_value 242 = .ok (.iconst 0, 1) := by decide +kernel
theorem d_MD_value_243 : decode b_MD_value 243 = .ok (.istore 7, 2) := by decide +kernel
theorem d_MD_value_245 : decode b_MD_value 245 = .ok (.goto 128, 3) := by decide +kernel
theorem d_MD_value_248 : decode b_MD_value 248 = .ok (.lload_n 3, 1) := by decide +kernel
theorem d_MD_value_249 : decode b_MD_value 249 = .ok (.lload_n 1, 1) := by decide +kernel
theorem d_MD_value_250 : decode b_MD_value 250 = .ok (.lcmp, 1) := by decide +kernel
theorem d_MD_value_251 : decode b_MD_value 251 = .ok (.ifCond .eq 7, 3) := by decide +kernel
theorem d_MD_value_254 : decode b_MD_value 254 = .ok (.iconst 1, 1) := by decide +kernel
theorem d_MD_value_255 : decode b_MD_value 255 = .ok (.goto 4, 3) := by decide +kernel
theorem d_MD_value_258 : decode b_MD_value 258 = .ok (.iconst 0, 1) := by decide +kernel
theorem d_MD_value_259 : decode b_MD_value 259 = .ok (.istore 7, 2) := by decide +kernel
theorem d_MD_value_261 : decode b_MD_value 261 = .ok (.goto 112, 3) := by decide +kernel
theorem d_MD_value_264 : decode b_MD_value 264 = .ok (.lload_n 3, 1) := by decide +kernel
theorem d_MD_value_265 : decode b_MD_value 265 = .ok (.lload_n 1, 1) := by decide +kernel
theorem d_MD_value_266 : decode b_MD_value 266 = .ok (.lcmp, 1) := by decide +kernel
theorem d_MD_value_267 : decode b_MD_value 267 = .ok (.ifCond .ge 7, 3) := by decide +kernel
theorem d_MD_value_270 : decode b_MD_value 270 = .ok (.iconst 1, 1) := by decide +kernel
theorem d_MD_value_271 : decode b_MD_value 271 = .ok (.goto 4, 3) := by decide +kernel
theorem d_MD_value_274 : decode b_MD_value 274 = .ok (.iconst 0, 1) := by decide +kernel
theorem d_MD_value_275 : decode b_MD_value 275 = .ok (.istore 7, 2) := by decide +kernel
theorem d_MD_value_277 : decode b_MD_value 277 = .ok (.goto 96, 3) := by decide +kernel
theorem d_MD_value_280 : decode b_MD_value 280 = .ok (.lload_n 3, 1) := by decide +kernel
theorem d_MD_value_281 : decode b_MD_value 281 = .ok (.lload_n 1, 1) := by decide +kernel
theorem d_MD_value_282 : decode b_MD_value 282 = .ok (.lcmp, 1) := by decide +kernel
theorem d_MD_value_283 : decode b_MD_value 283 = .ok (.ifCond .le 7, 3) := by decide +kernel
theorem d_MD_value_286 : decode b_MD_value 286 = .ok (.iconst 1, 1) := by decide +kernel
theorem d_MD_value_287 : decode b_MD_value 287 = .ok (.goto 4, 3) := by decide +kernel
theorem d_MD_value_290 : decode b_MD_value 290 = .ok (.iconst 0, 1) := by decide +kernel
theorem d_MD_value_291 : decode b_MD_value 291 = .ok (.istore 7, 2) := by decide +kernel
theorem d_MD_value_293 : decode b_MD_value 293 = .ok (.goto 80, 3) := by decide +kernel
theorem d_MD_value_296 : decode b_MD_value 296 = .ok (.lload_n 3, 1) := by decide +kernel
theorem d_MD_value_297 : decode b_MD_value 297 = .ok (.lload_n 1, 1) := by decide +kernel
theorem d_MD_value_298 : decode b_MD_value 298 = .ok (.lcmp, 1) := by decide +kernel
theorem d_MD_value_299 : decode b_MD_value 299 = .ok (.ifCond .gt 7, 3) := by decide +kernel
theorem d_MD_value_302 : decode b_MD_value 302 = .ok (.iconst 1, 1) := by decide +kernel
theorem d_MD_value_303 : decode b_MD_value 303 = .ok (.goto 4, 3) := by decide +kernel
theorem d_MD_value_306 : decode b_MD_value 306 = .ok (.iconst 0, 1) := by decide +kernel
theorem d_MD_value_307 : decode b_MD_value 307 = .ok (.istore 7, 2) := by decide +kernel
theorem d_MD_value_309 : decode b_MD_value 309 = .ok (.goto 64, 3) := by decide +kernel
theorem d_MD_value_312 : decode b_MD_value 312 = .ok (.lload_n 3, 1) := by decide +kernel
theorem d_MD_value_313 : decode b_MD_value 313 = .ok (.lload_n 1, 1) := by decide +kernel
theorem d_MD_value_314 : decode b_MD_value 314 = .ok (.lcmp, 1) := by decide +kernel
theorem d_MD_value_315 : decode b_MD_value 315 = .ok (.ifCond .lt 7, 3) := by decide +kernel
theorem d_MD_value_318 : decode b_MD_value 318 = .ok (.iconst 1, 1) := by decide +kernel
theorem d_MD_value_319 : decode b_MD_value 319 = .ok (.goto 4, 3) := by decide +kernel
theorem d_MD_value_322 : decode b_MD_value 322 = .ok (.iconst 0, 1) := by decide +kernel
theorem d_MD_value_323 : decode b_MD_value 323 = .ok (.istore 7, 2) := by decide +kernel
theorem d_MD_value_325 : decode b_MD_value 325 = .ok (.goto 48, 3) := by decide +kernel
theorem d_MD_value_328 : decode b_MD_value 328 = .ok (.lload_n 3, 1) := by decide +kernel
theorem d_MD_value_329 : decode b_MD_value 329 = .ok (.lload_n 1, 1) := by decide +kernel
theorem d_MD_value_330 : decode b_MD_value 330 = .ok (.lcmp, 1) := by decide +kernel
theorem d_MD_value_331 : decode b_MD_value 331 = .ok (.ifCond .ge 7, 3) := by decide +kernel
theorem d_MD_value_334 : decode b_MD_value 334 = .ok (.lload_n 3, 1) := by decide +kernel
theorem d_MD_value_335 : decode b_MD_value 335 = .ok (.goto 4, 3) := by decide +kernel
theorem d_MD_value_338 : decode b_MD_value 338 = .ok (.lload_n 1, 1) := by decide +kernel
theorem d_MD_value_339 : decode b_MD_value 339 = .ok (.lreturn, 1) := by decide +kernel
theorem d_MD_value_340 : decode b_MD_value 340 = .ok (.lload_n 3, 1) := by decide +kernel
theorem d_MD_value_341 : decode b_MD_value 341 = .ok (.lload_n 1, 1) := by decide +kernel
theorem d_MD_value_342 : decode b_MD_value 342 = .ok (.lcmp, 1) := by decide +kernel
theorem d_MD_value_343 : decode b_MD_value 343 = .ok (.ifCond .ge 7, 3) := by decide +kernel
theorem d_MD_value_346 : decode b_MD_value 346 = .ok (.lload_n 1, 1) := by decide +kernel
theorem d_MD_value_347 : decode b_MD_value 347 = .ok (.goto 4, 3) := by decide +kernel
theorem d_MD_value_350 : decode b_MD_value 350 = .ok (.lload_n 3, 1) := by decide +kernel
theorem d_MD_value_351 : decode b_MD_value 351 = .ok (.lreturn, 1) := by decide +kernel
theorem d_MD_value_352 : decode b_MD_value 352 = .ok (.lload_n 3, 1) := by decide +kernel
theorem d_MD_value_353 : decode b_MD_value 353 = .ok (.lload 5, 2) := by decide +kernel
theorem d_MD_value_355 : decode b_MD_value 355 = .ok (.lcmp, 1) := by decide +kernel
theorem d_MD_value_356 : decode b_MD_value 356 = .ok (.ifCond .gt 14, 3) := by decide +kernel
theorem d_MD_value_359 : decode b_MD_value 359 = .ok (.lload 5, 2) := by decide +kernel
theorem d_MD_value_361 : decode b_MD_value 361 = .ok (.lload_n 1, 1) := by decide +kernel
theorem d_MD_value_362 : decode b_MD_value 362 = .ok (.lcmp, 1) := by decide +kernel
theorem d_MD_value_363 : decode b_MD_value 363 = .ok (.ifCond .ge 7, 3) := by decide +kernel
theorem d_MD_value_366 : decode b_MD_value 366 = .ok (.iconst 1, 1) := by decide +kernel
theorem d_MD_value_367 : decode b_MD_value 367 = .ok (.goto 4, 3) := by decide +kernel
theorem d_MD_value_370 : decode b_MD_value 370 = .ok (.iconst 0, 1) := by decide +kernel
theorem d_MD_value_371 : decode b_MD_value 371 = .ok (.istore 7, 2) := by decide +kernel
theorem d_MD_value_373 : decode b_MD_value 373 = .ok (.iload 7, 2) := by decide +kernel
theorem d_MD_value_375 : decode b_MD_value 375 = .ok (.ifCond .eq 7, 3) := by decide +kernel
theorem d_MD_value_378 : decode b_MD_value 378 = .ok (.lconst 1, 1) := by decide +kernel
theorem d_MD_value_379 : decode b_MD_value 379 = .ok (.goto 4, 3) := by decide +kernel
theorem d_MD_value_382 : decode b_MD_value 382 = .ok (.lconst 0, 1) := by decide +kernel
theorem d_MD_value_383 : decode b_MD_value 383 = .ok (.lreturn, 1) := by decide +kernel
abbrev rm_MD_value : Room := { frames := 0, cells := 0, slots := 0, locals := 0 }
def fx_MD_value_b373 (a7 : Int32) (X : xh_T) : Option (Int64 × xh_T) :=
  if a7 = 0 then
  some (0, X)
  else some (1, X)
set_option maxRecDepth 100000 in
set_option maxHeartbeats 4000000 in
theorem jb_MD_value_b373 {p : Program} {l : Launch} {e : Env} {s : State} {m : MethodId} {args : Array Value} {below : List Frame} {meth : Method} {c : Code} {D : va_G} {G : xh_G} (hz : xh_C p s m args c b_MD_value 8 "SpendScriptModel" D G (xh_A G s.heap.size)) (hr : meth.sig.returnType = (some .long)) (hlk : meth.locks = false) (a7 : Int32) (X : xh_T) : xh_J p l e rm_MD_value s m args below meth c 0 0 D G (xh_A G s.heap.size) 8 (fun r X' => MQ below (xh_Ql D G (xh_A G s.heap.size) r X') args s 0 0 (xh_A G s.heap.size)) 373 [(7, .int a7)] [] X (fx_MD_value_b373 a7 X) := by
  unfold fx_MD_value_b373
  refine jr_iload hz d_MD_value_373 0 rfl ?_
  refine jr_if_eq (tgt := 382) hz d_MD_value_375 (by decide) ?_ ?_
  · refine jr_lconst (v := 0) hz d_MD_value_382 (by decide) ?_
    exact jr_lret hz hr hlk d_MD_value_383
  · refine jr_lconst (v := 1) hz d_MD_value_378 (by decide) ?_
    refine jr_goto (tgt := 383) hz d_MD_value_379 (by decide) ?_
    exact jr_lret hz hr hlk d_MD_value_383
def fx_MD_value_b371 (s0 : Int32) (X : xh_T) : Option (Int64 × xh_T) :=
  xh_n s0 (fun v2 : Int32 =>
  fx_MD_value_b373 v2 X)
set_option maxRecDepth 100000 in
set_option maxHeartbeats 4000000 in
theorem jb_MD_value_b371 {p : Program} {l : Launch} {e : Env} {s : State} {m : MethodId} {args : Array Value} {below : List Frame} {meth : Method} {c : Code} {D : va_G} {G : xh_G} (hz : xh_C p s m args c b_MD_value 8 "SpendScriptModel" D G (xh_A G s.heap.size)) (hr : meth.sig.returnType = (some .long)) (hlk : meth.locks = false) (s0 : Int32) (X : xh_T) : xh_J p l e rm_MD_value s m args below meth c 0 0 D G (xh_A G s.heap.size) 8 (fun r X' => MQ below (xh_Ql D G (xh_A G s.heap.size) r X') args s 0 0 (xh_A G s.heap.size)) 371 [] [.int s0] X (fx_MD_value_b371 s0 X) := by
  unfold fx_MD_value_b371
  refine jr_istore (lf := []) hz d_MD_value_371 (by decide) rfl (fun v2 => ?_)
  refine jr_sub (ls' := [(7, .int v2)]) [0] rfl ?_
  exact jb_MD_value_b373 hz hr hlk v2 X
def fx_MD_value_b159 (s0 : Int32) (X : xh_T) : Option (Int64 × xh_T) :=
  xh_n s0 (fun v3 : Int32 =>
  fx_MD_value_b373 v3 X)
set_option maxRecDepth 100000 in
set_option maxHeartbeats 4000000 in
theorem jb_MD_value_b159 {p : Program} {l : Launch} {e : Env} {s : State} {m : MethodId} {args : Array Value} {below : List Frame} {meth : Method} {c : Code} {D : va_G} {G : xh_G} (hz : xh_C p s m args c b_MD_value 8 "SpendScriptModel" D G (xh_A G s.heap.size)) (hr : meth.sig.returnType = (some .long)) (hlk : meth.locks = false) (s0 : Int32) (X : xh_T) : xh_J p l e rm_MD_value s m args below meth c 0 0 D G (xh_A G s.heap.size) 8 (fun r X' => MQ below (xh_Ql D G (xh_A G s.heap.size) r X') args s 0 0 (xh_A G s.heap.size)) 159 [] [.int s0] X (fx_MD_value_b159 s0 X) := by
  unfold fx_MD_value_b159
  refine jr_istore (lf := []) hz d_MD_value_159 (by decide) rfl (fun v3 => ?_)
  refine jr_goto (tgt := 373) hz d_MD_value_161 (by decide) ?_
  refine jr_sub (ls' := [(7, .int v3)]) [0] rfl ?_
  exact jb_MD_value_b373 hz hr hlk v3 X
def fx_MD_value_b175 (s0 : Int32) (X : xh_T) : Option (Int64 × xh_T) :=
  xh_n s0 (fun v4 : Int32 =>
  fx_MD_value_b373 v4 X)
set_option maxRecDepth 100000 in
set_option maxHeartbeats 4000000 in
theorem jb_MD_value_b175 {p : Program} {l : Launch} {e : Env} {s : State} {m : MethodId} {args : Array Value} {below : List Frame} {meth : Method} {c : Code} {D : va_G} {G : xh_G} (hz : xh_C p s m args c b_MD_value 8 "SpendScriptModel" D G (xh_A G s.heap.size)) (hr : meth.sig.returnType = (some .long)) (hlk : meth.locks = false) (s0 : Int32) (X : xh_T) : xh_J p l e rm_MD_value s m args below meth c 0 0 D G (xh_A G s.heap.size) 8 (fun r X' => MQ below (xh_Ql D G (xh_A G s.heap.size) r X') args s 0 0 (xh_A G s.heap.size)) 175 [] [.int s0] X (fx_MD_value_b175 s0 X) := by
  unfold fx_MD_value_b175
  refine jr_istore (lf := []) hz d_MD_value_175 (by decide) rfl (fun v4 => ?_)
  refine jr_goto (tgt := 373) hz d_MD_value_177 (by decide) ?_
  refine jr_sub (ls' := [(7, .int v4)]) [0] rfl ?_
  exact jb_MD_value_b373 hz hr hlk v4 X
def fx_MD_value_b205 (s0 : Int32) (X : xh_T) : Option (Int64 × xh_T) :=
  xh_n s0 (fun v5 : Int32 =>
  fx_MD_value_b373 v5 X)
set_option maxRecDepth 100000 in
set_option maxHeartbeats 4000000 in
theorem jb_MD_value_b205 {p : Program} {l : Launch} {e : Env} {s : State} {m : MethodId} {args : Array Value} {below : List Frame} {meth : Method} {c : Code} {D : va_G} {G : xh_G} (hz : xh_C p s m args c b_MD_value 8 "SpendScriptModel" D G (xh_A G s.heap.size)) (hr : meth.sig.returnType = (some .long)) (hlk : meth.locks = false) (s0 : Int32) (X : xh_T) : xh_J p l e rm_MD_value s m args below meth c 0 0 D G (xh_A G s.heap.size) 8 (fun r X' => MQ below (xh_Ql D G (xh_A G s.heap.size) r X') args s 0 0 (xh_A G s.heap.size)) 205 [] [.int s0] X (fx_MD_value_b205 s0 X) := by
  unfold fx_MD_value_b205
  refine jr_istore (lf := []) hz d_MD_value_205 (by decide) rfl (fun v5 => ?_)
  refine jr_goto (tgt := 373) hz d_MD_value_207 (by decide) ?_
  refine jr_sub (ls' := [(7, .int v5)]) [0] rfl ?_
  exact jb_MD_value_b373 hz hr hlk v5 X
def fx_MD_value_b227 (s0 : Int32) (X : xh_T) : Option (Int64 × xh_T) :=
  xh_n s0 (fun v6 : Int32 =>
  fx_MD_value_b373 v6 X)
set_option maxRecDepth 100000 in
set_option maxHeartbeats 4000000 in
theorem jb_MD_value_b227 {p : Program} {l : Launch} {e : Env} {s : State} {m : MethodId} {args : Array Value} {below : List Frame} {meth : Method} {c : Code} {D : va_G} {G : xh_G} (hz : xh_C p s m args c b_MD_value 8 "SpendScriptModel" D G (xh_A G s.heap.size)) (hr : meth.sig.returnType = (some .long)) (hlk : meth.locks = false) (s0 : Int32) (X : xh_T) : xh_J p l e rm_MD_value s m args below meth c 0 0 D G (xh_A G s.heap.size) 8 (fun r X' => MQ below (xh_Ql D G (xh_A G s.heap.size) r X') args s 0 0 (xh_A G s.heap.size)) 227 [] [.int s0] X (fx_MD_value_b227 s0 X) := by
  unfold fx_MD_value_b227
  refine jr_istore (lf := []) hz d_MD_value_227 (by decide) rfl (fun v6 => ?_)
  refine jr_goto (tgt := 373) hz d_MD_value_229 (by decide) ?_
  refine jr_sub (ls' := [(7, .int v6)]) [0] rfl ?_
  exact jb_MD_value_b373 hz hr hlk v6 X
def fx_MD_value_b243 (s0 : Int32) (X : xh_T) : Option (Int64 × xh_T) :=
  xh_n s0 (fun v7 : Int32 =>
  fx_MD_value_b373 v7 X)
set_option maxRecDepth 100000 in
set_option maxHeartbeats 4000000 in
theorem jb_MD_value_b243 {p : Program} {l : Launch} {e : Env} {s : State} {m : MethodId} {args : Array Value} {below : List Frame} {meth : Method} {c : Code} {D : va_G} {G : xh_G} (hz : xh_C p s m args c b_MD_value 8 "SpendScriptModel" D G (xh_A G s.heap.size)) (hr : meth.sig.returnType = (some .long)) (hlk : meth.locks = false) (s0 : Int32) (X : xh_T) : xh_J p l e rm_MD_value s m args below meth c 0 0 D G (xh_A G s.heap.size) 8 (fun r X' => MQ below (xh_Ql D G (xh_A G s.heap.size) r X') args s 0 0 (xh_A G s.heap.size)) 243 [] [.int s0] X (fx_MD_value_b243 s0 X) := by
  unfold fx_MD_value_b243
  refine jr_istore (lf := []) hz d_MD_value_243 (by decide) rfl (fun v7 => ?_)
  refine jr_goto (tgt := 373) hz d_MD_value_245 (by decide) ?_
  refine jr_sub (ls' := [(7, .int v7)]) [0] rfl ?_
  exact jb_MD_value_b373 hz hr hlk v7 X
def fx_MD_value_b259 (s0 : Int32) (X : xh_T) : Option (Int64 × xh_T) :=
  xh_n s0 (fun v8 : Int32 =>
  fx_MD_value_b373 v8 X)
set_option maxRecDepth 100000 in
set_option maxHeartbeats 4000000 in
theorem jb_MD_value_b259 {p : Program} {l : Launch} {e : Env} {s : State} {m : MethodId} {args : Array Value} {below : List Frame} {meth : Method} {c : Code} {D : va_G} {G : xh_G} (hz : xh_C p s m args c b_MD_value 8 "SpendScriptModel" D G (xh_A G s.heap.size)) (hr : meth.sig.returnType = (some .long)) (hlk : meth.locks = false) (s0 : Int32) (X : xh_T) : xh_J p l e rm_MD_value s m args below meth c 0 0 D G (xh_A G s.heap.size) 8 (fun r X' => MQ below (xh_Ql D G (xh_A G s.heap.size) r X') args s 0 0 (xh_A G s.heap.size)) 259 [] [.int s0] X (fx_MD_value_b259 s0 X) := by
  unfold fx_MD_value_b259
  refine jr_istore (lf := []) hz d_MD_value_259 (by decide) rfl (fun v8 => ?_)
  refine jr_goto (tgt := 373) hz d_MD_value_261 (by decide) ?_
  refine jr_sub (ls' := [(7, .int v8)]) [0] rfl ?_
  exact jb_MD_value_b373 hz hr hlk v8 X
def fx_MD_value_b275 (s0 : Int32) (X : xh_T) : Option (Int64 × xh_T) :=
  xh_n s0 (fun v9 : Int32 =>
  fx_MD_value_b373 v9 X)
set_option maxRecDepth 100000 in
set_option maxHeartbeats 4000000 in
theorem jb_MD_value_b275 {p : Program} {l : Launch} {e : Env} {s : State} {m : MethodId} {args : Array Value} {below : List Frame} {meth : Method} {c : Code} {D : va_G} {G : xh_G} (hz : xh_C p s m args c b_MD_value 8 "SpendScriptModel" D G (xh_A G s.heap.size)) (hr : meth.sig.returnType = (some .long)) (hlk : meth.locks = false) (s0 : Int32) (X : xh_T) : xh_J p l e rm_MD_value s m args below meth c 0 0 D G (xh_A G s.heap.size) 8 (fun r X' => MQ below (xh_Ql D G (xh_A G s.heap.size) r X') args s 0 0 (xh_A G s.heap.size)) 275 [] [.int s0] X (fx_MD_value_b275 s0 X) := by
  unfold fx_MD_value_b275
  refine jr_istore (lf := []) hz d_MD_value_275 (by decide) rfl (fun v9 => ?_)
  refine jr_goto (tgt := 373) hz d_MD_value_277 (by decide) ?_
  refine jr_sub (ls' := [(7, .int v9)]) [0] rfl ?_
  exact jb_MD_value_b373 hz hr hlk v9 X
def fx_MD_value_b291 (s0 : Int32) (X : xh_T) : Option (Int64 × xh_T) :=
  xh_n s0 (fun v10 : Int32 =>
  fx_MD_value_b373 v10 X)
set_option maxRecDepth 100000 in
set_option maxHeartbeats 4000000 in
theorem jb_MD_value_b291 {p : Program} {l : Launch} {e : Env} {s : State} {m : MethodId} {args : Array Value} {below : List Frame} {meth : Method} {c : Code} {D : va_G} {G : xh_G} (hz : xh_C p s m args c b_MD_value 8 "SpendScriptModel" D G (xh_A G s.heap.size)) (hr : meth.sig.returnType = (some .long)) (hlk : meth.locks = false) (s0 : Int32) (X : xh_T) : xh_J p l e rm_MD_value s m args below meth c 0 0 D G (xh_A G s.heap.size) 8 (fun r X' => MQ below (xh_Ql D G (xh_A G s.heap.size) r X') args s 0 0 (xh_A G s.heap.size)) 291 [] [.int s0] X (fx_MD_value_b291 s0 X) := by
  unfold fx_MD_value_b291
  refine jr_istore (lf := []) hz d_MD_value_291 (by decide) rfl (fun v10 => ?_)
  refine jr_goto (tgt := 373) hz d_MD_value_293 (by decide) ?_
  refine jr_sub (ls' := [(7, .int v10)]) [0] rfl ?_
  exact jb_MD_value_b373 hz hr hlk v10 X
def fx_MD_value_b307 (s0 : Int32) (X : xh_T) : Option (Int64 × xh_T) :=
  xh_n s0 (fun v11 : Int32 =>
  fx_MD_value_b373 v11 X)
set_option maxRecDepth 100000 in
set_option maxHeartbeats 4000000 in
theorem jb_MD_value_b307 {p : Program} {l : Launch} {e : Env} {s : State} {m : MethodId} {args : Array Value} {below : List Frame} {meth : Method} {c : Code} {D : va_G} {G : xh_G} (hz : xh_C p s m args c b_MD_value 8 "SpendScriptModel" D G (xh_A G s.heap.size)) (hr : meth.sig.returnType = (some .long)) (hlk : meth.locks = false) (s0 : Int32) (X : xh_T) : xh_J p l e rm_MD_value s m args below meth c 0 0 D G (xh_A G s.heap.size) 8 (fun r X' => MQ below (xh_Ql D G (xh_A G s.heap.size) r X') args s 0 0 (xh_A G s.heap.size)) 307 [] [.int s0] X (fx_MD_value_b307 s0 X) := by
  unfold fx_MD_value_b307
  refine jr_istore (lf := []) hz d_MD_value_307 (by decide) rfl (fun v11 => ?_)
  refine jr_goto (tgt := 373) hz d_MD_value_309 (by decide) ?_
  refine jr_sub (ls' := [(7, .int v11)]) [0] rfl ?_
  exact jb_MD_value_b373 hz hr hlk v11 X
def fx_MD_value_b323 (s0 : Int32) (X : xh_T) : Option (Int64 × xh_T) :=
  xh_n s0 (fun v12 : Int32 =>
  fx_MD_value_b373 v12 X)
set_option maxRecDepth 100000 in
set_option maxHeartbeats 4000000 in
theorem jb_MD_value_b323 {p : Program} {l : Launch} {e : Env} {s : State} {m : MethodId} {args : Array Value} {below : List Frame} {meth : Method} {c : Code} {D : va_G} {G : xh_G} (hz : xh_C p s m args c b_MD_value 8 "SpendScriptModel" D G (xh_A G s.heap.size)) (hr : meth.sig.returnType = (some .long)) (hlk : meth.locks = false) (s0 : Int32) (X : xh_T) : xh_J p l e rm_MD_value s m args below meth c 0 0 D G (xh_A G s.heap.size) 8 (fun r X' => MQ below (xh_Ql D G (xh_A G s.heap.size) r X') args s 0 0 (xh_A G s.heap.size)) 323 [] [.int s0] X (fx_MD_value_b323 s0 X) := by
  unfold fx_MD_value_b323
  refine jr_istore (lf := []) hz d_MD_value_323 (by decide) rfl (fun v12 => ?_)
  refine jr_goto (tgt := 373) hz d_MD_value_325 (by decide) ?_
  refine jr_sub (ls' := [(7, .int v12)]) [0] rfl ?_
  exact jb_MD_value_b373 hz hr hlk v12 X
def fx_MD_value_b370 (X : xh_T) : Option (Int64 × xh_T) :=
  fx_MD_value_b371 0 X
set_option maxRecDepth 100000 in
set_option maxHeartbeats 4000000 in
theorem jb_MD_value_b370 {p : Program} {l : Launch} {e : Env} {s : State} {m : MethodId} {args : Array Value} {below : List Frame} {meth : Method} {c : Code} {D : va_G} {G : xh_G} (hz : xh_C p s m args c b_MD_value 8 "SpendScriptModel" D G (xh_A G s.heap.size)) (hr : meth.sig.returnType = (some .long)) (hlk : meth.locks = false) (X : xh_T) : xh_J p l e rm_MD_value s m args below meth c 0 0 D G (xh_A G s.heap.size) 8 (fun r X' => MQ below (xh_Ql D G (xh_A G s.heap.size) r X') args s 0 0 (xh_A G s.heap.size)) 370 [] [] X (fx_MD_value_b370 X) := by
  unfold fx_MD_value_b370
  refine jr_iconst (v := 0) hz d_MD_value_370 (by decide) ?_
  refine jr_sub (ls' := []) [] rfl ?_
  exact jb_MD_value_b371 hz hr hlk 0 X
def fx_MD_value_b204 (X : xh_T) : Option (Int64 × xh_T) :=
  fx_MD_value_b205 0 X
set_option maxRecDepth 100000 in
set_option maxHeartbeats 4000000 in
theorem jb_MD_value_b204 {p : Program} {l : Launch} {e : Env} {s : State} {m : MethodId} {args : Array Value} {below : List Frame} {meth : Method} {c : Code} {D : va_G} {G : xh_G} (hz : xh_C p s m args c b_MD_value 8 "SpendScriptModel" D G (xh_A G s.heap.size)) (hr : meth.sig.returnType = (some .long)) (hlk : meth.locks = false) (X : xh_T) : xh_J p l e rm_MD_value s m args below meth c 0 0 D G (xh_A G s.heap.size) 8 (fun r X' => MQ below (xh_Ql D G (xh_A G s.heap.size) r X') args s 0 0 (xh_A G s.heap.size)) 204 [] [] X (fx_MD_value_b204 X) := by
  unfold fx_MD_value_b204
  refine jr_iconst (v := 0) hz d_MD_value_204 (by decide) ?_
  refine jr_sub (ls' := []) [] rfl ?_
  exact jb_MD_value_b205 hz hr hlk 0 X
def fx_MD_value_b222 (X : xh_T) : Option (Int64 × xh_T) :=
  fx_MD_value_b227 1 X
set_option maxRecDepth 100000 in
set_option maxHeartbeats 4000000 in
theorem jb_MD_value_b222 {p : Program} {l : Launch} {e : Env} {s : State} {m : MethodId} {args : Array Value} {below : List Frame} {meth : Method} {c : Code} {D : va_G} {G : xh_G} (hz : xh_C p s m args c b_MD_value 8 "SpendScriptModel" D G (xh_A G s.heap.size)) (hr : meth.sig.returnType = (some .long)) (hlk : meth.locks = false) (X : xh_T) : xh_J p l e rm_MD_value s m args below meth c 0 0 D G (xh_A G s.heap.size) 8 (fun r X' => MQ below (xh_Ql D G (xh_A G s.heap.size) r X') args s 0 0 (xh_A G s.heap.size)) 222 [] [] X (fx_MD_value_b222 X) := by
  unfold fx_MD_value_b222
  refine jr_iconst (v := 1) hz d_MD_value_222 (by decide) ?_
  refine jr_goto (tgt := 227) hz d_MD_value_223 (by decide) ?_
  refine jr_sub (ls' := []) [] rfl ?_
  exact jb_MD_value_b227 hz hr hlk 1 X
def fx_MD_value (p1 : Int32) (p2 : Int64) (p3 : Int64) (p4 : Int64) (X : xh_T) : Option (Int64 × xh_T) :=
  xh_n 0 (fun v1 : Int32 =>
  if p1 = 139 then
  some ((p2 + 1), X)
  else if p1 = 140 then
  some ((p2 - 1), X)
  else if p1 = 141 then
  if 0 < (lg_cmp p3 p4) then
  fx_MD_value_b370 X
  else if 0 ≤ (lg_cmp p4 p2) then
  fx_MD_value_b370 X
  else fx_MD_value_b371 1 X
  else if p1 = 142 then
  if 0 < (lg_cmp p3 p4) then
  fx_MD_value_b370 X
  else if 0 ≤ (lg_cmp p4 p2) then
  fx_MD_value_b370 X
  else fx_MD_value_b371 1 X
  else if p1 = 143 then
  some ((-p2), X)
  else if p1 = 144 then
  if 0 ≤ (lg_cmp p2 0) then
  some (p2, X)
  else some ((-p2), X)
  else if p1 = 145 then
  if (lg_cmp p2 0) = 0 then
  fx_MD_value_b159 1 X
  else fx_MD_value_b159 0 X
  else if p1 = 146 then
  if (lg_cmp p2 0) = 0 then
  fx_MD_value_b175 0 X
  else fx_MD_value_b175 1 X
  else if p1 = 147 then
  some ((p3 + p2), X)
  else if p1 = 148 then
  some ((p3 - p2), X)
  else if p1 = 149 then
  if 0 < (lg_cmp p3 p4) then
  fx_MD_value_b370 X
  else if 0 ≤ (lg_cmp p4 p2) then
  fx_MD_value_b370 X
  else fx_MD_value_b371 1 X
  else if p1 = 150 then
  if 0 < (lg_cmp p3 p4) then
  fx_MD_value_b370 X
  else if 0 ≤ (lg_cmp p4 p2) then
  fx_MD_value_b370 X
  else fx_MD_value_b371 1 X
  else if p1 = 151 then
  if 0 < (lg_cmp p3 p4) then
  fx_MD_value_b370 X
  else if 0 ≤ (lg_cmp p4 p2) then
  fx_MD_value_b370 X
  else fx_MD_value_b371 1 X
  else if p1 = 152 then
  if 0 < (lg_cmp p3 p4) then
  fx_MD_value_b370 X
  else if 0 ≤ (lg_cmp p4 p2) then
  fx_MD_value_b370 X
  else fx_MD_value_b371 1 X
  else if p1 = 153 then
  if 0 < (lg_cmp p3 p4) then
  fx_MD_value_b370 X
  else if 0 ≤ (lg_cmp p4 p2) then
  fx_MD_value_b370 X
  else fx_MD_value_b371 1 X
  else if p1 = 154 then
  if (lg_cmp p2 0) = 0 then
  fx_MD_value_b204 X
  else if (lg_cmp p3 0) = 0 then
  fx_MD_value_b204 X
  else fx_MD_value_b205 1 X
  else if p1 = 155 then
  if (lg_cmp p2 0) = 0 then
  if (lg_cmp p3 0) = 0 then
  fx_MD_value_b227 0 X
  else fx_MD_value_b222 X
  else fx_MD_value_b222 X
  else if p1 = 156 then
  if (lg_cmp p3 p2) = 0 then
  fx_MD_value_b243 1 X
  else fx_MD_value_b243 0 X
  else if p1 = 157 then
  if 0 < (lg_cmp p3 p4) then
  fx_MD_value_b370 X
  else if 0 ≤ (lg_cmp p4 p2) then
  fx_MD_value_b370 X
  else fx_MD_value_b371 1 X
  else if p1 = 158 then
  if (lg_cmp p3 p2) = 0 then
  fx_MD_value_b259 0 X
  else fx_MD_value_b259 1 X
  else if p1 = 159 then
  if 0 ≤ (lg_cmp p3 p2) then
  fx_MD_value_b275 0 X
  else fx_MD_value_b275 1 X
  else if p1 = 160 then
  if (lg_cmp p3 p2) ≤ 0 then
  fx_MD_value_b291 0 X
  else fx_MD_value_b291 1 X
  else if p1 = 161 then
  if 0 < (lg_cmp p3 p2) then
  fx_MD_value_b307 0 X
  else fx_MD_value_b307 1 X
  else if p1 = 162 then
  if (lg_cmp p3 p2) < 0 then
  fx_MD_value_b323 0 X
  else fx_MD_value_b323 1 X
  else if p1 = 163 then
  if 0 ≤ (lg_cmp p3 p2) then
  some (p2, X)
  else some (p3, X)
  else if p1 = 164 then
  if 0 ≤ (lg_cmp p3 p2) then
  some (p3, X)
  else some (p2, X)
  else if 0 < (lg_cmp p3 p4) then
  fx_MD_value_b370 X
  else if 0 ≤ (lg_cmp p4 p2) then
  fx_MD_value_b370 X
  else fx_MD_value_b371 1 X)
set_option maxRecDepth 100000 in
set_option maxHeartbeats 4000000 in
theorem cx_MD_value (l : Launch) (D : va_G) (G : xh_G) (hD : xh_D G) (p1 : Int32) (p2 : Int64) (p3 : Int64) (p4 : Int64) (X : xh_T) : xh_M xh_Ql l D G y_MD_value b_MD_value 8 (some .long) rm_MD_value [.int p1, .long p2, .long p3, .long p4] X (fx_MD_value p1 p2 p3 p4 X) := by
  refine xh_enter (ls := [(0, .int p1), (1, .long p2), (3, .long p3), (5, .long p4)]) hD (by decide +kernel) (Nat.le_of_ble_eq_true rfl) rfl ?_
  intro p e s m args below meth c hz hr hlk
  unfold fx_MD_value
  refine jr_iconst (v := 0) hz d_MD_value_0 (by decide) ?_
  refine jr_istore (lf := [(0, .int p1), (1, .long p2), (3, .long p3), (5, .long p4)]) hz d_MD_value_1 (by decide) rfl (fun v1 => ?_)
  refine jr_iload_n hz d_MD_value_3 rfl 1 rfl ?_
  refine jr_ite (fun hs0 => ?_) (fun hs0 => ?_)
  · refine jr_tableIn (off := 120) (tgt := 124) hz d_MD_value_4 (by rw [hs0]; decide) (by rw [hs0]; decide) (by rw [hs0]; first | done | decide | rfl) (by decide) ?_
    refine jr_lload_n hz d_MD_value_124 rfl 2 rfl ?_
    refine jr_lconst (v := 1) hz d_MD_value_125 (by decide) ?_
    refine jr_ladd hz d_MD_value_126 ?_
    exact jr_lret hz hr hlk d_MD_value_127
  refine jr_ite (fun hs1 => ?_) (fun hs1 => ?_)
  · refine jr_tableIn (off := 124) (tgt := 128) hz d_MD_value_4 (by rw [hs1]; decide) (by rw [hs1]; decide) (by rw [hs1]; first | done | decide | rfl) (by decide) ?_
    refine jr_lload_n hz d_MD_value_128 rfl 2 rfl ?_
    refine jr_lconst (v := 1) hz d_MD_value_129 (by decide) ?_
    refine jr_lsub hz d_MD_value_130 ?_
    exact jr_lret hz hr hlk d_MD_value_131
  refine jr_ite (fun hs2 => ?_) (fun hs2 => ?_)
  · refine jr_tableIn (off := 348) (tgt := 352) hz d_MD_value_4 (by rw [hs2]; decide) (by rw [hs2]; decide) (by rw [hs2]; first | done | decide | rfl) (by decide) ?_
    refine jr_lload_n hz d_MD_value_352 rfl 3 rfl ?_
    refine jr_lload hz d_MD_value_353 4 rfl ?_
    refine jr_lcmp hz d_MD_value_355 ?_
    refine jr_if_gt (tgt := 370) hz d_MD_value_356 (by decide) ?_ ?_
    · refine jr_sub (ls' := []) [] rfl ?_
      exact jb_MD_value_b370 hz hr hlk X
    · refine jr_lload hz d_MD_value_359 4 rfl ?_
      refine jr_lload_n hz d_MD_value_361 rfl 2 rfl ?_
      refine jr_lcmp hz d_MD_value_362 ?_
      refine jr_if_ge (tgt := 370) hz d_MD_value_363 (by decide) ?_ ?_
      · refine jr_sub (ls' := []) [] rfl ?_
        exact jb_MD_value_b370 hz hr hlk X
      · refine jr_iconst (v := 1) hz d_MD_value_366 (by decide) ?_
        refine jr_goto (tgt := 371) hz d_MD_value_367 (by decide) ?_
        refine jr_sub (ls' := []) [] rfl ?_
        exact jb_MD_value_b371 hz hr hlk 1 X
  refine jr_ite (fun hs3 => ?_) (fun hs3 => ?_)
  · refine jr_tableIn (off := 348) (tgt := 352) hz d_MD_value_4 (by rw [hs3]; decide) (by rw [hs3]; decide) (by rw [hs3]; first | done | decide | rfl) (by decide) ?_
    refine jr_lload_n hz d_MD_value_352 rfl 3 rfl ?_
    refine jr_lload hz d_MD_value_353 4 rfl ?_
    refine jr_lcmp hz d_MD_value_355 ?_
    refine jr_if_gt (tgt := 370) hz d_MD_value_356 (by decide) ?_ ?_
    · refine jr_sub (ls' := []) [] rfl ?_
      exact jb_MD_value_b370 hz hr hlk X
    · refine jr_lload hz d_MD_value_359 4 rfl ?_
      refine jr_lload_n hz d_MD_value_361 rfl 2 rfl ?_
      refine jr_lcmp hz d_MD_value_362 ?_
      refine jr_if_ge (tgt := 370) hz d_MD_value_363 (by decide) ?_ ?_
      · refine jr_sub (ls' := []) [] rfl ?_
        exact jb_MD_value_b370 hz hr hlk X
      · refine jr_iconst (v := 1) hz d_MD_value_366 (by decide) ?_
        refine jr_goto (tgt := 371) hz d_MD_value_367 (by decide) ?_
        refine jr_sub (ls' := []) [] rfl ?_
        exact jb_MD_value_b371 hz hr hlk 1 X
  refine jr_ite (fun hs4 => ?_) (fun hs4 => ?_)
  · refine jr_tableIn (off := 128) (tgt := 132) hz d_MD_value_4 (by rw [hs4]; decide) (by rw [hs4]; decide) (by rw [hs4]; first | done | decide | rfl) (by decide) ?_
    refine jr_lload_n hz d_MD_value_132 rfl 2 rfl ?_
    refine jr_lneg hz d_MD_value_133 ?_
    exact jr_lret hz hr hlk d_MD_value_134
  refine jr_ite (fun hs5 => ?_) (fun hs5 => ?_)
  · refine jr_tableIn (off := 131) (tgt := 135) hz d_MD_value_4 (by rw [hs5]; decide) (by rw [hs5]; decide) (by rw [hs5]; first | done | decide | rfl) (by decide) ?_
    refine jr_lload_n hz d_MD_value_135 rfl 2 rfl ?_
    refine jr_lconst (v := 0) hz d_MD_value_136 (by decide) ?_
    refine jr_lcmp hz d_MD_value_137 ?_
    refine jr_if_ge (tgt := 146) hz d_MD_value_138 (by decide) ?_ ?_
    · refine jr_lload_n hz d_MD_value_146 rfl 2 rfl ?_
      exact jr_lret hz hr hlk d_MD_value_147
    · refine jr_lload_n hz d_MD_value_141 rfl 2 rfl ?_
      refine jr_lneg hz d_MD_value_142 ?_
      refine jr_goto (tgt := 147) hz d_MD_value_143 (by decide) ?_
      exact jr_lret hz hr hlk d_MD_value_147
  refine jr_ite (fun hs6 => ?_) (fun hs6 => ?_)
  · refine jr_tableIn (off := 144) (tgt := 148) hz d_MD_value_4 (by rw [hs6]; decide) (by rw [hs6]; decide) (by rw [hs6]; first | done | decide | rfl) (by decide) ?_
    refine jr_lload_n hz d_MD_value_148 rfl 2 rfl ?_
    refine jr_lconst (v := 0) hz d_MD_value_149 (by decide) ?_
    refine jr_lcmp hz d_MD_value_150 ?_
    refine jr_if_ne (tgt := 158) hz d_MD_value_151 (by decide) ?_ ?_
    · refine jr_iconst (v := 0) hz d_MD_value_158 (by decide) ?_
      refine jr_sub (ls' := []) [] rfl ?_
      exact jb_MD_value_b159 hz hr hlk 0 X
    · refine jr_iconst (v := 1) hz d_MD_value_154 (by decide) ?_
      refine jr_goto (tgt := 159) hz d_MD_value_155 (by decide) ?_
      refine jr_sub (ls' := []) [] rfl ?_
      exact jb_MD_value_b159 hz hr hlk 1 X
  refine jr_ite (fun hs7 => ?_) (fun hs7 => ?_)
  · refine jr_tableIn (off := 160) (tgt := 164) hz d_MD_value_4 (by rw [hs7]; decide) (by rw [hs7]; decide) (by rw [hs7]; first | done | decide | rfl) (by decide) ?_
    refine jr_lload_n hz d_MD_value_164 rfl 2 rfl ?_
    refine jr_lconst (v := 0) hz d_MD_value_165 (by decide) ?_
    refine jr_lcmp hz d_MD_value_166 ?_
    refine jr_if_eq (tgt := 174) hz d_MD_value_167 (by decide) ?_ ?_
    · refine jr_iconst (v := 0) hz d_MD_value_174 (by decide) ?_
      refine jr_sub (ls' := []) [] rfl ?_
      exact jb_MD_value_b175 hz hr hlk 0 X
    · refine jr_iconst (v := 1) hz d_MD_value_170 (by decide) ?_
      refine jr_goto (tgt := 175) hz d_MD_value_171 (by decide) ?_
      refine jr_sub (ls' := []) [] rfl ?_
      exact jb_MD_value_b175 hz hr hlk 1 X
  refine jr_ite (fun hs8 => ?_) (fun hs8 => ?_)
  · refine jr_tableIn (off := 176) (tgt := 180) hz d_MD_value_4 (by rw [hs8]; decide) (by rw [hs8]; decide) (by rw [hs8]; first | done | decide | rfl) (by decide) ?_
    refine jr_lload_n hz d_MD_value_180 rfl 3 rfl ?_
    refine jr_lload_n hz d_MD_value_181 rfl 2 rfl ?_
    refine jr_ladd hz d_MD_value_182 ?_
    exact jr_lret hz hr hlk d_MD_value_183
  refine jr_ite (fun hs9 => ?_) (fun hs9 => ?_)
  · refine jr_tableIn (off := 180) (tgt := 184) hz d_MD_value_4 (by rw [hs9]; decide) (by rw [hs9]; decide) (by rw [hs9]; first | done | decide | rfl) (by decide) ?_
    refine jr_lload_n hz d_MD_value_184 rfl 3 rfl ?_
    refine jr_lload_n hz d_MD_value_185 rfl 2 rfl ?_
    refine jr_lsub hz d_MD_value_186 ?_
    exact jr_lret hz hr hlk d_MD_value_187
  refine jr_ite (fun hs10 => ?_) (fun hs10 => ?_)
  · refine jr_tableIn (off := 348) (tgt := 352) hz d_MD_value_4 (by rw [hs10]; decide) (by rw [hs10]; decide) (by rw [hs10]; first | done | decide | rfl) (by decide) ?_
    refine jr_lload_n hz d_MD_value_352 rfl 3 rfl ?_
    refine jr_lload hz d_MD_value_353 4 rfl ?_
    refine jr_lcmp hz d_MD_value_355 ?_
    refine jr_if_gt (tgt := 370) hz d_MD_value_356 (by decide) ?_ ?_
    · refine jr_sub (ls' := []) [] rfl ?_
      exact jb_MD_value_b370 hz hr hlk X
    · refine jr_lload hz d_MD_value_359 4 rfl ?_
      refine jr_lload_n hz d_MD_value_361 rfl 2 rfl ?_
      refine jr_lcmp hz d_MD_value_362 ?_
      refine jr_if_ge (tgt := 370) hz d_MD_value_363 (by decide) ?_ ?_
      · refine jr_sub (ls' := []) [] rfl ?_
        exact jb_MD_value_b370 hz hr hlk X
      · refine jr_iconst (v := 1) hz d_MD_value_366 (by decide) ?_
        refine jr_goto (tgt := 371) hz d_MD_value_367 (by decide) ?_
        refine jr_sub (ls' := []) [] rfl ?_
        exact jb_MD_value_b371 hz hr hlk 1 X
  refine jr_ite (fun hs11 => ?_) (fun hs11 => ?_)
  · refine jr_tableIn (off := 348) (tgt := 352) hz d_MD_value_4 (by rw [hs11]; decide) (by rw [hs11]; decide) (by rw [hs11]; first | done | decide | rfl) (by decide) ?_
    refine jr_lload_n hz d_MD_value_352 rfl 3 rfl ?_
    refine jr_lload hz d_MD_value_353 4 rfl ?_
    refine jr_lcmp hz d_MD_value_355 ?_
    refine jr_if_gt (tgt := 370) hz d_MD_value_356 (by decide) ?_ ?_
    · refine jr_sub (ls' := []) [] rfl ?_
      exact jb_MD_value_b370 hz hr hlk X
    · refine jr_lload hz d_MD_value_359 4 rfl ?_
      refine jr_lload_n hz d_MD_value_361 rfl 2 rfl ?_
      refine jr_lcmp hz d_MD_value_362 ?_
      refine jr_if_ge (tgt := 370) hz d_MD_value_363 (by decide) ?_ ?_
      · refine jr_sub (ls' := []) [] rfl ?_
        exact jb_MD_value_b370 hz hr hlk X
      · refine jr_iconst (v := 1) hz d_MD_value_366 (by decide) ?_
        refine jr_goto (tgt := 371) hz d_MD_value_367 (by decide) ?_
        refine jr_sub (ls' := []) [] rfl ?_
        exact jb_MD_value_b371 hz hr hlk 1 X
  refine jr_ite (fun hs12 => ?_) (fun hs12 => ?_)
  · refine jr_tableIn (off := 348) (tgt := 352) hz d_MD_value_4 (by rw [hs12]; decide) (by rw [hs12]; decide) (by rw [hs12]; first | done | decide | rfl) (by decide) ?_
    refine jr_lload_n hz d_MD_value_352 rfl 3 rfl ?_
    refine jr_lload hz d_MD_value_353 4 rfl ?_
    refine jr_lcmp hz d_MD_value_355 ?_
    refine jr_if_gt (tgt := 370) hz d_MD_value_356 (by decide) ?_ ?_
    · refine jr_sub (ls' := []) [] rfl ?_
      exact jb_MD_value_b370 hz hr hlk X
    · refine jr_lload hz d_MD_value_359 4 rfl ?_
      refine jr_lload_n hz d_MD_value_361 rfl 2 rfl ?_
      refine jr_lcmp hz d_MD_value_362 ?_
      refine jr_if_ge (tgt := 370) hz d_MD_value_363 (by decide) ?_ ?_
      · refine jr_sub (ls' := []) [] rfl ?_
        exact jb_MD_value_b370 hz hr hlk X
      · refine jr_iconst (v := 1) hz d_MD_value_366 (by decide) ?_
        refine jr_goto (tgt := 371) hz d_MD_value_367 (by decide) ?_
        refine jr_sub (ls' := []) [] rfl ?_
        exact jb_MD_value_b371 hz hr hlk 1 X
  refine jr_ite (fun hs13 => ?_) (fun hs13 => ?_)
  · refine jr_tableIn (off := 348) (tgt := 352) hz d_MD_value_4 (by rw [hs13]; decide) (by rw [hs13]; decide) (by rw [hs13]; first | done | decide | rfl) (by decide) ?_
    refine jr_lload_n hz d_MD_value_352 rfl 3 rfl ?_
    refine jr_lload hz d_MD_value_353 4 rfl ?_
    refine jr_lcmp hz d_MD_value_355 ?_
    refine jr_if_gt (tgt := 370) hz d_MD_value_356 (by decide) ?_ ?_
    · refine jr_sub (ls' := []) [] rfl ?_
      exact jb_MD_value_b370 hz hr hlk X
    · refine jr_lload hz d_MD_value_359 4 rfl ?_
      refine jr_lload_n hz d_MD_value_361 rfl 2 rfl ?_
      refine jr_lcmp hz d_MD_value_362 ?_
      refine jr_if_ge (tgt := 370) hz d_MD_value_363 (by decide) ?_ ?_
      · refine jr_sub (ls' := []) [] rfl ?_
        exact jb_MD_value_b370 hz hr hlk X
      · refine jr_iconst (v := 1) hz d_MD_value_366 (by decide) ?_
        refine jr_goto (tgt := 371) hz d_MD_value_367 (by decide) ?_
        refine jr_sub (ls' := []) [] rfl ?_
        exact jb_MD_value_b371 hz hr hlk 1 X
  refine jr_ite (fun hs14 => ?_) (fun hs14 => ?_)
  · refine jr_tableIn (off := 348) (tgt := 352) hz d_MD_value_4 (by rw [hs14]; decide) (by rw [hs14]; decide) (by rw [hs14]; first | done | decide | rfl) (by decide) ?_
    refine jr_lload_n hz d_MD_value_352 rfl 3 rfl ?_
    refine jr_lload hz d_MD_value_353 4 rfl ?_
    refine jr_lcmp hz d_MD_value_355 ?_
    refine jr_if_gt (tgt := 370) hz d_MD_value_356 (by decide) ?_ ?_
    · refine jr_sub (ls' := []) [] rfl ?_
      exact jb_MD_value_b370 hz hr hlk X
    · refine jr_lload hz d_MD_value_359 4 rfl ?_
      refine jr_lload_n hz d_MD_value_361 rfl 2 rfl ?_
      refine jr_lcmp hz d_MD_value_362 ?_
      refine jr_if_ge (tgt := 370) hz d_MD_value_363 (by decide) ?_ ?_
      · refine jr_sub (ls' := []) [] rfl ?_
        exact jb_MD_value_b370 hz hr hlk X
      · refine jr_iconst (v := 1) hz d_MD_value_366 (by decide) ?_
        refine jr_goto (tgt := 371) hz d_MD_value_367 (by decide) ?_
        refine jr_sub (ls' := []) [] rfl ?_
        exact jb_MD_value_b371 hz hr hlk 1 X
  refine jr_ite (fun hs15 => ?_) (fun hs15 => ?_)
  · refine jr_tableIn (off := 184) (tgt := 188) hz d_MD_value_4 (by rw [hs15]; decide) (by rw [hs15]; decide) (by rw [hs15]; first | done | decide | rfl) (by decide) ?_
    refine jr_lload_n hz d_MD_value_188 rfl 2 rfl ?_
    refine jr_lconst (v := 0) hz d_MD_value_189 (by decide) ?_
    refine jr_lcmp hz d_MD_value_190 ?_
    refine jr_if_eq (tgt := 204) hz d_MD_value_191 (by decide) ?_ ?_
    · refine jr_sub (ls' := []) [] rfl ?_
      exact jb_MD_value_b204 hz hr hlk X
    · refine jr_lload_n hz d_MD_value_194 rfl 3 rfl ?_
      refine jr_lconst (v := 0) hz d_MD_value_195 (by decide) ?_
      refine jr_lcmp hz d_MD_value_196 ?_
      refine jr_if_eq (tgt := 204) hz d_MD_value_197 (by decide) ?_ ?_
      · refine jr_sub (ls' := []) [] rfl ?_
        exact jb_MD_value_b204 hz hr hlk X
      · refine jr_iconst (v := 1) hz d_MD_value_200 (by decide) ?_
        refine jr_goto (tgt := 205) hz d_MD_value_201 (by decide) ?_
        refine jr_sub (ls' := []) [] rfl ?_
        exact jb_MD_value_b205 hz hr hlk 1 X
  refine jr_ite (fun hs16 => ?_) (fun hs16 => ?_)
  · refine jr_tableIn (off := 206) (tgt := 210) hz d_MD_value_4 (by rw [hs16]; decide) (by rw [hs16]; decide) (by rw [hs16]; first | done | decide | rfl) (by decide) ?_
    refine jr_lload_n hz d_MD_value_210 rfl 2 rfl ?_
    refine jr_lconst (v := 0) hz d_MD_value_211 (by decide) ?_
    refine jr_lcmp hz d_MD_value_212 ?_
    refine jr_if_ne (tgt := 222) hz d_MD_value_213 (by decide) ?_ ?_
    · refine jr_sub (ls' := []) [] rfl ?_
      exact jb_MD_value_b222 hz hr hlk X
    · refine jr_lload_n hz d_MD_value_216 rfl 3 rfl ?_
      refine jr_lconst (v := 0) hz d_MD_value_217 (by decide) ?_
      refine jr_lcmp hz d_MD_value_218 ?_
      refine jr_if_eq (tgt := 226) hz d_MD_value_219 (by decide) ?_ ?_
      · refine jr_iconst (v := 0) hz d_MD_value_226 (by decide) ?_
        refine jr_sub (ls' := []) [] rfl ?_
        exact jb_MD_value_b227 hz hr hlk 0 X
      · refine jr_sub (ls' := []) [] rfl ?_
        exact jb_MD_value_b222 hz hr hlk X
  refine jr_ite (fun hs17 => ?_) (fun hs17 => ?_)
  · refine jr_tableIn (off := 228) (tgt := 232) hz d_MD_value_4 (by rw [hs17]; decide) (by rw [hs17]; decide) (by rw [hs17]; first | done | decide | rfl) (by decide) ?_
    refine jr_lload_n hz d_MD_value_232 rfl 3 rfl ?_
    refine jr_lload_n hz d_MD_value_233 rfl 2 rfl ?_
    refine jr_lcmp hz d_MD_value_234 ?_
    refine jr_if_ne (tgt := 242) hz d_MD_value_235 (by decide) ?_ ?_
    · refine jr_iconst (v := 0) hz d_MD_value_242 (by decide) ?_
      refine jr_sub (ls' := []) [] rfl ?_
      exact jb_MD_value_b243 hz hr hlk 0 X
    · refine jr_iconst (v := 1) hz d_MD_value_238 (by decide) ?_
      refine jr_goto (tgt := 243) hz d_MD_value_239 (by decide) ?_
      refine jr_sub (ls' := []) [] rfl ?_
      exact jb_MD_value_b243 hz hr hlk 1 X
  refine jr_ite (fun hs18 => ?_) (fun hs18 => ?_)
  · refine jr_tableIn (off := 348) (tgt := 352) hz d_MD_value_4 (by rw [hs18]; decide) (by rw [hs18]; decide) (by rw [hs18]; first | done | decide | rfl) (by decide) ?_
    refine jr_lload_n hz d_MD_value_352 rfl 3 rfl ?_
    refine jr_lload hz d_MD_value_353 4 rfl ?_
    refine jr_lcmp hz d_MD_value_355 ?_
    refine jr_if_gt (tgt := 370) hz d_MD_value_356 (by decide) ?_ ?_
    · refine jr_sub (ls' := []) [] rfl ?_
      exact jb_MD_value_b370 hz hr hlk X
    · refine jr_lload hz d_MD_value_359 4 rfl ?_
      refine jr_lload_n hz d_MD_value_361 rfl 2 rfl ?_
      refine jr_lcmp hz d_MD_value_362 ?_
      refine jr_if_ge (tgt := 370) hz d_MD_value_363 (by decide) ?_ ?_
      · refine jr_sub (ls' := []) [] rfl ?_
        exact jb_MD_value_b370 hz hr hlk X
      · refine jr_iconst (v := 1) hz d_MD_value_366 (by decide) ?_
        refine jr_goto (tgt := 371) hz d_MD_value_367 (by decide) ?_
        refine jr_sub (ls' := []) [] rfl ?_
        exact jb_MD_value_b371 hz hr hlk 1 X
  refine jr_ite (fun hs19 => ?_) (fun hs19 => ?_)
  · refine jr_tableIn (off := 244) (tgt := 248) hz d_MD_value_4 (by rw [hs19]; decide) (by rw [hs19]; decide) (by rw [hs19]; first | done | decide | rfl) (by decide) ?_
    refine jr_lload_n hz d_MD_value_248 rfl 3 rfl ?_
    refine jr_lload_n hz d_MD_value_249 rfl 2 rfl ?_
    refine jr_lcmp hz d_MD_value_250 ?_
    refine jr_if_eq (tgt := 258) hz d_MD_value_251 (by decide) ?_ ?_
    · refine jr_iconst (v := 0) hz d_MD_value_258 (by decide) ?_
      refine jr_sub (ls' := []) [] rfl ?_
      exact jb_MD_value_b259 hz hr hlk 0 X
    · refine jr_iconst (v := 1) hz d_MD_value_254 (by decide) ?_
      refine jr_goto (tgt := 259) hz d_MD_value_255 (by decide) ?_
      refine jr_sub (ls' := []) [] rfl ?_
      exact jb_MD_value_b259 hz hr hlk 1 X
  refine jr_ite (fun hs20 => ?_) (fun hs20 => ?_)
  · refine jr_tableIn (off := 260) (tgt := 264) hz d_MD_value_4 (by rw [hs20]; decide) (by rw [hs20]; decide) (by rw [hs20]; first | done | decide | rfl) (by decide) ?_
    refine jr_lload_n hz d_MD_value_264 rfl 3 rfl ?_
    refine jr_lload_n hz d_MD_value_265 rfl 2 rfl ?_
    refine jr_lcmp hz d_MD_value_266 ?_
    refine jr_if_ge (tgt := 274) hz d_MD_value_267 (by decide) ?_ ?_
    · refine jr_iconst (v := 0) hz d_MD_value_274 (by decide) ?_
      refine jr_sub (ls' := []) [] rfl ?_
      exact jb_MD_value_b275 hz hr hlk 0 X
    · refine jr_iconst (v := 1) hz d_MD_value_270 (by decide) ?_
      refine jr_goto (tgt := 275) hz d_MD_value_271 (by decide) ?_
      refine jr_sub (ls' := []) [] rfl ?_
      exact jb_MD_value_b275 hz hr hlk 1 X
  refine jr_ite (fun hs21 => ?_) (fun hs21 => ?_)
  · refine jr_tableIn (off := 276) (tgt := 280) hz d_MD_value_4 (by rw [hs21]; decide) (by rw [hs21]; decide) (by rw [hs21]; first | done | decide | rfl) (by decide) ?_
    refine jr_lload_n hz d_MD_value_280 rfl 3 rfl ?_
    refine jr_lload_n hz d_MD_value_281 rfl 2 rfl ?_
    refine jr_lcmp hz d_MD_value_282 ?_
    refine jr_if_le (tgt := 290) hz d_MD_value_283 (by decide) ?_ ?_
    · refine jr_iconst (v := 0) hz d_MD_value_290 (by decide) ?_
      refine jr_sub (ls' := []) [] rfl ?_
      exact jb_MD_value_b291 hz hr hlk 0 X
    · refine jr_iconst (v := 1) hz d_MD_value_286 (by decide) ?_
      refine jr_goto (tgt := 291) hz d_MD_value_287 (by decide) ?_
      refine jr_sub (ls' := []) [] rfl ?_
      exact jb_MD_value_b291 hz hr hlk 1 X
  refine jr_ite (fun hs22 => ?_) (fun hs22 => ?_)
  · refine jr_tableIn (off := 292) (tgt := 296) hz d_MD_value_4 (by rw [hs22]; decide) (by rw [hs22]; decide) (by rw [hs22]; first | done | decide | rfl) (by decide) ?_
    refine jr_lload_n hz d_MD_value_296 rfl 3 rfl ?_
    refine jr_lload_n hz d_MD_value_297 rfl 2 rfl ?_
    refine jr_lcmp hz d_MD_value_298 ?_
    refine jr_if_gt (tgt := 306) hz d_MD_value_299 (by decide) ?_ ?_
    · refine jr_iconst (v := 0) hz d_MD_value_306 (by decide) ?_
      refine jr_sub (ls' := []) [] rfl ?_
      exact jb_MD_value_b307 hz hr hlk 0 X
    · refine jr_iconst (v := 1) hz d_MD_value_302 (by decide) ?_
      refine jr_goto (tgt := 307) hz d_MD_value_303 (by decide) ?_
      refine jr_sub (ls' := []) [] rfl ?_
      exact jb_MD_value_b307 hz hr hlk 1 X
  refine jr_ite (fun hs23 => ?_) (fun hs23 => ?_)
  · refine jr_tableIn (off := 308) (tgt := 312) hz d_MD_value_4 (by rw [hs23]; decide) (by rw [hs23]; decide) (by rw [hs23]; first | done | decide | rfl) (by decide) ?_
    refine jr_lload_n hz d_MD_value_312 rfl 3 rfl ?_
    refine jr_lload_n hz d_MD_value_313 rfl 2 rfl ?_
    refine jr_lcmp hz d_MD_value_314 ?_
    refine jr_if_lt (tgt := 322) hz d_MD_value_315 (by decide) ?_ ?_
    · refine jr_iconst (v := 0) hz d_MD_value_322 (by decide) ?_
      refine jr_sub (ls' := []) [] rfl ?_
      exact jb_MD_value_b323 hz hr hlk 0 X
    · refine jr_iconst (v := 1) hz d_MD_value_318 (by decide) ?_
      refine jr_goto (tgt := 323) hz d_MD_value_319 (by decide) ?_
      refine jr_sub (ls' := []) [] rfl ?_
      exact jb_MD_value_b323 hz hr hlk 1 X
  refine jr_ite (fun hs24 => ?_) (fun hs24 => ?_)
  · refine jr_tableIn (off := 324) (tgt := 328) hz d_MD_value_4 (by rw [hs24]; decide) (by rw [hs24]; decide) (by rw [hs24]; first | done | decide | rfl) (by decide) ?_
    refine jr_lload_n hz d_MD_value_328 rfl 3 rfl ?_
    refine jr_lload_n hz d_MD_value_329 rfl 2 rfl ?_
    refine jr_lcmp hz d_MD_value_330 ?_
    refine jr_if_ge (tgt := 338) hz d_MD_value_331 (by decide) ?_ ?_
    · refine jr_lload_n hz d_MD_value_338 rfl 2 rfl ?_
      exact jr_lret hz hr hlk d_MD_value_339
    · refine jr_lload_n hz d_MD_value_334 rfl 3 rfl ?_
      refine jr_goto (tgt := 339) hz d_MD_value_335 (by decide) ?_
      exact jr_lret hz hr hlk d_MD_value_339
  refine jr_ite (fun hs25 => ?_) (fun hs25 => ?_)
  · refine jr_tableIn (off := 336) (tgt := 340) hz d_MD_value_4 (by rw [hs25]; decide) (by rw [hs25]; decide) (by rw [hs25]; first | done | decide | rfl) (by decide) ?_
    refine jr_lload_n hz d_MD_value_340 rfl 3 rfl ?_
    refine jr_lload_n hz d_MD_value_341 rfl 2 rfl ?_
    refine jr_lcmp hz d_MD_value_342 ?_
    refine jr_if_ge (tgt := 350) hz d_MD_value_343 (by decide) ?_ ?_
    · refine jr_lload_n hz d_MD_value_350 rfl 3 rfl ?_
      exact jr_lret hz hr hlk d_MD_value_351
    · refine jr_lload_n hz d_MD_value_346 rfl 2 rfl ?_
      refine jr_goto (tgt := 351) hz d_MD_value_347 (by decide) ?_
      exact jr_lret hz hr hlk d_MD_value_351
  refine jr_tableOut (tgt := 352) hz d_MD_value_4 (by have := lv_neT (k := 139) hs0 (show _ = (139 : Int) by decide); have := lv_neT (k := 140) hs1 (show _ = (140 : Int) by decide); have := lv_neT (k := 141) hs2 (show _ = (141 : Int) by decide); have := lv_neT (k := 142) hs3 (show _ = (142 : Int) by decide); have := lv_neT (k := 143) hs4 (show _ = (143 : Int) by decide); have := lv_neT (k := 144) hs5 (show _ = (144 : Int) by decide); have := lv_neT (k := 145) hs6 (show _ = (145 : Int) by decide); have := lv_neT (k := 146) hs7 (show _ = (146 : Int) by decide); have := lv_neT (k := 147) hs8 (show _ = (147 : Int) by decide); have := lv_neT (k := 148) hs9 (show _ = (148 : Int) by decide); have := lv_neT (k := 149) hs10 (show _ = (149 : Int) by decide); have := lv_neT (k := 150) hs11 (show _ = (150 : Int) by decide); have := lv_neT (k := 151) hs12 (show _ = (151 : Int) by decide); have := lv_neT (k := 152) hs13 (show _ = (152 : Int) by decide); have := lv_neT (k := 153) hs14 (show _ = (153 : Int) by decide); have := lv_neT (k := 154) hs15 (show _ = (154 : Int) by decide); have := lv_neT (k := 155) hs16 (show _ = (155 : Int) by decide); have := lv_neT (k := 156) hs17 (show _ = (156 : Int) by decide); have := lv_neT (k := 157) hs18 (show _ = (157 : Int) by decide); have := lv_neT (k := 158) hs19 (show _ = (158 : Int) by decide); have := lv_neT (k := 159) hs20 (show _ = (159 : Int) by decide); have := lv_neT (k := 160) hs21 (show _ = (160 : Int) by decide); have := lv_neT (k := 161) hs22 (show _ = (161 : Int) by decide); have := lv_neT (k := 162) hs23 (show _ = (162 : Int) by decide); have := lv_neT (k := 163) hs24 (show _ = (163 : Int) by decide); have := lv_neT (k := 164) hs25 (show _ = (164 : Int) by decide); omega) (by decide) ?_
  refine jr_lload_n hz d_MD_value_352 rfl 3 rfl ?_
  refine jr_lload hz d_MD_value_353 4 rfl ?_
  refine jr_lcmp hz d_MD_value_355 ?_
  refine jr_if_gt (tgt := 370) hz d_MD_value_356 (by decide) ?_ ?_
  · refine jr_sub (ls' := []) [] rfl ?_
    exact jb_MD_value_b370 hz hr hlk X
  · refine jr_lload hz d_MD_value_359 4 rfl ?_
    refine jr_lload_n hz d_MD_value_361 rfl 2 rfl ?_
    refine jr_lcmp hz d_MD_value_362 ?_
    refine jr_if_ge (tgt := 370) hz d_MD_value_363 (by decide) ?_ ?_
    · refine jr_sub (ls' := []) [] rfl ?_
      exact jb_MD_value_b370 hz hr hlk X
    · refine jr_iconst (v := 1) hz d_MD_value_366 (by decide) ?_
      refine jr_goto (tgt := 371) hz d_MD_value_367 (by decide) ?_
      refine jr_sub (ls' := []) [] rfl ?_
      exact jb_MD_value_b371 hz hr hlk 1 X

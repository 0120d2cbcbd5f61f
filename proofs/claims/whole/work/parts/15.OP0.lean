/-! printed by wip/whole/gen_walks.py -/
theorem d_OP_isKnown_0 : decode b_OP_isKnown 0 = .ok (.iload_n 0, 1) := by decide +kernel
theorem d_OP_isKnown_1 : decode b_OP_isKnown 1 = .ok (.bipush 97, 2) := by decide +kernel
theorem d_OP_isKnown_3 : decode b_OP_isKnown 3 = .ok (.if_icmp .eq 123, 3) := by decide +kernel
theorem d_OP_isKnown_6 : decode b_OP_isKnown 6 = .ok (.iload_n 0, 1) := by decide +kernel
theorem d_OP_isKnown_7 : decode b_OP_isKnown 7 = .ok (.bipush 99, 2) := by decide +kernel
theorem d_OP_isKnown_9 : decode b_OP_isKnown 9 = .ok (.if_icmp .eq 117, 3) := by decide +kernel
theorem d_OP_isKnown_12 : decode b_OP_isKnown 12 = .ok (.iload_n 0, 1) := by decide +kernel
theorem d_OP_isKnown_13 : decode b_OP_isKnown 13 = .ok (.bipush 100, 2) := by decide +kernel
theorem d_OP_isKnown_15 : decode b_OP_isKnown 15 = .ok (.if_icmp .eq 111, 3) := by decide +kernel
theorem d_OP_isKnown_18 : decode b_OP_isKnown 18 = .ok (.iload_n 0, 1) := by decide +kernel
theorem d_OP_isKnown_19 : decode b_OP_isKnown 19 = .ok (.bipush 103, 2) := by decide +kernel
theorem d_OP_isKnown_21 : decode b_OP_isKnown 21 = .ok (.if_icmp .lt 9, 3) := by decide +kernel
theorem d_OP_isKnown_24 : decode b_OP_isKnown 24 = .ok (.iload_n 0, 1) := by decide +kernel
theorem d_OP_isKnown_25 : decode b_OP_isKnown 25 = .ok (.bipush 110, 2) := by decide +kernel
theorem d_OP_isKnown_27 : decode b_OP_isKnown 27 = .ok (.if_icmp .le 99, 3) := by decide +kernel
theorem d_OP_isKnown_30 : decode b_OP_isKnown 30 = .ok (.iload_n 0, 1) := by decide +kernel
theorem d_OP_isKnown_31 : decode b_OP_isKnown 31 = .ok (.bipush 115, 2) := by decide +kernel
theorem d_OP_isKnown_33 : decode b_OP_isKnown 33 = .ok (.if_icmp .lt 9, 3) := by decide +kernel
theorem d_OP_isKnown_36 : decode b_OP_isKnown 36 = .ok (.iload_n 0, 1) := by decide +kernel
theorem d_OP_isKnown_37 : decode b_OP_isKnown 37 = .ok (.bipush 125, 2) := by decide +kernel
theorem d_OP_isKnown_39 : decode b_OP_isKnown 39 = .ok (.if_icmp .le 87, 3) := by decide +kernel
theorem d_OP_isKnown_42 : decode b_OP_isKnown 42 = .ok (.iload_n 0, 1) := by decide +kernel
theorem d_OP_isKnown_43 : decode b_OP_isKnown 43 = .ok (.sipush 130, 3) := by decide +kernel
theorem d_OP_isKnown_46 : decode b_OP_isKnown 46 = .ok (.if_icmp .eq 80, 3) := by decide +kernel
theorem d_OP_isKnown_49 : decode b_OP_isKnown 49 = .ok (.iload_n 0, 1) := by decide +kernel
theorem d_OP_isKnown_50 : decode b_OP_isKnown 50 = .ok (.sipush 135, 3) := by decide +kernel
theorem d_OP_isKnown_53 : decode b_OP_isKnown 53 = .ok (.if_icmp .eq 73, 3) := by decide +kernel
theorem d_OP_isKnown_56 : decode b_OP_isKnown 56 = .ok (.iload_n 0, 1) := by decide +kernel
theorem d_OP_isKnown_57 : decode b_OP_isKnown 57 = .ok (.sipush 136, 3) := by decide +kernel
theorem d_OP_isKnown_60 : decode b_OP_isKnown 60 = .ok (.if_icmp .eq 66, 3) := by decide +kernel
theorem d_OP_isKnown_63 : decode b_OP_isKnown 63 = .ok (.iload_n 0, 1) := by decide +kernel
theorem d_OP_isKnown_64 : decode b_OP_isKnown 64 = .ok (.sipush 139, 3) := by decide +kernel
theorem d_OP_isKnown_67 : decode b_OP_isKnown 67 = .ok (.if_icmp .eq 59, 3) := by decide +kernel
theorem d_OP_isKnown_70 : decode b_OP_isKnown 70 = .ok (.iload_n 0, 1) := by decide +kernel
theorem d_OP_isKnown_71 : decode b_OP_isKnown 71 = .ok (.sipush 140, 3) := by decide +kernel
theorem d_OP_isKnown_74 : decode b_OP_isKnown 74 = .ok (.if_icmp .eq 52, 3) := by decide +kernel
theorem d_OP_isKnown_77 : decode b_OP_isKnown 77 = .ok (.iload_n 0, 1) := by decide +kernel
theorem d_OP_isKnown_78 : decode b_OP_isKnown 78 = .ok (.sipush 143, 3) := by decide +kernel
theorem d_OP_isKnown_81 : decode b_OP_isKnown 81 = .ok (.if_icmp .lt 10, 3) := by decide +kernel
theorem d_OP_isKnown_84 : decode b_OP_isKnown 84 = .ok (.iload_n 0, 1) := by decide +kernel
theorem d_OP_isKnown_85 : decode b_OP_isKnown 85 = .ok (.sipush 148, 3) := by decide +kernel
theorem d_OP_isKnown_88 : decode b_OP_isKnown 88 = .ok (.if_icmp .le 38, 3) := by decide +kernel
theorem d_OP_isKnown_91 : decode b_OP_isKnown 91 = .ok (.iload_n 0, 1) := by decide +kernel
theorem d_OP_isKnown_92 : decode b_OP_isKnown 92 = .ok (.sipush 154, 3) := by decide +kernel
theorem d_OP_isKnown_95 : decode b_OP_isKnown 95 = .ok (.if_icmp .lt 10, 3) := by decide +kernel
theorem d_OP_isKnown_98 : decode b_OP_isKnown 98 = .ok (.iload_n 0, 1) := by decide +kernel
theorem d_OP_isKnown_99 : decode b_OP_isKnown 99 = .ok (.sipush 165, 3) := by decide +kernel
theorem d_OP_isKnown_102 : decode b_OP_isKnown 102 = .ok (.if_icmp .le 24, 3) := by decide +kernel
theorem d_OP_isKnown_105 : decode b_OP_isKnown 105 = .ok (.iload_n 0, 1) := by decide +kernel
theorem d_OP_isKnown_106 : decode b_OP_isKnown 106 = .ok (.sipush 169, 3) := by decide +kernel
theorem d_OP_isKnown_109 : decode b_OP_isKnown 109 = .ok (.if_icmp .eq 17, 3) := by decide +kernel
theorem d_OP_isKnown_112 : decode b_OP_isKnown 112 = .ok (.iload_n 0, 1) := by decide +kernel
theorem d_OP_isKnown_113 : decode b_OP_isKnown 113 = .ok (.sipush 172, 3) := by decide +kernel
theorem d_OP_isKnown_116 : decode b_OP_isKnown 116 = .ok (.if_icmp .lt 14, 3) := by decide +kernel
theorem d_OP_isKnown_119 : decode b_OP_isKnown 119 = .ok (.iload_n 0, 1) := by decide +kernel
theorem d_OP_isKnown_120 : decode b_OP_isKnown 120 = .ok (.sipush 174, 3) := by decide +kernel
theorem d_OP_isKnown_123 : decode b_OP_isKnown 123 = .ok (.if_icmp .gt 7, 3) := by decide +kernel
theorem d_OP_isKnown_126 : decode b_OP_isKnown 126 = .ok (.iconst 1, 1) := by decide +kernel
theorem d_OP_isKnown_127 : decode b_OP_isKnown 127 = .ok (.goto 4, 3) := by decide +kernel
theorem d_OP_isKnown_130 : decode b_OP_isKnown 130 = .ok (.iconst 0, 1) := by decide +kernel
theorem d_OP_isKnown_131 : decode b_OP_isKnown 131 = .ok (.ireturn, 1) := by decide +kernel
abbrev rm_OP_isKnown : Room := { frames := 0, cells := 0, slots := 0, locals := 0 }
def fx_OP_isKnown_b126 (X : xh_T) : Option (Int32 × xh_T) :=
  some (1, X)
set_option maxRecDepth 100000 in
set_option maxHeartbeats 4000000 in
theorem jb_OP_isKnown_b126 {p : Program} {l : Launch} {e : Env} {s : State} {m : MethodId} {args : Array Value} {below : List Frame} {meth : Method} {c : Code} {D : va_G} {G : xh_G} (hz : xh_C p s m args c b_OP_isKnown 1 "SpendScript$Operations" D G (xh_A G s.heap.size)) (hr : meth.sig.returnType = (some .boolean)) (hlk : meth.locks = false) (X : xh_T) : xh_J p l e rm_OP_isKnown s m args below meth c 0 0 D G (xh_A G s.heap.size) 1 (fun r X' => MQ below (xh_Qi D G (xh_A G s.heap.size) r X') args s 0 0 (xh_A G s.heap.size)) 126 [] [] X (fx_OP_isKnown_b126 X) := by
  unfold fx_OP_isKnown_b126
  refine jr_iconst (v := 1) hz d_OP_isKnown_126 (by decide) ?_
  refine jr_goto (tgt := 131) hz d_OP_isKnown_127 (by decide) ?_
  exact jr_zret hz hr hlk (by decide) d_OP_isKnown_131
def fx_OP_isKnown_b105 (a0 : Int32) (X : xh_T) : Option (Int32 × xh_T) :=
  if a0 = 169 then
  fx_OP_isKnown_b126 X
  else if a0 < 172 then
  some (0, X)
  else if 174 < a0 then
  some (0, X)
  else fx_OP_isKnown_b126 X
set_option maxRecDepth 100000 in
set_option maxHeartbeats 4000000 in
theorem jb_OP_isKnown_b105 {p : Program} {l : Launch} {e : Env} {s : State} {m : MethodId} {args : Array Value} {below : List Frame} {meth : Method} {c : Code} {D : va_G} {G : xh_G} (hz : xh_C p s m args c b_OP_isKnown 1 "SpendScript$Operations" D G (xh_A G s.heap.size)) (hr : meth.sig.returnType = (some .boolean)) (hlk : meth.locks = false) (a0 : Int32) (X : xh_T) : xh_J p l e rm_OP_isKnown s m args below meth c 0 0 D G (xh_A G s.heap.size) 1 (fun r X' => MQ below (xh_Qi D G (xh_A G s.heap.size) r X') args s 0 0 (xh_A G s.heap.size)) 105 [(0, .int a0)] [] X (fx_OP_isKnown_b105 a0 X) := by
  unfold fx_OP_isKnown_b105
  refine jr_iload_n hz d_OP_isKnown_105 rfl 0 rfl ?_
  refine jr_sipush (v := 169) hz d_OP_isKnown_106 (by decide) ?_
  refine jr_icmp_eq (tgt := 126) hz d_OP_isKnown_109 (by decide) ?_ ?_
  · refine jr_sub (ls' := []) [] rfl ?_
    exact jb_OP_isKnown_b126 hz hr hlk X
  · refine jr_iload_n hz d_OP_isKnown_112 rfl 0 rfl ?_
    refine jr_sipush (v := 172) hz d_OP_isKnown_113 (by decide) ?_
    refine jr_icmp_lt (tgt := 130) hz d_OP_isKnown_116 (by decide) ?_ ?_
    · refine jr_iconst (v := 0) hz d_OP_isKnown_130 (by decide) ?_
      exact jr_zret hz hr hlk (by decide) d_OP_isKnown_131
    · refine jr_iload_n hz d_OP_isKnown_119 rfl 0 rfl ?_
      refine jr_sipush (v := 174) hz d_OP_isKnown_120 (by decide) ?_
      refine jr_icmp_gt (tgt := 130) hz d_OP_isKnown_123 (by decide) ?_ ?_
      · refine jr_iconst (v := 0) hz d_OP_isKnown_130 (by decide) ?_
        exact jr_zret hz hr hlk (by decide) d_OP_isKnown_131
      · refine jr_sub (ls' := []) [] rfl ?_
        exact jb_OP_isKnown_b126 hz hr hlk X
def fx_OP_isKnown_b91 (a0 : Int32) (X : xh_T) : Option (Int32 × xh_T) :=
  if a0 < 154 then
  fx_OP_isKnown_b105 a0 X
  else if a0 ≤ 165 then
  fx_OP_isKnown_b126 X
  else fx_OP_isKnown_b105 a0 X
set_option maxRecDepth 100000 in
set_option maxHeartbeats 4000000 in
theorem jb_OP_isKnown_b91 {p : Program} {l : Launch} {e : Env} {s : State} {m : MethodId} {args : Array Value} {below : List Frame} {meth : Method} {c : Code} {D : va_G} {G : xh_G} (hz : xh_C p s m args c b_OP_isKnown 1 "SpendScript$Operations" D G (xh_A G s.heap.size)) (hr : meth.sig.returnType = (some .boolean)) (hlk : meth.locks = false) (a0 : Int32) (X : xh_T) : xh_J p l e rm_OP_isKnown s m args below meth c 0 0 D G (xh_A G s.heap.size) 1 (fun r X' => MQ below (xh_Qi D G (xh_A G s.heap.size) r X') args s 0 0 (xh_A G s.heap.size)) 91 [(0, .int a0)] [] X (fx_OP_isKnown_b91 a0 X) := by
  unfold fx_OP_isKnown_b91
  refine jr_iload_n hz d_OP_isKnown_91 rfl 0 rfl ?_
  refine jr_sipush (v := 154) hz d_OP_isKnown_92 (by decide) ?_
  refine jr_icmp_lt (tgt := 105) hz d_OP_isKnown_95 (by decide) ?_ ?_
  · refine jr_sub (ls' := [(0, .int a0)]) [0] rfl ?_
    exact jb_OP_isKnown_b105 hz hr hlk a0 X
  · refine jr_iload_n hz d_OP_isKnown_98 rfl 0 rfl ?_
    refine jr_sipush (v := 165) hz d_OP_isKnown_99 (by decide) ?_
    refine jr_icmp_le (tgt := 126) hz d_OP_isKnown_102 (by decide) ?_ ?_
    · refine jr_sub (ls' := []) [] rfl ?_
      exact jb_OP_isKnown_b126 hz hr hlk X
    · refine jr_sub (ls' := [(0, .int a0)]) [0] rfl ?_
      exact jb_OP_isKnown_b105 hz hr hlk a0 X
def fx_OP_isKnown_b42 (a0 : Int32) (X : xh_T) : Option (Int32 × xh_T) :=
  if a0 = 130 then
  fx_OP_isKnown_b126 X
  else if a0 = 135 then
  fx_OP_isKnown_b126 X
  else if a0 = 136 then
  fx_OP_isKnown_b126 X
  else if a0 = 139 then
  fx_OP_isKnown_b126 X
  else if a0 = 140 then
  fx_OP_isKnown_b126 X
  else if a0 < 143 then
  fx_OP_isKnown_b91 a0 X
  else if a0 ≤ 148 then
  fx_OP_isKnown_b126 X
  else fx_OP_isKnown_b91 a0 X
set_option maxRecDepth 100000 in
set_option maxHeartbeats 4000000 in
theorem jb_OP_isKnown_b42 {p : Program} {l : Launch} {e : Env} {s : State} {m : MethodId} {args : Array Value} {below : List Frame} {meth : Method} {c : Code} {D : va_G} {G : xh_G} (hz : xh_C p s m args c b_OP_isKnown 1 "SpendScript$Operations" D G (xh_A G s.heap.size)) (hr : meth.sig.returnType = (some .boolean)) (hlk : meth.locks = false) (a0 : Int32) (X : xh_T) : xh_J p l e rm_OP_isKnown s m args below meth c 0 0 D G (xh_A G s.heap.size) 1 (fun r X' => MQ below (xh_Qi D G (xh_A G s.heap.size) r X') args s 0 0 (xh_A G s.heap.size)) 42 [(0, .int a0)] [] X (fx_OP_isKnown_b42 a0 X) := by
  unfold fx_OP_isKnown_b42
  refine jr_iload_n hz d_OP_isKnown_42 rfl 0 rfl ?_
  refine jr_sipush (v := 130) hz d_OP_isKnown_43 (by decide) ?_
  refine jr_icmp_eq (tgt := 126) hz d_OP_isKnown_46 (by decide) ?_ ?_
  · refine jr_sub (ls' := []) [] rfl ?_
    exact jb_OP_isKnown_b126 hz hr hlk X
  · refine jr_iload_n hz d_OP_isKnown_49 rfl 0 rfl ?_
    refine jr_sipush (v := 135) hz d_OP_isKnown_50 (by decide) ?_
    refine jr_icmp_eq (tgt := 126) hz d_OP_isKnown_53 (by decide) ?_ ?_
    · refine jr_sub (ls' := []) [] rfl ?_
      exact jb_OP_isKnown_b126 hz hr hlk X
    · refine jr_iload_n hz d_OP_isKnown_56 rfl 0 rfl ?_
      refine jr_sipush (v := 136) hz d_OP_isKnown_57 (by decide) ?_
      refine jr_icmp_eq (tgt := 126) hz d_OP_isKnown_60 (by decide) ?_ ?_
      · refine jr_sub (ls' := []) [] rfl ?_
        exact jb_OP_isKnown_b126 hz hr hlk X
      · refine jr_iload_n hz d_OP_isKnown_63 rfl 0 rfl ?_
        refine jr_sipush (v := 139) hz d_OP_isKnown_64 (by decide) ?_
        refine jr_icmp_eq (tgt := 126) hz d_OP_isKnown_67 (by decide) ?_ ?_
        · refine jr_sub (ls' := []) [] rfl ?_
          exact jb_OP_isKnown_b126 hz hr hlk X
        · refine jr_iload_n hz d_OP_isKnown_70 rfl 0 rfl ?_
          refine jr_sipush (v := 140) hz d_OP_isKnown_71 (by decide) ?_
          refine jr_icmp_eq (tgt := 126) hz d_OP_isKnown_74 (by decide) ?_ ?_
          · refine jr_sub (ls' := []) [] rfl ?_
            exact jb_OP_isKnown_b126 hz hr hlk X
          · refine jr_iload_n hz d_OP_isKnown_77 rfl 0 rfl ?_
            refine jr_sipush (v := 143) hz d_OP_isKnown_78 (by decide) ?_
            refine jr_icmp_lt (tgt := 91) hz d_OP_isKnown_81 (by decide) ?_ ?_
            · refine jr_sub (ls' := [(0, .int a0)]) [0] rfl ?_
              exact jb_OP_isKnown_b91 hz hr hlk a0 X
            · refine jr_iload_n hz d_OP_isKnown_84 rfl 0 rfl ?_
              refine jr_sipush (v := 148) hz d_OP_isKnown_85 (by decide) ?_
              refine jr_icmp_le (tgt := 126) hz d_OP_isKnown_88 (by decide) ?_ ?_
              · refine jr_sub (ls' := []) [] rfl ?_
                exact jb_OP_isKnown_b126 hz hr hlk X
              · refine jr_sub (ls' := [(0, .int a0)]) [0] rfl ?_
                exact jb_OP_isKnown_b91 hz hr hlk a0 X
def fx_OP_isKnown_b30 (a0 : Int32) (X : xh_T) : Option (Int32 × xh_T) :=
  if a0 < 115 then
  fx_OP_isKnown_b42 a0 X
  else if a0 ≤ 125 then
  fx_OP_isKnown_b126 X
  else fx_OP_isKnown_b42 a0 X
set_option maxRecDepth 100000 in
set_option maxHeartbeats 4000000 in
theorem jb_OP_isKnown_b30 {p : Program} {l : Launch} {e : Env} {s : State} {m : MethodId} {args : Array Value} {below : List Frame} {meth : Method} {c : Code} {D : va_G} {G : xh_G} (hz : xh_C p s m args c b_OP_isKnown 1 "SpendScript$Operations" D G (xh_A G s.heap.size)) (hr : meth.sig.returnType = (some .boolean)) (hlk : meth.locks = false) (a0 : Int32) (X : xh_T) : xh_J p l e rm_OP_isKnown s m args below meth c 0 0 D G (xh_A G s.heap.size) 1 (fun r X' => MQ below (xh_Qi D G (xh_A G s.heap.size) r X') args s 0 0 (xh_A G s.heap.size)) 30 [(0, .int a0)] [] X (fx_OP_isKnown_b30 a0 X) := by
  unfold fx_OP_isKnown_b30
  refine jr_iload_n hz d_OP_isKnown_30 rfl 0 rfl ?_
  refine jr_bipush (v := 115) hz d_OP_isKnown_31 (by decide) ?_
  refine jr_icmp_lt (tgt := 42) hz d_OP_isKnown_33 (by decide) ?_ ?_
  · refine jr_sub (ls' := [(0, .int a0)]) [0] rfl ?_
    exact jb_OP_isKnown_b42 hz hr hlk a0 X
  · refine jr_iload_n hz d_OP_isKnown_36 rfl 0 rfl ?_
    refine jr_bipush (v := 125) hz d_OP_isKnown_37 (by decide) ?_
    refine jr_icmp_le (tgt := 126) hz d_OP_isKnown_39 (by decide) ?_ ?_
    · refine jr_sub (ls' := []) [] rfl ?_
      exact jb_OP_isKnown_b126 hz hr hlk X
    · refine jr_sub (ls' := [(0, .int a0)]) [0] rfl ?_
      exact jb_OP_isKnown_b42 hz hr hlk a0 X
def fx_OP_isKnown (p1 : Int32) (X : xh_T) : Option (Int32 × xh_T) :=
  if p1 = 97 then
  fx_OP_isKnown_b126 X
  else if p1 = 99 then
  fx_OP_isKnown_b126 X
  else if p1 = 100 then
  fx_OP_isKnown_b126 X
  else if p1 < 103 then
  fx_OP_isKnown_b30 p1 X
  else if p1 ≤ 110 then
  fx_OP_isKnown_b126 X
  else fx_OP_isKnown_b30 p1 X
set_option maxRecDepth 100000 in
set_option maxHeartbeats 4000000 in
theorem cx_OP_isKnown (l : Launch) (D : va_G) (G : xh_G) (hD : xh_D G) (p1 : Int32) (X : xh_T) : xh_M xh_Qi l D G y_OP_isKnown b_OP_isKnown 1 (some .boolean) rm_OP_isKnown [.int p1] X (fx_OP_isKnown p1 X) := by
  refine xh_enter (ls := [(0, .int p1)]) hD (by decide +kernel) (Nat.le_of_ble_eq_true rfl) rfl ?_
  intro p e s m args below meth c hz hr hlk
  unfold fx_OP_isKnown
  refine jr_iload_n hz d_OP_isKnown_0 rfl 0 rfl ?_
  refine jr_bipush (v := 97) hz d_OP_isKnown_1 (by decide) ?_
  refine jr_icmp_eq (tgt := 126) hz d_OP_isKnown_3 (by decide) ?_ ?_
  · refine jr_sub (ls' := []) [] rfl ?_
    exact jb_OP_isKnown_b126 hz hr hlk X
  · refine jr_iload_n hz d_OP_isKnown_6 rfl 0 rfl ?_
    refine jr_bipush (v := 99) hz d_OP_isKnown_7 (by decide) ?_
    refine jr_icmp_eq (tgt := 126) hz d_OP_isKnown_9 (by decide) ?_ ?_
    · refine jr_sub (ls' := []) [] rfl ?_
      exact jb_OP_isKnown_b126 hz hr hlk X
    · refine jr_iload_n hz d_OP_isKnown_12 rfl 0 rfl ?_
      refine jr_bipush (v := 100) hz d_OP_isKnown_13 (by decide) ?_
      refine jr_icmp_eq (tgt := 126) hz d_OP_isKnown_15 (by decide) ?_ ?_
      · refine jr_sub (ls' := []) [] rfl ?_
        exact jb_OP_isKnown_b126 hz hr hlk X
      · refine jr_iload_n hz d_OP_isKnown_18 rfl 0 rfl ?_
        refine jr_bipush (v := 103) hz d_OP_isKnown_19 (by decide) ?_
        refine jr_icmp_lt (tgt := 30) hz d_OP_isKnown_21 (by decide) ?_ ?_
        · refine jr_sub (ls' := [(0, .int p1)]) [0] rfl ?_
          exact jb_OP_isKnown_b30 hz hr hlk p1 X
        · refine jr_iload_n hz d_OP_isKnown_24 rfl 0 rfl ?_
          refine jr_bipush (v := 110) hz d_OP_isKnown_25 (by decide) ?_
          refine jr_icmp_le (tgt := 126) hz d_OP_isKnown_27 (by decide) ?_ ?_
          · refine jr_sub (ls' := []) [] rfl ?_
            exact jb_OP_isKnown_b126 hz hr hlk X
          · refine jr_sub (ls' := [(0, .int p1)]) [0] rfl ?_
            exact jb_OP_isKnown_b30 hz hr hlk p1 X
theorem d_OP_numberFault_0 : decode b_OP_numberFault 0 = .ok (.aload_n 0, 1) := by decide +kernel
theorem d_OP_numberFault_1 : decode b_OP_numberFault 1 = .ok (.getfield 9, 3) := by decide +kernel
theorem d_OP_numberFault_4 : decode b_OP_numberFault 4 = .ok (.iload_n 1, 1) := by decide +kernel
theorem d_OP_numberFault_5 : decode b_OP_numberFault 5 = .ok (.invokevirtual 49, 3) := by decide +kernel
theorem d_OP_numberFault_8 : decode b_OP_numberFault 8 = .ok (.ifCond .ne 6, 3) := by decide +kernel
theorem d_OP_numberFault_11 : decode b_OP_numberFault 11 = .ok (.bipush 11, 2) := by decide +kernel
theorem d_OP_numberFault_13 : decode b_OP_numberFault 13 = .ok (.ireturn, 1) := by decide +kernel
theorem d_OP_numberFault_14 : decode b_OP_numberFault 14 = .ok (.aload_n 0, 1) := by decide +kernel
theorem d_OP_numberFault_15 : decode b_OP_numberFault 15 = .ok (.getfield 9, 3) := by decide +kernel
theorem d_OP_numberFault_18 : decode b_OP_numberFault 18 = .ok (.iload_n 1, 1) := by decide +kernel
theorem d_OP_numberFault_19 : decode b_OP_numberFault 19 = .ok (.invokevirtual 59, 3) := by decide +kernel
theorem d_OP_numberFault_22 : decode b_OP_numberFault 22 = .ok (.invokevirtual 95, 3) := by decide +kernel
theorem d_OP_numberFault_25 : decode b_OP_numberFault 25 = .ok (.ifCond .eq 7, 3) := by decide +kernel
theorem d_OP_numberFault_28 : decode b_OP_numberFault 28 = .ok (.iconst 0, 1) := by decide +kernel
theorem d_OP_numberFault_29 : decode b_OP_numberFault 29 = .ok (.goto 5, 3) := by decide +kernel
theorem d_OP_numberFault_32 : decode b_OP_numberFault 32 = .ok (.bipush 12, 2) := by decide +kernel
theorem d_OP_numberFault_34 : decode b_OP_numberFault 34 = .ok (.ireturn, 1) := by decide +kernel
theorem wf_OP_9 : xh_F "SpendScript$Operations" 9 5 0 := ⟨R_OP, F_OP, 3, rfl, by decide, iw_OP, (sp_tb (List.mem_of_getElem? (i := 96) (by decide +kernel)))⟩
theorem wv_OP_49 : xh_V "SpendScript$Operations" 49 1 y_IS_has b_IS_has 2 (some .boolean) 1 := ⟨(sp_tb (List.mem_of_getElem? (i := 296) (by decide +kernel))), (sp_tb (List.mem_of_getElem? (i := 4) (by decide +kernel))), (sp_tb (List.mem_of_getElem? (i := 341) (by decide +kernel))), ⟨by decide +kernel, by decide +kernel, by decide +kernel⟩, (sp_tb (List.mem_of_getElem? (i := 294) (by decide +kernel))), (sp_tb (List.mem_of_getElem? (i := 295) (by decide +kernel))), F_IS, 3, rfl⟩
theorem wv_OP_59 : xh_V "SpendScript$Operations" 59 1 y_IS_item b_IS_item 2 (some (.object "SpendScript$ByteString")) 1 := ⟨(sp_tb (List.mem_of_getElem? (i := 300) (by decide +kernel))), (sp_tb (List.mem_of_getElem? (i := 4) (by decide +kernel))), (sp_tb (List.mem_of_getElem? (i := 342) (by decide +kernel))), ⟨by decide +kernel, by decide +kernel, by decide +kernel⟩, (sp_tb (List.mem_of_getElem? (i := 298) (by decide +kernel))), (sp_tb (List.mem_of_getElem? (i := 299) (by decide +kernel))), F_IS, 3, rfl⟩
theorem wv_OP_95 : xh_V "SpendScript$Operations" 95 0 y_BS_isNumber b_BS_isNumber 1 (some .boolean) 0 := ⟨(sp_tb (List.mem_of_getElem? (i := 346) (by decide +kernel))), (sp_tb (List.mem_of_getElem? (i := 2) (by decide +kernel))), (sp_tb (List.mem_of_getElem? (i := 343) (by decide +kernel))), ⟨by decide +kernel, by decide +kernel, by decide +kernel⟩, (sp_tb (List.mem_of_getElem? (i := 344) (by decide +kernel))), (sp_tb (List.mem_of_getElem? (i := 345) (by decide +kernel))), F_BS, 2, rfl⟩
abbrev rm_OP_numberFault : Room := { frames := 1, cells := 0, slots := 0, locals := 21 }
def fx_OP_numberFault (p1 : Int32) (X : xh_T) : Option (Int32 × xh_T) :=
  xh_b (fx_IS_has 10 p1 X) (fun (r2 : Int32) (X1 : xh_T) =>
  if r2 = 0 then
  some (11, X1)
  else xh_b (fx_IS_item 10 p1 X1) (fun (q8 : Nat) (X2 : xh_T) =>
  xh_b (fx_BS_isNumber q8 X2) (fun (r10 : Int32) (X3 : xh_T) =>
  if r10 = 0 then
  some (12, X3)
  else some (0, X3))))
set_option maxRecDepth 100000 in
set_option maxHeartbeats 4000000 in
theorem cx_OP_numberFault (l : Launch) (D : va_G) (G : xh_G) (hD : xh_D G) (p1 : Int32) (X : xh_T) : xh_M xh_Qi l D G y_OP_numberFault b_OP_numberFault 2 (some .int) rm_OP_numberFault [.ref (G.1 205), .int p1] X (fx_OP_numberFault p1 X) := by
  refine xh_enter (ls := [(0, .ref (G.1 205)), (1, .int p1)]) hD (by decide +kernel) (Nat.le_of_ble_eq_true rfl) rfl ?_
  intro p e s m args below meth c hz hr hlk
  unfold fx_OP_numberFault
  refine jr_aload_n hz d_OP_numberFault_0 rfl 0 rfl ?_
  refine jr_getr (j := 0) (t := 10) hz lq_205 ly_205 rfl wf_OP_9 d_OP_numberFault_1 ?_
  refine jr_iload_n hz d_OP_numberFault_4 rfl 1 rfl ?_
  refine jr_callVi (As := [.int p1]) (a := 10) (ci := 1) (st := []) hz (cx_IS_has l D G hz.2.2.2.2.2.2.1 10 p1 X) (fun z h => sp_is_v (xh_k_t h)) wv_OP_49 ⟨rfl, rfl, Nat.le_of_ble_eq_true rfl, Nat.le_of_ble_eq_true rfl⟩ ⟨Nat.zero_le _, Nat.zero_le _⟩ rfl rfl (Nat.le_of_ble_eq_true rfl) d_OP_numberFault_5 (fun r2 X1 => ?_)
  refine jr_if_ne (tgt := 14) hz d_OP_numberFault_8 (by decide) ?_ ?_
  · refine jr_aload_n hz d_OP_numberFault_14 rfl 0 rfl ?_
    refine jr_getr (j := 0) (t := 10) hz lq_205 ly_205 rfl wf_OP_9 d_OP_numberFault_15 ?_
    refine jr_iload_n hz d_OP_numberFault_18 rfl 1 rfl ?_
    refine jr_callVr (As := [.int p1]) (a := 10) (ci := 1) (st := []) hz (cx_IS_item l D G hz.2.2.2.2.2.2.1 10 p1 X1) (fun z h => sp_is_v (xh_k_t h)) wv_OP_59 ⟨rfl, rfl, Nat.le_of_ble_eq_true rfl, Nat.le_of_ble_eq_true rfl⟩ ⟨Nat.zero_le _, Nat.zero_le _⟩ rfl rfl (Nat.le_of_ble_eq_true rfl) d_OP_numberFault_19 (fun q8 X2 => ?_)
    refine jr_callVi (As := []) (a := q8) (ci := 0) (st := []) hz (cx_BS_isNumber l D G hz.2.2.2.2.2.2.1 q8 X2) (fun z h => sp_bs_v (xh_k_t h)) wv_OP_95 ⟨rfl, rfl, Nat.le_of_ble_eq_true rfl, Nat.le_of_ble_eq_true rfl⟩ ⟨Nat.zero_le _, Nat.zero_le _⟩ rfl rfl (Nat.le_of_ble_eq_true rfl) d_OP_numberFault_22 (fun r10 X3 => ?_)
    refine jr_if_eq (tgt := 32) hz d_OP_numberFault_25 (by decide) ?_ ?_
    · refine jr_bipush (v := 12) hz d_OP_numberFault_32 (by decide) ?_
      exact jr_iret hz hr hlk d_OP_numberFault_34
    · refine jr_iconst (v := 0) hz d_OP_numberFault_28 (by decide) ?_
      refine jr_goto (tgt := 34) hz d_OP_numberFault_29 (by decide) ?_
      exact jr_iret hz hr hlk d_OP_numberFault_34
  · refine jr_bipush (v := 11) hz d_OP_numberFault_11 (by decide) ?_
    exact jr_iret hz hr hlk d_OP_numberFault_13
theorem d_OP_oneIf_0 : decode b_OP_oneIf 0 = .ok (.iload_n 0, 1) := by decide +kernel
theorem d_OP_oneIf_1 : decode b_OP_oneIf 1 = .ok (.ifCond .eq 7, 3) := by decide +kernel
theorem d_OP_oneIf_4 : decode b_OP_oneIf 4 = .ok (.iconst 1, 1) := by decide +kernel
theorem d_OP_oneIf_5 : decode b_OP_oneIf 5 = .ok (.goto 4, 3) := by decide +kernel
theorem d_OP_oneIf_8 : decode b_OP_oneIf 8 = .ok (.iconst 0, 1) := by decide +kernel
theorem d_OP_oneIf_9 : decode b_OP_oneIf 9 = .ok (.ireturn, 1) := by decide +kernel
abbrev rm_OP_oneIf : Room := { frames := 0, cells := 0, slots := 0, locals := 0 }
def fx_OP_oneIf (p1 : Int32) (X : xh_T) : Option (Int32 × xh_T) :=
  if p1 = 0 then
  some (0, X)
  else some (1, X)
set_option maxRecDepth 100000 in
set_option maxHeartbeats 4000000 in
theorem cx_OP_oneIf (l : Launch) (D : va_G) (G : xh_G) (hD : xh_D G) (p1 : Int32) (X : xh_T) : xh_M xh_Qi l D G y_OP_oneIf b_OP_oneIf 1 (some .int) rm_OP_oneIf [.int p1] X (fx_OP_oneIf p1 X) := by
  refine xh_enter (ls := [(0, .int p1)]) hD (by decide +kernel) (Nat.le_of_ble_eq_true rfl) rfl ?_
  intro p e s m args below meth c hz hr hlk
  unfold fx_OP_oneIf
  refine jr_iload_n hz d_OP_oneIf_0 rfl 0 rfl ?_
  refine jr_if_eq (tgt := 8) hz d_OP_oneIf_1 (by decide) ?_ ?_
  · refine jr_iconst (v := 0) hz d_OP_oneIf_8 (by decide) ?_
    exact jr_iret hz hr hlk d_OP_oneIf_9
  · refine jr_iconst (v := 1) hz d_OP_oneIf_4 (by decide) ?_
    refine jr_goto (tgt := 9) hz d_OP_oneIf_5 (by decide) ?_
    exact jr_iret hz hr hlk d_OP_oneIf_9
theorem d_OP_ofOne_0 : decode b_OP_ofOne 0 = .ok (.iload_n 0, 1) := by decide +kernel
theorem d_OP_ofOne_1 : decode b_OP_ofOne 1 = .ok (.tableswitch 75 139 145 #[43, 47, 75, 75, 51, 54, 59], 43) := by decide +kernel
theorem d_OP_ofOne_44 : decode b_OP_ofOne 44 = .ok (.lload_n 1, 1) := by decide +kernel
theorem d_OP_ofOne_45 : decode b_OP_ofOne 45 = .ok (.lconst 1, 1) := by decide +kernel
theorem d_OP_ofOne_46 : decode b_OP_ofOne 46 = .ok (.ladd, 1) := by decide +kernel
theorem d_OP_ofOne_47 : decode b_OP_ofOne 47 = .ok (.lreturn, 1) := by decide +kernel
theorem d_OP_ofOne_48 : decode b_OP_ofOne 48 = .ok (.lload_n 1, 1) := by decide +kernel
theorem d_OP_ofOne_49 : decode b_OP_ofOne 49 = .ok (.lconst 1, 1) := by decide +kernel
theorem d_OP_ofOne_50 : decode b_OP_ofOne 50 = .ok (.lsub, 1) := by decide +kernel
theorem d_OP_ofOne_51 : decode b_OP_ofOne 51 = .ok (.lreturn, 1) := by decide +kernel
theorem d_OP_ofOne_52 : decode b_OP_ofOne 52 = .ok (.lload_n 1, 1) := by decide +kernel
theorem d_OP_ofOne_53 : decode b_OP_ofOne 53 = .ok (.lneg, 1) := by decide +kernel
theorem d_OP_ofOne_54 : decode b_OP_ofOne 54 = .ok (.lreturn, 1) := by decide +kernel
theorem d_OP_ofOne_55 : decode b_OP_ofOne 55 = .ok (.lload_n 1, 1) := by decide +kernel
theorem d_OP_ofOne_56 : decode b_OP_ofOne 56 = .ok (.invokestatic 128, 3) := by decide +kernel
theorem d_OP_ofOne_59 : decode b_OP_ofOne 59 = .ok (.lreturn, 1) := by decide +kernel
theorem d_OP_ofOne_60 : decode b_OP_ofOne 60 = .ok (.lload_n 1, 1) := by decide +kernel
theorem d_OP_ofOne_61 : decode b_OP_ofOne 61 = .ok (.lconst 0, 1) := by decide +kernel
theorem d_OP_ofOne_62 : decode b_OP_ofOne 62 = .ok (.lcmp, 1) := by decide +kernel
theorem d_OP_ofOne_63 : decode b_OP_ofOne 63 = .ok (.ifCond .ne 7, 3) := by decide +kernel
theorem d_OP_ofOne_66 : decode b_OP_ofOne 66 = .ok (.iconst 1, 1) := by decide +kernel
theorem d_OP_ofOne_67 : decode b_OP_ofOne 67 = .ok (.goto 4, 3) := by decide +kernel
theorem d_OP_ofOne_70 : decode b_OP_ofOne 70 = .ok (.iconst 0, 1) := by decide +kernel
theorem d_OP_ofOne_71 : decode b_OP_ofOne 71 = .ok (.invokestatic 121, 3) := by decide +kernel
theorem d_OP_ofOne_74 : decode b_OP_ofOne 74 = .ok (.i2l, 1) := by decide +kernel
theorem d_OP_ofOne_75 : decode b_OP_ofOne 75 = .ok (.lreturn, 1) := by decide +kernel
theorem d_OP_ofOne_76 : decode b_OP_ofOne 76 = .ok (.lload_n 1, 1) := by decide +kernel
theorem d_OP_ofOne_77 : decode b_OP_ofOne 77 = .ok (.lconst 0, 1) := by decide +kernel
theorem d_OP_ofOne_78 : decode b_OP_ofOne 78 = .ok (.lcmp, 1) := by decide +kernel
theorem d_OP_ofOne_79 : decode b_OP_ofOne 79 = .ok (.ifCond .eq 7, 3) := by decide +kernel
theorem d_OP_ofOne_82 : decode b_OP_ofOne 82 = .ok (.iconst 1, 1) := by decide +kernel
theorem d_OP_ofOne_83 : decode b_OP_ofOne 83 = .ok (.goto 4, 3) := by decide +kernel
theorem d_OP_ofOne_86 : decode b_OP_ofOne 86 = .ok (.iconst 0, 1) := by decide +kernel
theorem d_OP_ofOne_87 : decode b_OP_ofOne 87 = .ok (.invokestatic 121, 3) := by decide +kernel
theorem d_OP_ofOne_90 : decode b_OP_ofOne 90 = .ok (.i2l, 1) := by decide +kernel
theorem d_OP_ofOne_91 : decode b_OP_ofOne 91 = .ok (.lreturn, 1) := by decide +kernel
theorem wm_OP_128 : Cond.methodLink "SpendScript$Operations" 128 Lib.MathLoose.abs_long.x ∈ sp_ws := (sp_tb (List.mem_of_getElem? (i := 357) (by decide +kernel)))
theorem ws_OP_121 : xh_S "SpendScript$Operations" 121 y_OP_oneIf b_OP_oneIf 1 (some .int) 1 := ⟨(sp_tb (List.mem_of_getElem? (i := 360) (by decide +kernel))), (sp_tb (List.mem_of_getElem? (i := 7) (by decide +kernel))), (sp_tb (List.mem_of_getElem? (i := 358) (by decide +kernel))), ⟨by decide +kernel, by decide +kernel, by decide +kernel⟩, (sp_tb (List.mem_of_getElem? (i := 359) (by decide +kernel)))⟩
abbrev rm_OP_ofOne : Room := { frames := 1, cells := 0, slots := 0, locals := 80 }
def fx_OP_ofOne_b87 (s0 : Int32) (X : xh_T) : Option (Int64 × xh_T) :=
  xh_b (fx_OP_oneIf s0 X) (fun (r1 : Int32) (X1 : xh_T) =>
  some (((r1 : Int32).toInt64), X1))
set_option maxRecDepth 100000 in
set_option maxHeartbeats 4000000 in
theorem jb_OP_ofOne_b87 {p : Program} {l : Launch} {e : Env} {s : State} {m : MethodId} {args : Array Value} {below : List Frame} {meth : Method} {c : Code} {D : va_G} {G : xh_G} (hz : xh_C p s m args c b_OP_ofOne 3 "SpendScript$Operations" D G (xh_A G s.heap.size)) (hr : meth.sig.returnType = (some .long)) (hlk : meth.locks = false) (s0 : Int32) (X : xh_T) : xh_J p l e rm_OP_ofOne s m args below meth c 0 0 D G (xh_A G s.heap.size) 3 (fun r X' => MQ below (xh_Ql D G (xh_A G s.heap.size) r X') args s 0 0 (xh_A G s.heap.size)) 87 [] [.int s0] X (fx_OP_ofOne_b87 s0 X) := by
  unfold fx_OP_ofOne_b87
  refine jr_callSi (As := [.int s0]) (st := []) hz (cx_OP_oneIf l D G hz.2.2.2.2.2.2.1 s0 X) ws_OP_121 ⟨rfl, rfl, Nat.le_of_ble_eq_true rfl, Nat.le_of_ble_eq_true rfl⟩ ⟨Nat.zero_le _, Nat.zero_le _⟩ rfl rfl (Nat.le_of_ble_eq_true rfl) d_OP_ofOne_87 (fun r1 X1 => ?_)
  refine jr_i2l hz d_OP_ofOne_90 ?_
  exact jr_lret hz hr hlk d_OP_ofOne_91
def fx_OP_ofOne_b71 (s0 : Int32) (X : xh_T) : Option (Int64 × xh_T) :=
  xh_b (fx_OP_oneIf s0 X) (fun (r5 : Int32) (X2 : xh_T) =>
  some (((r5 : Int32).toInt64), X2))
set_option maxRecDepth 100000 in
set_option maxHeartbeats 4000000 in
theorem jb_OP_ofOne_b71 {p : Program} {l : Launch} {e : Env} {s : State} {m : MethodId} {args : Array Value} {below : List Frame} {meth : Method} {c : Code} {D : va_G} {G : xh_G} (hz : xh_C p s m args c b_OP_ofOne 3 "SpendScript$Operations" D G (xh_A G s.heap.size)) (hr : meth.sig.returnType = (some .long)) (hlk : meth.locks = false) (s0 : Int32) (X : xh_T) : xh_J p l e rm_OP_ofOne s m args below meth c 0 0 D G (xh_A G s.heap.size) 3 (fun r X' => MQ below (xh_Ql D G (xh_A G s.heap.size) r X') args s 0 0 (xh_A G s.heap.size)) 71 [] [.int s0] X (fx_OP_ofOne_b71 s0 X) := by
  unfold fx_OP_ofOne_b71
  refine jr_callSi (As := [.int s0]) (st := []) hz (cx_OP_oneIf l D G hz.2.2.2.2.2.2.1 s0 X) ws_OP_121 ⟨rfl, rfl, Nat.le_of_ble_eq_true rfl, Nat.le_of_ble_eq_true rfl⟩ ⟨Nat.zero_le _, Nat.zero_le _⟩ rfl rfl (Nat.le_of_ble_eq_true rfl) d_OP_ofOne_71 (fun r5 X2 => ?_)
  refine jr_i2l hz d_OP_ofOne_74 ?_
  exact jr_lret hz hr hlk d_OP_ofOne_75
def fx_OP_ofOne (p1 : Int32) (p2 : Int64) (X : xh_T) : Option (Int64 × xh_T) :=
  if p1 = 139 then
  some ((p2 + 1), X)
  else if p1 = 140 then
  some ((p2 - 1), X)
  else if p1 = 141 then
  if (lg_cmp p2 0) = 0 then
  fx_OP_ofOne_b87 0 X
  else fx_OP_ofOne_b87 1 X
  else if p1 = 142 then
  if (lg_cmp p2 0) = 0 then
  fx_OP_ofOne_b87 0 X
  else fx_OP_ofOne_b87 1 X
  else if p1 = 143 then
  some ((-p2), X)
  else if p1 = 144 then
  some ((if 0 < p2 then p2 else -p2), X)
  else if p1 = 145 then
  if (lg_cmp p2 0) = 0 then
  fx_OP_ofOne_b71 1 X
  else fx_OP_ofOne_b71 0 X
  else if (lg_cmp p2 0) = 0 then
  fx_OP_ofOne_b87 0 X
  else fx_OP_ofOne_b87 1 X
set_option maxRecDepth 100000 in
set_option maxHeartbeats 4000000 in
theorem cx_OP_ofOne (l : Launch) (D : va_G) (G : xh_G) (hD : xh_D G) (p1 : Int32) (p2 : Int64) (X : xh_T) : xh_M xh_Ql l D G y_OP_ofOne b_OP_ofOne 3 (some .long) rm_OP_ofOne [.int p1, .long p2] X (fx_OP_ofOne p1 p2 X) := by
  refine xh_enter (ls := [(0, .int p1), (1, .long p2)]) hD (by decide +kernel) (Nat.le_of_ble_eq_true rfl) rfl ?_
  intro p e s m args below meth c hz hr hlk
  unfold fx_OP_ofOne
  refine jr_iload_n hz d_OP_ofOne_0 rfl 0 rfl ?_
  refine jr_ite (fun hs0 => ?_) (fun hs0 => ?_)
  · refine jr_tableIn (off := 43) (tgt := 44) hz d_OP_ofOne_1 (by rw [hs0]; decide) (by rw [hs0]; decide) (by rw [hs0]; first | done | decide | rfl) (by decide) ?_
    refine jr_lload_n hz d_OP_ofOne_44 rfl 1 rfl ?_
    refine jr_lconst (v := 1) hz d_OP_ofOne_45 (by decide) ?_
    refine jr_ladd hz d_OP_ofOne_46 ?_
    exact jr_lret hz hr hlk d_OP_ofOne_47
  refine jr_ite (fun hs1 => ?_) (fun hs1 => ?_)
  · refine jr_tableIn (off := 47) (tgt := 48) hz d_OP_ofOne_1 (by rw [hs1]; decide) (by rw [hs1]; decide) (by rw [hs1]; first | done | decide | rfl) (by decide) ?_
    refine jr_lload_n hz d_OP_ofOne_48 rfl 1 rfl ?_
    refine jr_lconst (v := 1) hz d_OP_ofOne_49 (by decide) ?_
    refine jr_lsub hz d_OP_ofOne_50 ?_
    exact jr_lret hz hr hlk d_OP_ofOne_51
  refine jr_ite (fun hs2 => ?_) (fun hs2 => ?_)
  · refine jr_tableIn (off := 75) (tgt := 76) hz d_OP_ofOne_1 (by rw [hs2]; decide) (by rw [hs2]; decide) (by rw [hs2]; first | done | decide | rfl) (by decide) ?_
    refine jr_lload_n hz d_OP_ofOne_76 rfl 1 rfl ?_
    refine jr_lconst (v := 0) hz d_OP_ofOne_77 (by decide) ?_
    refine jr_lcmp hz d_OP_ofOne_78 ?_
    refine jr_if_eq (tgt := 86) hz d_OP_ofOne_79 (by decide) ?_ ?_
    · refine jr_iconst (v := 0) hz d_OP_ofOne_86 (by decide) ?_
      refine jr_sub (ls' := []) [] rfl ?_
      exact jb_OP_ofOne_b87 hz hr hlk 0 X
    · refine jr_iconst (v := 1) hz d_OP_ofOne_82 (by decide) ?_
      refine jr_goto (tgt := 87) hz d_OP_ofOne_83 (by decide) ?_
      refine jr_sub (ls' := []) [] rfl ?_
      exact jb_OP_ofOne_b87 hz hr hlk 1 X
  refine jr_ite (fun hs3 => ?_) (fun hs3 => ?_)
  · refine jr_tableIn (off := 75) (tgt := 76) hz d_OP_ofOne_1 (by rw [hs3]; decide) (by rw [hs3]; decide) (by rw [hs3]; first | done | decide | rfl) (by decide) ?_
    refine jr_lload_n hz d_OP_ofOne_76 rfl 1 rfl ?_
    refine jr_lconst (v := 0) hz d_OP_ofOne_77 (by decide) ?_
    refine jr_lcmp hz d_OP_ofOne_78 ?_
    refine jr_if_eq (tgt := 86) hz d_OP_ofOne_79 (by decide) ?_ ?_
    · refine jr_iconst (v := 0) hz d_OP_ofOne_86 (by decide) ?_
      refine jr_sub (ls' := []) [] rfl ?_
      exact jb_OP_ofOne_b87 hz hr hlk 0 X
    · refine jr_iconst (v := 1) hz d_OP_ofOne_82 (by decide) ?_
      refine jr_goto (tgt := 87) hz d_OP_ofOne_83 (by decide) ?_
      refine jr_sub (ls' := []) [] rfl ?_
      exact jb_OP_ofOne_b87 hz hr hlk 1 X
  refine jr_ite (fun hs4 => ?_) (fun hs4 => ?_)
  · refine jr_tableIn (off := 51) (tgt := 52) hz d_OP_ofOne_1 (by rw [hs4]; decide) (by rw [hs4]; decide) (by rw [hs4]; first | done | decide | rfl) (by decide) ?_
    refine jr_lload_n hz d_OP_ofOne_52 rfl 1 rfl ?_
    refine jr_lneg hz d_OP_ofOne_53 ?_
    exact jr_lret hz hr hlk d_OP_ofOne_54
  refine jr_ite (fun hs5 => ?_) (fun hs5 => ?_)
  · refine jr_tableIn (off := 54) (tgt := 55) hz d_OP_ofOne_1 (by rw [hs5]; decide) (by rw [hs5]; decide) (by rw [hs5]; first | done | decide | rfl) (by decide) ?_
    refine jr_lload_n hz d_OP_ofOne_55 rfl 1 rfl ?_
    refine jr_mabs_long hz wm_OP_128 wa_mabs_long_static wa_init_Math wa_mabs_long_code (Nat.le_of_ble_eq_true rfl) (Nat.le_of_ble_eq_true rfl) ⟨Nat.zero_le _, Nat.zero_le _⟩ d_OP_ofOne_56 ?_
    exact jr_lret hz hr hlk d_OP_ofOne_59
  refine jr_ite (fun hs6 => ?_) (fun hs6 => ?_)
  · refine jr_tableIn (off := 59) (tgt := 60) hz d_OP_ofOne_1 (by rw [hs6]; decide) (by rw [hs6]; decide) (by rw [hs6]; first | done | decide | rfl) (by decide) ?_
    refine jr_lload_n hz d_OP_ofOne_60 rfl 1 rfl ?_
    refine jr_lconst (v := 0) hz d_OP_ofOne_61 (by decide) ?_
    refine jr_lcmp hz d_OP_ofOne_62 ?_
    refine jr_if_ne (tgt := 70) hz d_OP_ofOne_63 (by decide) ?_ ?_
    · refine jr_iconst (v := 0) hz d_OP_ofOne_70 (by decide) ?_
      refine jr_sub (ls' := []) [] rfl ?_
      exact jb_OP_ofOne_b71 hz hr hlk 0 X
    · refine jr_iconst (v := 1) hz d_OP_ofOne_66 (by decide) ?_
      refine jr_goto (tgt := 71) hz d_OP_ofOne_67 (by decide) ?_
      refine jr_sub (ls' := []) [] rfl ?_
      exact jb_OP_ofOne_b71 hz hr hlk 1 X
  refine jr_tableOut (tgt := 76) hz d_OP_ofOne_1 (by have := lv_neT (k := 139) hs0 (show _ = (139 : Int) by decide); have := lv_neT (k := 140) hs1 (show _ = (140 : Int) by decide); have := lv_neT (k := 141) hs2 (show _ = (141 : Int) by decide); have := lv_neT (k := 142) hs3 (show _ = (142 : Int) by decide); have := lv_neT (k := 143) hs4 (show _ = (143 : Int) by decide); have := lv_neT (k := 144) hs5 (show _ = (144 : Int) by decide); have := lv_neT (k := 145) hs6 (show _ = (145 : Int) by decide); omega) (by decide) ?_
  refine jr_lload_n hz d_OP_ofOne_76 rfl 1 rfl ?_
  refine jr_lconst (v := 0) hz d_OP_ofOne_77 (by decide) ?_
  refine jr_lcmp hz d_OP_ofOne_78 ?_
  refine jr_if_eq (tgt := 86) hz d_OP_ofOne_79 (by decide) ?_ ?_
  · refine jr_iconst (v := 0) hz d_OP_ofOne_86 (by decide) ?_
    refine jr_sub (ls' := []) [] rfl ?_
    exact jb_OP_ofOne_b87 hz hr hlk 0 X
  · refine jr_iconst (v := 1) hz d_OP_ofOne_82 (by decide) ?_
    refine jr_goto (tgt := 87) hz d_OP_ofOne_83 (by decide) ?_
    refine jr_sub (ls' := []) [] rfl ?_
    exact jb_OP_ofOne_b87 hz hr hlk 1 X
theorem d_OP_pushNumber_0 : decode b_OP_pushNumber 0 = .ok (.aload_n 0, 1) := by decide +kernel
theorem d_OP_pushNumber_1 : decode b_OP_pushNumber 1 = .ok (.getfield 9, 3) := by decide +kernel
theorem d_OP_pushNumber_4 : decode b_OP_pushNumber 4 = .ok (.invokevirtual 55, 3) := by decide +kernel
theorem d_OP_pushNumber_7 : decode b_OP_pushNumber 7 = .ok (.lload_n 1, 1) := by decide +kernel
theorem d_OP_pushNumber_8 : decode b_OP_pushNumber 8 = .ok (.invokevirtual 167, 3) := by decide +kernel
theorem d_OP_pushNumber_11 : decode b_OP_pushNumber 11 = .ok (.return_, 1) := by decide +kernel
theorem wv_OP_55 : xh_V "SpendScript$Operations" 55 1 y_IS_push b_IS_push 1 (some (.object "SpendScript$ByteString")) 0 := ⟨(sp_tb (List.mem_of_getElem? (i := 255) (by decide +kernel))), (sp_tb (List.mem_of_getElem? (i := 4) (by decide +kernel))), (sp_tb (List.mem_of_getElem? (i := 365) (by decide +kernel))), ⟨by decide +kernel, by decide +kernel, by decide +kernel⟩, (sp_tb (List.mem_of_getElem? (i := 253) (by decide +kernel))), (sp_tb (List.mem_of_getElem? (i := 254) (by decide +kernel))), F_IS, 3, rfl⟩
theorem wv_OP_167 : xh_V "SpendScript$Operations" 167 0 y_BS_becomeNumber b_BS_becomeNumber 7 none 1 := ⟨(sp_tb (List.mem_of_getElem? (i := 267) (by decide +kernel))), (sp_tb (List.mem_of_getElem? (i := 2) (by decide +kernel))), (sp_tb (List.mem_of_getElem? (i := 366) (by decide +kernel))), ⟨by decide +kernel, by decide +kernel, by decide +kernel⟩, (sp_tb (List.mem_of_getElem? (i := 265) (by decide +kernel))), (sp_tb (List.mem_of_getElem? (i := 266) (by decide +kernel))), F_BS, 2, rfl⟩
abbrev rm_OP_pushNumber : Room := { frames := 2, cells := 0, slots := 0, locals := 106 }
def fx_OP_pushNumber (p1 : Int64) (X : xh_T) : Option (Unit × xh_T) :=
  xh_b (fx_IS_push 10 X) (fun (q4 : Nat) (X1 : xh_T) =>
  xh_b (fx_BS_becomeNumber q4 p1 X1) (fun (_ : Unit) (X2 : xh_T) =>
  some ((), X2)))
set_option maxRecDepth 100000 in
set_option maxHeartbeats 4000000 in
theorem cx_OP_pushNumber (l : Launch) (D : va_G) (G : xh_G) (hD : xh_D G) (p1 : Int64) (X : xh_T) : xh_M xh_Qv l D G y_OP_pushNumber b_OP_pushNumber 3 none rm_OP_pushNumber [.ref (G.1 205), .long p1] X (fx_OP_pushNumber p1 X) := by
  refine xh_enter (ls := [(0, .ref (G.1 205)), (1, .long p1)]) hD (by decide +kernel) (Nat.le_of_ble_eq_true rfl) rfl ?_
  intro p e s m args below meth c hz hr hlk
  unfold fx_OP_pushNumber
  refine jr_aload_n hz d_OP_pushNumber_0 rfl 0 rfl ?_
  refine jr_getr (j := 0) (t := 10) hz lq_205 ly_205 rfl wf_OP_9 d_OP_pushNumber_1 ?_
  refine jr_callVr (As := []) (a := 10) (ci := 1) (st := []) hz (cx_IS_push l D G hz.2.2.2.2.2.2.1 10 X) (fun z h => sp_is_v (xh_k_t h)) wv_OP_55 ⟨rfl, rfl, Nat.le_of_ble_eq_true rfl, Nat.le_of_ble_eq_true rfl⟩ ⟨Nat.zero_le _, Nat.zero_le _⟩ rfl rfl (Nat.le_of_ble_eq_true rfl) d_OP_pushNumber_4 (fun q4 X1 => ?_)
  refine jr_lload_n hz d_OP_pushNumber_7 rfl 1 rfl ?_
  refine jr_callVv (As := [.long p1]) (a := q4) (ci := 0) (st := []) hz (cx_BS_becomeNumber l D G hz.2.2.2.2.2.2.1 q4 p1 X1) (fun z h => sp_bs_v (xh_k_t h)) wv_OP_167 ⟨rfl, rfl, Nat.le_of_ble_eq_true rfl, Nat.le_of_ble_eq_true rfl⟩ ⟨Nat.zero_le _, Nat.zero_le _⟩ rfl rfl (Nat.le_of_ble_eq_true rfl) d_OP_pushNumber_8 (fun _ X2 => ?_)
  exact jr_vret hz hr hlk d_OP_pushNumber_11
theorem d_OP_ofTwo_0 : decode b_OP_ofTwo 0 = .ok (.iload_n 0, 1) := by decide +kernel
theorem d_OP_ofTwo_1 : decode b_OP_ofTwo 1 = .ok (.tableswitch 237 147 163 #[83, 87, 237, 237, 237, 237, 237, 91, 113, 135, 237, 151, 167, 183, 199, 215, 231], 83) := by decide +kernel
theorem d_OP_ofTwo_84 : decode b_OP_ofTwo 84 = .ok (.lload_n 1, 1) := by decide +kernel
theorem d_OP_ofTwo_85 : decode b_OP_ofTwo 85 = .ok (.lload_n 3, 1) := by decide +kernel
theorem d_OP_ofTwo_86 : decode b_OP_ofTwo 86 = .ok (.ladd, 1) := by decide +kernel
theorem d_OP_ofTwo_87 : decode b_OP_ofTwo 87 = .ok (.lreturn, 1) := by decide +kernel
theorem d_OP_ofTwo_88 : decode b_OP_ofTwo 88 = .ok (.lload_n 1, 1) := by decide +kernel
theorem d_OP_ofTwo_89 : decode b_OP_ofTwo 89 = .ok (.lload_n 3, 1) := by decide +kernel
theorem d_OP_ofTwo_90 : decode b_OP_ofTwo 90 = .ok (.lsub, 1) := by decide +kernel
theorem d_OP_ofTwo_91 : decode b_OP_ofTwo 91 = .ok (.lreturn, 1) := by decide +kernel
theorem d_OP_ofTwo_92 : decode b_OP_ofTwo 92 = .ok (.lload_n 1, 1) := by decide +kernel
theorem d_OP_ofTwo_93 : decode b_OP_ofTwo 93 = .ok (.lconst 0, 1) := by decide +kernel
theorem d_OP_ofTwo_94 : decode b_OP_ofTwo 94 = .ok (.lcmp, 1) := by decide +kernel
theorem d_OP_ofTwo_95 : decode b_OP_ofTwo 95 = .ok (.ifCond .eq 13, 3) := by decide +kernel
theorem d_OP_ofTwo_98 : decode b_OP_ofTwo 98 = .ok (.lload_n 3, 1) := by decide +kernel
theorem d_OP_ofTwo_99 : decode b_OP_ofTwo 99 = .ok (.lconst 0, 1) := by decide +kernel
theorem d_OP_ofTwo_100 : decode b_OP_ofTwo 100 = .ok (.lcmp, 1) := by decide +kernel
theorem d_OP_ofTwo_101 : decode b_OP_ofTwo 101 = .ok (.ifCond .eq 7, 3) := by decide +kernel
theorem d_OP_ofTwo_104 : decode b_OP_ofTwo 104 = .ok (.iconst 1, 1) := by decide +kernel
theorem d_OP_ofTwo_105 : decode b_OP_ofTwo 105 = .ok (.goto 4, 3) := by decide +kernel
theorem d_OP_ofTwo_108 : decode b_OP_ofTwo 108 = .ok (.iconst 0, 1) := by decide +kernel
theorem d_OP_ofTwo_109 : decode b_OP_ofTwo 109 = .ok (.invokestatic 121, 3) := by decide +kernel
theorem d_OP_ofTwo_112 : decode b_OP_ofTwo 112 = .ok (.i2l, 1) := by decide +kernel
theorem d_OP_ofTwo_113 : decode b_OP_ofTwo 113 = .ok (.lreturn, 1) := by decide +kernel
theorem d_OP_ofTwo_114 : decode b_OP_ofTwo 114 = .ok (.lload_n 1, 1) := by decide +kernel
theorem d_OP_ofTwo_115 : decode b_OP_ofTwo 115 = .ok (.lconst 0, 1) := by decide +kernel
theorem d_OP_ofTwo_116 : decode b_OP_ofTwo 116 = .ok (.lcmp, 1) := by decide +kernel
theorem d_OP_ofTwo_117 : decode b_OP_ofTwo 117 = .ok (.ifCond .ne 9, 3) := by decide +kernel
theorem d_OP_ofTwo_120 : decode b_OP_ofTwo 120 = .ok (.lload_n 3, 1) := by decide +kernel
theorem d_OP_ofTwo_121 : decode b_OP_ofTwo 121 = .ok (.lconst 0, 1) := by decide +kernel
theorem d_OP_ofTwo_122 : decode b_OP_ofTwo 122 = .ok (.lcmp, 1) := by decide +kernel
theorem d_OP_ofTwo_123 : decode b_OP_ofTwo 123 = .ok (.ifCond .eq 7, 3) := by decide +kernel
theorem d_OP_ofTwo_126 : decode b_OP_ofTwo 126 = .ok (.iconst 1, 1) := by decide +kernel
theorem d_OP_ofTwo_127 : decode b_OP_ofTwo 127 = .ok (.goto 4, 3) := by decide +kernel
theorem d_OP_ofTwo_130 : decode b_OP_ofTwo 130 = .ok (.iconst 0, 1) := by decide +kernel
theorem d_OP_ofTwo_131 : decode b_OP_ofTwo 131 = .ok (.invokestatic 121, 3) := by decide +kernel
theorem d_OP_ofTwo_134 : decode b_OP_ofTwo 134 = .ok (.i2l, 1) := by decide +kernel
theorem d_OP_ofTwo_135 : decode b_OP_ofTwo 135 = .ok (.lreturn, 1) := by decide +kernel
theorem d_OP_ofTwo_136 : decode b_OP_ofTwo 136 = .ok (.lload_n 1, 1) := by decide +kernel
theorem d_OP_ofTwo_137 : decode b_OP_ofTwo 137 = .ok (.lload_n 3, 1) := by decide +kernel
theorem d_OP_ofTwo_138 : decode b_OP_ofTwo 138 = .ok (.lcmp, 1) := by decide +kernel
theorem d_OP_ofTwo_139 : decode b_OP_ofTwo 139 = .ok (.ifCond .ne 7, 3) := by decide +kernel
theorem d_OP_ofTwo_142 : decode b_OP_ofTwo 142 = .ok (.iconst 1, 1) := by decide +kernel
theorem d_OP_ofTwo_143 : decode b_OP_ofTwo 143 = .ok (.goto 4, 3) := by decide +kernel
theorem d_OP_ofTwo_146 : decode b_OP_ofTwo 146 = .ok (.iconst 0, 1) := by decide +kernel
theorem d_OP_ofTwo_147 : decode b_OP_ofTwo 147 = .ok (.invokestatic 121, 3) := by decide +kernel
theorem d_OP_ofTwo_150 : decode b_OP_ofTwo 150 = .ok (.i2l, 1) := by decide +kernel
theorem d_OP_ofTwo_151 : decode b_OP_ofTwo 151 = .ok (.lreturn, 1) := by decide +kernel
theorem d_OP_ofTwo_152 : decode b_OP_ofTwo 152 = .ok (.lload_n 1, 1) := by decide +kernel
theorem d_OP_ofTwo_153 : decode b_OP_ofTwo 153 = .ok (.lload_n 3, 1) := by decide +kernel
theorem d_OP_ofTwo_154 : decode b_OP_ofTwo 154 = .ok (.lcmp, 1) := by decide +kernel
theorem d_OP_ofTwo_155 : decode b_OP_ofTwo 155 = .ok (.ifCond .eq 7, 3) := by decide +kernel
theorem d_OP_ofTwo_158 : decode b_OP_ofTwo 158 = .ok (.iconst 1, 1) := by decide +kernel
theorem d_OP_ofTwo_159 : decode b_OP_ofTwo 159 = .ok (.goto 4, 3) := by decide +kernel
theorem d_OP_ofTwo_162 : decode b_OP_ofTwo 162 = .ok (.iconst 0, 1) := by decide +kernel
theorem d_OP_ofTwo_163 : decode b_OP_ofTwo 163 = .ok (.invokestatic 121, 3) := by decide +kernel
theorem d_OP_ofTwo_166 : decode b_OP_ofTwo 166 = .ok (.i2l, 1) := by decide +kernel
theorem d_OP_ofTwo_167 : decode b_OP_ofTwo 167 = .ok (.lreturn, 1) := by decide +kernel
theorem d_OP_ofTwo_168 : decode b_OP_ofTwo 168 = .ok (.lload_n 1, 1) := by decide +kernel
theorem d_OP_ofTwo_169 : decode b_OP_ofTwo 169 = .ok (.lload_n 3, 1) := by decide +kernel
theorem d_OP_ofTwo_170 : decode b_OP_ofTwo 170 = .ok (.lcmp, 1) := by decide +kernel
theorem d_OP_ofTwo_171 : decode b_OP_ofTwo 171 = .ok (.ifCond .ge 7, 3) := by decide +kernel
theorem d_OP_ofTwo_174 : decode b_OP_ofTwo 174 = .ok (.iconst 1, 1) := by decide +kernel
theorem d_OP_ofTwo_175 : decode b_OP_ofTwo 175 = .ok (.goto 4, 3) := by decide +kernel
theorem d_OP_ofTwo_178 : decode b_OP_ofTwo 178 = .ok (.iconst 0, 1) := by decide +kernel
theorem d_OP_ofTwo_179 : decode b_OP_ofTwo 179 = .ok (.invokestatic 121, 3) := by decide +kernel
theorem d_OP_ofTwo_182 : decode b_OP_ofTwo 182 = .ok (.i2l, 1) := by decide +kernel
theorem d_OP_ofTwo_183 : decode b_OP_ofTwo 183 = .ok (.lreturn, 1) := by decide +kernel
theorem d_OP_ofTwo_184 : decode b_OP_ofTwo 184 = .ok (.lload_n 1, 1) := by decide +kernel
theorem d_OP_ofTwo_185 : decode b_OP_ofTwo 185 = .ok (.lload_n 3, 1) := by decide +kernel
theorem d_OP_ofTwo_186 : decode b_OP_ofTwo 186 = .ok (.lcmp, 1) := by decide +kernel
theorem d_OP_ofTwo_187 : decode b_OP_ofTwo 187 = .ok (.ifCond .le 7, 3) := by decide +kernel
theorem d_OP_ofTwo_190 : decode b_OP_ofTwo 190 = .ok (.iconst 1, 1) := by decide +kernel
theorem d_OP_ofTwo_191 : decode b_OP_ofTwo 191 = .ok (.goto 4, 3) := by decide +kernel
theorem d_OP_ofTwo_194 : decode b_OP_ofTwo 194 = .ok (.iconst 0, 1) := by decide +kernel
theorem d_OP_ofTwo_195 : decode b_OP_ofTwo 195 = .ok (.invokestatic 121, 3) := by decide +kernel
theorem d_OP_ofTwo_198 : decode b_OP_ofTwo 198 = .ok (.i2l, 1) := by decide +kernel
theorem d_OP_ofTwo_199 : decode b_OP_ofTwo 199 = .ok (.lreturn, 1) := by decide +kernel
theorem d_OP_ofTwo_200 : decode b_OP_ofTwo 200 = .ok (.lload_n 1, 1) := by decide +kernel
theorem d_OP_ofTwo_201 : decode b_OP_ofTwo 201 = .ok (.lload_n 3, 1) := by decide +kernel
theorem d_OP_ofTwo_202 : decode b_OP_ofTwo 202 = .ok (.lcmp, 1) := by decide +kernel
theorem d_OP_ofTwo_203 : decode b_OP_ofTwo 203 = .ok (.ifCond .gt 7, 3) := by decide +kernel
theorem d_OP_ofTwo_206 : decode b_OP_ofTwo 206 = .ok (.iconst 1, 1) := by decide +kernel
theorem d_OP_ofTwo_207 : decode b_OP_ofTwo 207 = .ok (.goto 4, 3) := by decide +kernel
theorem d_OP_ofTwo_210 : decode b_OP_ofTwo 210 = .ok (.iconst 0, 1) := by decide +kernel
theorem d_OP_ofTwo_211 : decode b_OP_ofTwo 211 = .ok (.invokestatic 121, 3) := by decide +kernel
theorem d_OP_ofTwo_214 : decode b_OP_ofTwo 214 = .ok (.i2l, 1) := by decide +kernel
theorem d_OP_ofTwo_215 : decode b_OP_ofTwo 215 = .ok (.lreturn, 1) := by decide +kernel
theorem d_OP_ofTwo_216 : decode b_OP_ofTwo 216 = .ok (.lload_n 1, 1) := by decide +kernel
theorem d_OP_ofTwo_217 : decode b_OP_ofTwo 217 = .ok (.lload_n 3, 1) := by decide +kernel
theorem d_OP_ofTwo_218 : decode b_OP_ofTwo 218 = .ok (.lcmp, 1) := by decide +kernel
theorem d_OP_ofTwo_219 : decode b_OP_ofTwo 219 = .ok (.ifCond .lt 7, 3) := by decide +kernel
theorem d_OP_ofTwo_222 : decode b_OP_ofTwo 222 = .ok (.iconst 1, 1) := by decide +kernel
theorem d_OP_ofTwo_223 : decode b_OP_ofTwo 223 = .ok (.goto 4, 3) := by decide +kernel
theorem d_OP_ofTwo_226 : decode b_OP_ofTwo 226 = .ok (.iconst 0, 1) := by decide +kernel
theorem d_OP_ofTwo_227 : decode b_OP_ofTwo 227 = .ok (.invokestatic 121, 3) := by decide +kernel
theorem d_OP_ofTwo_230 : decode b_OP_ofTwo 230 = .ok (.i2l, 1) := by decide +kernel
theorem d_OP_ofTwo_231 : decode b_OP_ofTwo 231 = .ok (.lreturn, 1) := by decide +kernel
theorem d_OP_ofTwo_232 : decode b_OP_ofTwo 232 = .ok (.lload_n 1, 1) := by decide +kernel
theorem d_OP_ofTwo_233 : decode b_OP_ofTwo 233 = .ok (.lload_n 3, 1) := by decide +kernel
theorem d_OP_ofTwo_234 : decode b_OP_ofTwo 234 = .ok (.invokestatic 134, 3) := by decide +kernel
theorem d_OP_ofTwo_237 : decode b_OP_ofTwo 237 = .ok (.lreturn, 1) := by decide +kernel
theorem d_OP_ofTwo_238 : decode b_OP_ofTwo 238 = .ok (.lload_n 1, 1) := by decide +kernel
theorem d_OP_ofTwo_239 : decode b_OP_ofTwo 239 = .ok (.lload_n 3, 1) := by decide +kernel
theorem d_OP_ofTwo_240 : decode b_OP_ofTwo 240 = .ok (.invokestatic 138, 3) := by decide +kernel
theorem d_OP_ofTwo_243 : decode b_OP_ofTwo 243 = .ok (.lreturn, 1) := by decide +kernel
theorem wm_OP_138 : Cond.methodLink "SpendScript$Operations" 138 Lib.MathLoose.max_long.x ∈ sp_ws := (sp_tb (List.mem_of_getElem? (i := 373) (by decide +kernel)))
theorem wm_OP_134 : Cond.methodLink "SpendScript$Operations" 134 Lib.MathLoose.min_long.x ∈ sp_ws := (sp_tb (List.mem_of_getElem? (i := 370) (by decide +kernel)))
abbrev rm_OP_ofTwo : Room := { frames := 1, cells := 0, slots := 0, locals := 80 }
def fx_OP_ofTwo_b109 (s0 : Int32) (X : xh_T) : Option (Int64 × xh_T) :=
  xh_b (fx_OP_oneIf s0 X) (fun (r1 : Int32) (X1 : xh_T) =>
  some (((r1 : Int32).toInt64), X1))
set_option maxRecDepth 100000 in
set_option maxHeartbeats 4000000 in
theorem jb_OP_ofTwo_b109 {p : Program} {l : Launch} {e : Env} {s : State} {m : MethodId} {args : Array Value} {below : List Frame} {meth : Method} {c : Code} {D : va_G} {G : xh_G} (hz : xh_C p s m args c b_OP_ofTwo 5 "SpendScript$Operations" D G (xh_A G s.heap.size)) (hr : meth.sig.returnType = (some .long)) (hlk : meth.locks = false) (s0 : Int32) (X : xh_T) : xh_J p l e rm_OP_ofTwo s m args below meth c 0 0 D G (xh_A G s.heap.size) 5 (fun r X' => MQ below (xh_Ql D G (xh_A G s.heap.size) r X') args s 0 0 (xh_A G s.heap.size)) 109 [] [.int s0] X (fx_OP_ofTwo_b109 s0 X) := by
  unfold fx_OP_ofTwo_b109
  refine jr_callSi (As := [.int s0]) (st := []) hz (cx_OP_oneIf l D G hz.2.2.2.2.2.2.1 s0 X) ws_OP_121 ⟨rfl, rfl, Nat.le_of_ble_eq_true rfl, Nat.le_of_ble_eq_true rfl⟩ ⟨Nat.zero_le _, Nat.zero_le _⟩ rfl rfl (Nat.le_of_ble_eq_true rfl) d_OP_ofTwo_109 (fun r1 X1 => ?_)
  refine jr_i2l hz d_OP_ofTwo_112 ?_
  exact jr_lret hz hr hlk d_OP_ofTwo_113
def fx_OP_ofTwo_b131 (s0 : Int32) (X : xh_T) : Option (Int64 × xh_T) :=
  xh_b (fx_OP_oneIf s0 X) (fun (r5 : Int32) (X2 : xh_T) =>
  some (((r5 : Int32).toInt64), X2))
set_option maxRecDepth 100000 in
set_option maxHeartbeats 4000000 in
theorem jb_OP_ofTwo_b131 {p : Program} {l : Launch} {e : Env} {s : State} {m : MethodId} {args : Array Value} {below : List Frame} {meth : Method} {c : Code} {D : va_G} {G : xh_G} (hz : xh_C p s m args c b_OP_ofTwo 5 "SpendScript$Operations" D G (xh_A G s.heap.size)) (hr : meth.sig.returnType = (some .long)) (hlk : meth.locks = false) (s0 : Int32) (X : xh_T) : xh_J p l e rm_OP_ofTwo s m args below meth c 0 0 D G (xh_A G s.heap.size) 5 (fun r X' => MQ below (xh_Ql D G (xh_A G s.heap.size) r X') args s 0 0 (xh_A G s.heap.size)) 131 [] [.int s0] X (fx_OP_ofTwo_b131 s0 X) := by
  unfold fx_OP_ofTwo_b131
  refine jr_callSi (As := [.int s0]) (st := []) hz (cx_OP_oneIf l D G hz.2.2.2.2.2.2.1 s0 X) ws_OP_121 ⟨rfl, rfl, Nat.le_of_ble_eq_true rfl, Nat.le_of_ble_eq_true rfl⟩ ⟨Nat.zero_le _, Nat.zero_le _⟩ rfl rfl (Nat.le_of_ble_eq_true rfl) d_OP_ofTwo_131 (fun r5 X2 => ?_)
  refine jr_i2l hz d_OP_ofTwo_134 ?_
  exact jr_lret hz hr hlk d_OP_ofTwo_135
def fx_OP_ofTwo_b147 (s0 : Int32) (X : xh_T) : Option (Int64 × xh_T) :=
  xh_b (fx_OP_oneIf s0 X) (fun (r9 : Int32) (X3 : xh_T) =>
  some (((r9 : Int32).toInt64), X3))
set_option maxRecDepth 100000 in
set_option maxHeartbeats 4000000 in
theorem jb_OP_ofTwo_b147 {p : Program} {l : Launch} {e : Env} {s : State} {m : MethodId} {args : Array Value} {below : List Frame} {meth : Method} {c : Code} {D : va_G} {G : xh_G} (hz : xh_C p s m args c b_OP_ofTwo 5 "SpendScript$Operations" D G (xh_A G s.heap.size)) (hr : meth.sig.returnType = (some .long)) (hlk : meth.locks = false) (s0 : Int32) (X : xh_T) : xh_J p l e rm_OP_ofTwo s m args below meth c 0 0 D G (xh_A G s.heap.size) 5 (fun r X' => MQ below (xh_Ql D G (xh_A G s.heap.size) r X') args s 0 0 (xh_A G s.heap.size)) 147 [] [.int s0] X (fx_OP_ofTwo_b147 s0 X) := by
  unfold fx_OP_ofTwo_b147
  refine jr_callSi (As := [.int s0]) (st := []) hz (cx_OP_oneIf l D G hz.2.2.2.2.2.2.1 s0 X) ws_OP_121 ⟨rfl, rfl, Nat.le_of_ble_eq_true rfl, Nat.le_of_ble_eq_true rfl⟩ ⟨Nat.zero_le _, Nat.zero_le _⟩ rfl rfl (Nat.le_of_ble_eq_true rfl) d_OP_ofTwo_147 (fun r9 X3 => ?_)
  refine jr_i2l hz d_OP_ofTwo_150 ?_
  exact jr_lret hz hr hlk d_OP_ofTwo_151
def fx_OP_ofTwo_b163 (s0 : Int32) (X : xh_T) : Option (Int64 × xh_T) :=
  xh_b (fx_OP_oneIf s0 X) (fun (r13 : Int32) (X4 : xh_T) =>
  some (((r13 : Int32).toInt64), X4))
set_option maxRecDepth 100000 in
set_option maxHeartbeats 4000000 in
theorem jb_OP_ofTwo_b163 {p : Program} {l : Launch} {e : Env} {s : State} {m : MethodId} {args : Array Value} {below : List Frame} {meth : Method} {c : Code} {D : va_G} {G : xh_G} (hz : xh_C p s m args c b_OP_ofTwo 5 "SpendScript$Operations" D G (xh_A G s.heap.size)) (hr : meth.sig.returnType = (some .long)) (hlk : meth.locks = false) (s0 : Int32) (X : xh_T) : xh_J p l e rm_OP_ofTwo s m args below meth c 0 0 D G (xh_A G s.heap.size) 5 (fun r X' => MQ below (xh_Ql D G (xh_A G s.heap.size) r X') args s 0 0 (xh_A G s.heap.size)) 163 [] [.int s0] X (fx_OP_ofTwo_b163 s0 X) := by
  unfold fx_OP_ofTwo_b163
  refine jr_callSi (As := [.int s0]) (st := []) hz (cx_OP_oneIf l D G hz.2.2.2.2.2.2.1 s0 X) ws_OP_121 ⟨rfl, rfl, Nat.le_of_ble_eq_true rfl, Nat.le_of_ble_eq_true rfl⟩ ⟨Nat.zero_le _, Nat.zero_le _⟩ rfl rfl (Nat.le_of_ble_eq_true rfl) d_OP_ofTwo_163 (fun r13 X4 => ?_)
  refine jr_i2l hz d_OP_ofTwo_166 ?_
  exact jr_lret hz hr hlk d_OP_ofTwo_167
def fx_OP_ofTwo_b179 (s0 : Int32) (X : xh_T) : Option (Int64 × xh_T) :=
  xh_b (fx_OP_oneIf s0 X) (fun (r17 : Int32) (X5 : xh_T) =>
  some (((r17 : Int32).toInt64), X5))
set_option maxRecDepth 100000 in
set_option maxHeartbeats 4000000 in
theorem jb_OP_ofTwo_b179 {p : Program} {l : Launch} {e : Env} {s : State} {m : MethodId} {args : Array Value} {below : List Frame} {meth : Method} {c : Code} {D : va_G} {G : xh_G} (hz : xh_C p s m args c b_OP_ofTwo 5 "SpendScript$Operations" D G (xh_A G s.heap.size)) (hr : meth.sig.returnType = (some .long)) (hlk : meth.locks = false) (s0 : Int32) (X : xh_T) : xh_J p l e rm_OP_ofTwo s m args below meth c 0 0 D G (xh_A G s.heap.size) 5 (fun r X' => MQ below (xh_Ql D G (xh_A G s.heap.size) r X') args s 0 0 (xh_A G s.heap.size)) 179 [] [.int s0] X (fx_OP_ofTwo_b179 s0 X) := by
  unfold fx_OP_ofTwo_b179
  refine jr_callSi (As := [.int s0]) (st := []) hz (cx_OP_oneIf l D G hz.2.2.2.2.2.2.1 s0 X) ws_OP_121 ⟨rfl, rfl, Nat.le_of_ble_eq_true rfl, Nat.le_of_ble_eq_true rfl⟩ ⟨Nat.zero_le _, Nat.zero_le _⟩ rfl rfl (Nat.le_of_ble_eq_true rfl) d_OP_ofTwo_179 (fun r17 X5 => ?_)
  refine jr_i2l hz d_OP_ofTwo_182 ?_
  exact jr_lret hz hr hlk d_OP_ofTwo_183
def fx_OP_ofTwo_b195 (s0 : Int32) (X : xh_T) : Option (Int64 × xh_T) :=
  xh_b (fx_OP_oneIf s0 X) (fun (r21 : Int32) (X6 : xh_T) =>
  some (((r21 : Int32).toInt64), X6))
set_option maxRecDepth 100000 in
set_option maxHeartbeats 4000000 in
theorem jb_OP_ofTwo_b195 {p : Program} {l : Launch} {e : Env} {s : State} {m : MethodId} {args : Array Value} {below : List Frame} {meth : Method} {c : Code} {D : va_G} {G : xh_G} (hz : xh_C p s m args c b_OP_ofTwo 5 "SpendScript$Operations" D G (xh_A G s.heap.size)) (hr : meth.sig.returnType = (some .long)) (hlk : meth.locks = false) (s0 : Int32) (X : xh_T) : xh_J p l e rm_OP_ofTwo s m args below meth c 0 0 D G (xh_A G s.heap.size) 5 (fun r X' => MQ below (xh_Ql D G (xh_A G s.heap.size) r X') args s 0 0 (xh_A G s.heap.size)) 195 [] [.int s0] X (fx_OP_ofTwo_b195 s0 X) := by
  unfold fx_OP_ofTwo_b195
  refine jr_callSi (As := [.int s0]) (st := []) hz (cx_OP_oneIf l D G hz.2.2.2.2.2.2.1 s0 X) ws_OP_121 ⟨rfl, rfl, Nat.le_of_ble_eq_true rfl, Nat.le_of_ble_eq_true rfl⟩ ⟨Nat.zero_le _, Nat.zero_le _⟩ rfl rfl (Nat.le_of_ble_eq_true rfl) d_OP_ofTwo_195 (fun r21 X6 => ?_)
  refine jr_i2l hz d_OP_ofTwo_198 ?_
  exact jr_lret hz hr hlk d_OP_ofTwo_199
def fx_OP_ofTwo_b211 (s0 : Int32) (X : xh_T) : Option (Int64 × xh_T) :=
  xh_b (fx_OP_oneIf s0 X) (fun (r25 : Int32) (X7 : xh_T) =>
  some (((r25 : Int32).toInt64), X7))
set_option maxRecDepth 100000 in
set_option maxHeartbeats 4000000 in
theorem jb_OP_ofTwo_b211 {p : Program} {l : Launch} {e : Env} {s : State} {m : MethodId} {args : Array Value} {below : List Frame} {meth : Method} {c : Code} {D : va_G} {G : xh_G} (hz : xh_C p s m args c b_OP_ofTwo 5 "SpendScript$Operations" D G (xh_A G s.heap.size)) (hr : meth.sig.returnType = (some .long)) (hlk : meth.locks = false) (s0 : Int32) (X : xh_T) : xh_J p l e rm_OP_ofTwo s m args below meth c 0 0 D G (xh_A G s.heap.size) 5 (fun r X' => MQ below (xh_Ql D G (xh_A G s.heap.size) r X') args s 0 0 (xh_A G s.heap.size)) 211 [] [.int s0] X (fx_OP_ofTwo_b211 s0 X) := by
  unfold fx_OP_ofTwo_b211
  refine jr_callSi (As := [.int s0]) (st := []) hz (cx_OP_oneIf l D G hz.2.2.2.2.2.2.1 s0 X) ws_OP_121 ⟨rfl, rfl, Nat.le_of_ble_eq_true rfl, Nat.le_of_ble_eq_true rfl⟩ ⟨Nat.zero_le _, Nat.zero_le _⟩ rfl rfl (Nat.le_of_ble_eq_true rfl) d_OP_ofTwo_211 (fun r25 X7 => ?_)
  refine jr_i2l hz d_OP_ofTwo_214 ?_
  exact jr_lret hz hr hlk d_OP_ofTwo_215
def fx_OP_ofTwo_b227 (s0 : Int32) (X : xh_T) : Option (Int64 × xh_T) :=
  xh_b (fx_OP_oneIf s0 X) (fun (r29 : Int32) (X8 : xh_T) =>
  some (((r29 : Int32).toInt64), X8))
set_option maxRecDepth 100000 in
set_option maxHeartbeats 4000000 in
theorem jb_OP_ofTwo_b227 {p : Program} {l : Launch} {e : Env} {s : State} {m : MethodId} {args : Array Value} {below : List Frame} {meth : Method} {c : Code} {D : va_G} {G : xh_G} (hz : xh_C p s m args c b_OP_ofTwo 5 "SpendScript$Operations" D G (xh_A G s.heap.size)) (hr : meth.sig.returnType = (some .long)) (hlk : meth.locks = false) (s0 : Int32) (X : xh_T) : xh_J p l e rm_OP_ofTwo s m args below meth c 0 0 D G (xh_A G s.heap.size) 5 (fun r X' => MQ below (xh_Ql D G (xh_A G s.heap.size) r X') args s 0 0 (xh_A G s.heap.size)) 227 [] [.int s0] X (fx_OP_ofTwo_b227 s0 X) := by
  unfold fx_OP_ofTwo_b227
  refine jr_callSi (As := [.int s0]) (st := []) hz (cx_OP_oneIf l D G hz.2.2.2.2.2.2.1 s0 X) ws_OP_121 ⟨rfl, rfl, Nat.le_of_ble_eq_true rfl, Nat.le_of_ble_eq_true rfl⟩ ⟨Nat.zero_le _, Nat.zero_le _⟩ rfl rfl (Nat.le_of_ble_eq_true rfl) d_OP_ofTwo_227 (fun r29 X8 => ?_)
  refine jr_i2l hz d_OP_ofTwo_230 ?_
  exact jr_lret hz hr hlk d_OP_ofTwo_231
def fx_OP_ofTwo_b108 (X : xh_T) : Option (Int64 × xh_T) :=
  fx_OP_ofTwo_b109 0 X
set_option maxRecDepth 100000 in
set_option maxHeartbeats 4000000 in
theorem jb_OP_ofTwo_b108 {p : Program} {l : Launch} {e : Env} {s : State} {m : MethodId} {args : Array Value} {below : List Frame} {meth : Method} {c : Code} {D : va_G} {G : xh_G} (hz : xh_C p s m args c b_OP_ofTwo 5 "SpendScript$Operations" D G (xh_A G s.heap.size)) (hr : meth.sig.returnType = (some .long)) (hlk : meth.locks = false) (X : xh_T) : xh_J p l e rm_OP_ofTwo s m args below meth c 0 0 D G (xh_A G s.heap.size) 5 (fun r X' => MQ below (xh_Ql D G (xh_A G s.heap.size) r X') args s 0 0 (xh_A G s.heap.size)) 108 [] [] X (fx_OP_ofTwo_b108 X) := by
  unfold fx_OP_ofTwo_b108
  refine jr_iconst (v := 0) hz d_OP_ofTwo_108 (by decide) ?_
  refine jr_sub (ls' := []) [] rfl ?_
  exact jb_OP_ofTwo_b109 hz hr hlk 0 X
def fx_OP_ofTwo_b126 (X : xh_T) : Option (Int64 × xh_T) :=
  fx_OP_ofTwo_b131 1 X
set_option maxRecDepth 100000 in
set_option maxHeartbeats 4000000 in
theorem jb_OP_ofTwo_b126 {p : Program} {l : Launch} {e : Env} {s : State} {m : MethodId} {args : Array Value} {below : List Frame} {meth : Method} {c : Code} {D : va_G} {G : xh_G} (hz : xh_C p s m args c b_OP_ofTwo 5 "SpendScript$Operations" D G (xh_A G s.heap.size)) (hr : meth.sig.returnType = (some .long)) (hlk : meth.locks = false) (X : xh_T) : xh_J p l e rm_OP_ofTwo s m args below meth c 0 0 D G (xh_A G s.heap.size) 5 (fun r X' => MQ below (xh_Ql D G (xh_A G s.heap.size) r X') args s 0 0 (xh_A G s.heap.size)) 126 [] [] X (fx_OP_ofTwo_b126 X) := by
  unfold fx_OP_ofTwo_b126
  refine jr_iconst (v := 1) hz d_OP_ofTwo_126 (by decide) ?_
  refine jr_goto (tgt := 131) hz d_OP_ofTwo_127 (by decide) ?_
  refine jr_sub (ls' := []) [] rfl ?_
  exact jb_OP_ofTwo_b131 hz hr hlk 1 X
def fx_OP_ofTwo (p1 : Int32) (p2 : Int64) (p3 : Int64) (X : xh_T) : Option (Int64 × xh_T) :=
  if p1 = 147 then
  some ((p2 + p3), X)
  else if p1 = 148 then
  some ((p2 - p3), X)
  else if p1 = 149 then
  some ((if p3 < p2 then p2 else p3), X)
  else if p1 = 150 then
  some ((if p3 < p2 then p2 else p3), X)
  else if p1 = 151 then
  some ((if p3 < p2 then p2 else p3), X)
  else if p1 = 152 then
  some ((if p3 < p2 then p2 else p3), X)
  else if p1 = 153 then
  some ((if p3 < p2 then p2 else p3), X)
  else if p1 = 154 then
  if (lg_cmp p2 0) = 0 then
  fx_OP_ofTwo_b108 X
  else if (lg_cmp p3 0) = 0 then
  fx_OP_ofTwo_b108 X
  else fx_OP_ofTwo_b109 1 X
  else if p1 = 155 then
  if (lg_cmp p2 0) = 0 then
  if (lg_cmp p3 0) = 0 then
  fx_OP_ofTwo_b131 0 X
  else fx_OP_ofTwo_b126 X
  else fx_OP_ofTwo_b126 X
  else if p1 = 156 then
  if (lg_cmp p2 p3) = 0 then
  fx_OP_ofTwo_b147 1 X
  else fx_OP_ofTwo_b147 0 X
  else if p1 = 157 then
  some ((if p3 < p2 then p2 else p3), X)
  else if p1 = 158 then
  if (lg_cmp p2 p3) = 0 then
  fx_OP_ofTwo_b163 0 X
  else fx_OP_ofTwo_b163 1 X
  else if p1 = 159 then
  if 0 ≤ (lg_cmp p2 p3) then
  fx_OP_ofTwo_b179 0 X
  else fx_OP_ofTwo_b179 1 X
  else if p1 = 160 then
  if (lg_cmp p2 p3) ≤ 0 then
  fx_OP_ofTwo_b195 0 X
  else fx_OP_ofTwo_b195 1 X
  else if p1 = 161 then
  if 0 < (lg_cmp p2 p3) then
  fx_OP_ofTwo_b211 0 X
  else fx_OP_ofTwo_b211 1 X
  else if p1 = 162 then
  if (lg_cmp p2 p3) < 0 then
  fx_OP_ofTwo_b227 0 X
  else fx_OP_ofTwo_b227 1 X
  else if p1 = 163 then
  some ((if p3 < p2 then p3 else p2), X)
  else some ((if p3 < p2 then p2 else p3), X)
set_option maxRecDepth 100000 in
set_option maxHeartbeats 4000000 in
theorem cx_OP_ofTwo (l : Launch) (D : va_G) (G : xh_G) (hD : xh_D G) (p1 : Int32) (p2 : Int64) (p3 : Int64) (X : xh_T) : xh_M xh_Ql l D G y_OP_ofTwo b_OP_ofTwo 5 (some .long) rm_OP_ofTwo [.int p1, .long p2, .long p3] X (fx_OP_ofTwo p1 p2 p3 X) := by
  refine xh_enter (ls := [(0, .int p1), (1, .long p2), (3, .long p3)]) hD (by decide +kernel) (Nat.le_of_ble_eq_true rfl) rfl ?_
  intro p e s m args below meth c hz hr hlk
  unfold fx_OP_ofTwo
  refine jr_iload_n hz d_OP_ofTwo_0 rfl 0 rfl ?_
  refine jr_ite (fun hs0 => ?_) (fun hs0 => ?_)
  · refine jr_tableIn (off := 83) (tgt := 84) hz d_OP_ofTwo_1 (by rw [hs0]; decide) (by rw [hs0]; decide) (by rw [hs0]; first | done | decide | rfl) (by decide) ?_
    refine jr_lload_n hz d_OP_ofTwo_84 rfl 1 rfl ?_
    refine jr_lload_n hz d_OP_ofTwo_85 rfl 2 rfl ?_
    refine jr_ladd hz d_OP_ofTwo_86 ?_
    exact jr_lret hz hr hlk d_OP_ofTwo_87
  refine jr_ite (fun hs1 => ?_) (fun hs1 => ?_)
  · refine jr_tableIn (off := 87) (tgt := 88) hz d_OP_ofTwo_1 (by rw [hs1]; decide) (by rw [hs1]; decide) (by rw [hs1]; first | done | decide | rfl) (by decide) ?_
    refine jr_lload_n hz d_OP_ofTwo_88 rfl 1 rfl ?_
    refine jr_lload_n hz d_OP_ofTwo_89 rfl 2 rfl ?_
    refine jr_lsub hz d_OP_ofTwo_90 ?_
    exact jr_lret hz hr hlk d_OP_ofTwo_91
  refine jr_ite (fun hs2 => ?_) (fun hs2 => ?_)
  · refine jr_tableIn (off := 237) (tgt := 238) hz d_OP_ofTwo_1 (by rw [hs2]; decide) (by rw [hs2]; decide) (by rw [hs2]; first | done | decide | rfl) (by decide) ?_
    refine jr_lload_n hz d_OP_ofTwo_238 rfl 1 rfl ?_
    refine jr_lload_n hz d_OP_ofTwo_239 rfl 2 rfl ?_
    refine jr_mmax_long hz wm_OP_138 wa_mmax_long_static wa_init_Math wa_mmax_long_code (Nat.le_of_ble_eq_true rfl) (Nat.le_of_ble_eq_true rfl) ⟨Nat.zero_le _, Nat.zero_le _⟩ d_OP_ofTwo_240 ?_
    exact jr_lret hz hr hlk d_OP_ofTwo_243
  refine jr_ite (fun hs3 => ?_) (fun hs3 => ?_)
  · refine jr_tableIn (off := 237) (tgt := 238) hz d_OP_ofTwo_1 (by rw [hs3]; decide) (by rw [hs3]; decide) (by rw [hs3]; first | done | decide | rfl) (by decide) ?_
    refine jr_lload_n hz d_OP_ofTwo_238 rfl 1 rfl ?_
    refine jr_lload_n hz d_OP_ofTwo_239 rfl 2 rfl ?_
    refine jr_mmax_long hz wm_OP_138 wa_mmax_long_static wa_init_Math wa_mmax_long_code (Nat.le_of_ble_eq_true rfl) (Nat.le_of_ble_eq_true rfl) ⟨Nat.zero_le _, Nat.zero_le _⟩ d_OP_ofTwo_240 ?_
    exact jr_lret hz hr hlk d_OP_ofTwo_243
  refine jr_ite (fun hs4 => ?_) (fun hs4 => ?_)
  · refine jr_tableIn (off := 237) (tgt := 238) hz d_OP_ofTwo_1 (by rw [hs4]; decide) (by rw [hs4]; decide) (by rw [hs4]; first | done | decide | rfl) (by decide) ?_
    refine jr_lload_n hz d_OP_ofTwo_238 rfl 1 rfl ?_
    refine jr_lload_n hz d_OP_ofTwo_239 rfl 2 rfl ?_
    refine jr_mmax_long hz wm_OP_138 wa_mmax_long_static wa_init_Math wa_mmax_long_code (Nat.le_of_ble_eq_true rfl) (Nat.le_of_ble_eq_true rfl) ⟨Nat.zero_le _, Nat.zero_le _⟩ d_OP_ofTwo_240 ?_
    exact jr_lret hz hr hlk d_OP_ofTwo_243
  refine jr_ite (fun hs5 => ?_) (fun hs5 => ?_)
  · refine jr_tableIn (off := 237) (tgt := 238) hz d_OP_ofTwo_1 (by rw [hs5]; decide) (by rw [hs5]; decide) (by rw [hs5]; first | done | decide | rfl) (by decide) ?_
    refine jr_lload_n hz d_OP_ofTwo_238 rfl 1 rfl ?_
    refine jr_lload_n hz d_OP_ofTwo_239 rfl 2 rfl ?_
    refine jr_mmax_long hz wm_OP_138 wa_mmax_long_static wa_init_Math wa_mmax_long_code (Nat.le_of_ble_eq_true rfl) (Nat.le_of_ble_eq_true rfl) ⟨Nat.zero_le _, Nat.zero_le _⟩ d_OP_ofTwo_240 ?_
    exact jr_lret hz hr hlk d_OP_ofTwo_243
  refine jr_ite (fun hs6 => ?_) (fun hs6 => ?_)
  · refine jr_tableIn (off := 237) (tgt := 238) hz d_OP_ofTwo_1 (by rw [hs6]; decide) (by rw [hs6]; decide) (by rw [hs6]; first | done | decide | rfl) (by decide) ?_
    refine jr_lload_n hz d_OP_ofTwo_238 rfl 1 rfl ?_
    refine jr_lload_n hz d_OP_ofTwo_239 rfl 2 rfl ?_
    refine jr_mmax_long hz wm_OP_138 wa_mmax_long_static wa_init_Math wa_mmax_long_code (Nat.le_of_ble_eq_true rfl) (Nat.le_of_ble_eq_true rfl) ⟨Nat.zero_le _, Nat.zero_le _⟩ d_OP_ofTwo_240 ?_
    exact jr_lret hz hr hlk d_OP_ofTwo_243
  refine jr_ite (fun hs7 => ?_) (fun hs7 => ?_)
  · refine jr_tableIn (off := 91) (tgt := 92) hz d_OP_ofTwo_1 (by rw [hs7]; decide) (by rw [hs7]; decide) (by rw [hs7]; first | done | decide | rfl) (by decide) ?_
    refine jr_lload_n hz d_OP_ofTwo_92 rfl 1 rfl ?_
    refine jr_lconst (v := 0) hz d_OP_ofTwo_93 (by decide) ?_
    refine jr_lcmp hz d_OP_ofTwo_94 ?_
    refine jr_if_eq (tgt := 108) hz d_OP_ofTwo_95 (by decide) ?_ ?_
    · refine jr_sub (ls' := []) [] rfl ?_
      exact jb_OP_ofTwo_b108 hz hr hlk X
    · refine jr_lload_n hz d_OP_ofTwo_98 rfl 2 rfl ?_
      refine jr_lconst (v := 0) hz d_OP_ofTwo_99 (by decide) ?_
      refine jr_lcmp hz d_OP_ofTwo_100 ?_
      refine jr_if_eq (tgt := 108) hz d_OP_ofTwo_101 (by decide) ?_ ?_
      · refine jr_sub (ls' := []) [] rfl ?_
        exact jb_OP_ofTwo_b108 hz hr hlk X
      · refine jr_iconst (v := 1) hz d_OP_ofTwo_104 (by decide) ?_
        refine jr_goto (tgt := 109) hz d_OP_ofTwo_105 (by decide) ?_
        refine jr_sub (ls' := []) [] rfl ?_
        exact jb_OP_ofTwo_b109 hz hr hlk 1 X
  refine jr_ite (fun hs8 => ?_) (fun hs8 => ?_)
  · refine jr_tableIn (off := 113) (tgt := 114) hz d_OP_ofTwo_1 (by rw [hs8]; decide) (by rw [hs8]; decide) (by rw [hs8]; first | done | decide | rfl) (by decide) ?_
    refine jr_lload_n hz d_OP_ofTwo_114 rfl 1 rfl ?_
    refine jr_lconst (v := 0) hz d_OP_ofTwo_115 (by decide) ?_
    refine jr_lcmp hz d_OP_ofTwo_116 ?_
    refine jr_if_ne (tgt := 126) hz d_OP_ofTwo_117 (by decide) ?_ ?_
    · refine jr_sub (ls' := []) [] rfl ?_
      exact jb_OP_ofTwo_b126 hz hr hlk X
    · refine jr_lload_n hz d_OP_ofTwo_120 rfl 2 rfl ?_
      refine jr_lconst (v := 0) hz d_OP_ofTwo_121 (by decide) ?_
      refine jr_lcmp hz d_OP_ofTwo_122 ?_
      refine jr_if_eq (tgt := 130) hz d_OP_ofTwo_123 (by decide) ?_ ?_
      · refine jr_iconst (v := 0) hz d_OP_ofTwo_130 (by decide) ?_
        refine jr_sub (ls' := []) [] rfl ?_
        exact jb_OP_ofTwo_b131 hz hr hlk 0 X
      · refine jr_sub (ls' := []) [] rfl ?_
        exact jb_OP_ofTwo_b126 hz hr hlk X
  refine jr_ite (fun hs9 => ?_) (fun hs9 => ?_)
  · refine jr_tableIn (off := 135) (tgt := 136) hz d_OP_ofTwo_1 (by rw [hs9]; decide) (by rw [hs9]; decide) (by rw [hs9]; first | done | decide | rfl) (by decide) ?_
    refine jr_lload_n hz d_OP_ofTwo_136 rfl 1 rfl ?_
    refine jr_lload_n hz d_OP_ofTwo_137 rfl 2 rfl ?_
    refine jr_lcmp hz d_OP_ofTwo_138 ?_
    refine jr_if_ne (tgt := 146) hz d_OP_ofTwo_139 (by decide) ?_ ?_
    · refine jr_iconst (v := 0) hz d_OP_ofTwo_146 (by decide) ?_
      refine jr_sub (ls' := []) [] rfl ?_
      exact jb_OP_ofTwo_b147 hz hr hlk 0 X
    · refine jr_iconst (v := 1) hz d_OP_ofTwo_142 (by decide) ?_
      refine jr_goto (tgt := 147) hz d_OP_ofTwo_143 (by decide) ?_
      refine jr_sub (ls' := []) [] rfl ?_
      exact jb_OP_ofTwo_b147 hz hr hlk 1 X
  refine jr_ite (fun hs10 => ?_) (fun hs10 => ?_)
  · refine jr_tableIn (off := 237) (tgt := 238) hz d_OP_ofTwo_1 (by rw [hs10]; decide) (by rw [hs10]; decide) (by rw [hs10]; first | done | decide | rfl) (by decide) ?_
    refine jr_lload_n hz d_OP_ofTwo_238 rfl 1 rfl ?_
    refine jr_lload_n hz d_OP_ofTwo_239 rfl 2 rfl ?_
    refine jr_mmax_long hz wm_OP_138 wa_mmax_long_static wa_init_Math wa_mmax_long_code (Nat.le_of_ble_eq_true rfl) (Nat.le_of_ble_eq_true rfl) ⟨Nat.zero_le _, Nat.zero_le _⟩ d_OP_ofTwo_240 ?_
    exact jr_lret hz hr hlk d_OP_ofTwo_243
  refine jr_ite (fun hs11 => ?_) (fun hs11 => ?_)
  · refine jr_tableIn (off := 151) (tgt := 152) hz d_OP_ofTwo_1 (by rw [hs11]; decide) (by rw [hs11]; decide) (by rw [hs11]; first | done | decide | rfl) (by decide) ?_
    refine jr_lload_n hz d_OP_ofTwo_152 rfl 1 rfl ?_
    refine jr_lload_n hz d_OP_ofTwo_153 rfl 2 rfl ?_
    refine jr_lcmp hz d_OP_ofTwo_154 ?_
    refine jr_if_eq (tgt := 162) hz d_OP_ofTwo_155 (by decide) ?_ ?_
    · refine jr_iconst (v := 0) hz d_OP_ofTwo_162 (by decide) ?_
      refine jr_sub (ls' := []) [] rfl ?_
      exact jb_OP_ofTwo_b163 hz hr hlk 0 X
    · refine jr_iconst (v := 1) hz d_OP_ofTwo_158 (by decide) ?_
      refine jr_goto (tgt := 163) hz d_OP_ofTwo_159 (by decide) ?_
      refine jr_sub (ls' := []) [] rfl ?_
      exact jb_OP_ofTwo_b163 hz hr hlk 1 X
  refine jr_ite (fun hs12 => ?_) (fun hs12 => ?_)
  · refine jr_tableIn (off := 167) (tgt := 168) hz d_OP_ofTwo_1 (by rw [hs12]; decide) (by rw [hs12]; decide) (by rw [hs12]; first | done | decide | rfl) (by decide) ?_
    refine jr_lload_n hz d_OP_ofTwo_168 rfl 1 rfl ?_
    refine jr_lload_n hz d_OP_ofTwo_169 rfl 2 rfl ?_
    refine jr_lcmp hz d_OP_ofTwo_170 ?_
    refine jr_if_ge (tgt := 178) hz d_OP_ofTwo_171 (by decide) ?_ ?_
    · refine jr_iconst (v := 0) hz d_OP_ofTwo_178 (by decide) ?_
      refine jr_sub (ls' := []) [] rfl ?_
      exact jb_OP_ofTwo_b179 hz hr hlk 0 X
    · refine jr_iconst (v := 1) hz d_OP_ofTwo_174 (by decide) ?_
      refine jr_goto (tgt := 179) hz d_OP_ofTwo_175 (by decide) ?_
      refine jr_sub (ls' := []) [] rfl ?_
      exact jb_OP_ofTwo_b179 hz hr hlk 1 X
  refine jr_ite (fun hs13 => ?_) (fun hs13 => ?_)
  · refine jr_tableIn (off := 183) (tgt := 184) hz d_OP_ofTwo_1 (by rw [hs13]; decide) (by rw [hs13]; decide) (by rw [hs13]; first | done | decide | rfl) (by decide) ?_
    refine jr_lload_n hz d_OP_ofTwo_184 rfl 1 rfl ?_
    refine jr_lload_n hz d_OP_ofTwo_185 rfl 2 rfl ?_
    refine jr_lcmp hz d_OP_ofTwo_186 ?_
    refine jr_if_le (tgt := 194) hz d_OP_ofTwo_187 (by decide) ?_ ?_
    · refine jr_iconst (v := 0) hz d_OP_ofTwo_194 (by decide) ?_
      refine jr_sub (ls' := []) [] rfl ?_
      exact jb_OP_ofTwo_b195 hz hr hlk 0 X
    · refine jr_iconst (v := 1) hz d_OP_ofTwo_190 (by decide) ?_
      refine jr_goto (tgt := 195) hz d_OP_ofTwo_191 (by decide) ?_
      refine jr_sub (ls' := []) [] rfl ?_
      exact jb_OP_ofTwo_b195 hz hr hlk 1 X
  refine jr_ite (fun hs14 => ?_) (fun hs14 => ?_)
  · refine jr_tableIn (off := 199) (tgt := 200) hz d_OP_ofTwo_1 (by rw [hs14]; decide) (by rw [hs14]; decide) (by rw [hs14]; first | done | decide | rfl) (by decide) ?_
    refine jr_lload_n hz d_OP_ofTwo_200 rfl 1 rfl ?_
    refine jr_lload_n hz d_OP_ofTwo_201 rfl 2 rfl ?_
    refine jr_lcmp hz d_OP_ofTwo_202 ?_
    refine jr_if_gt (tgt := 210) hz d_OP_ofTwo_203 (by decide) ?_ ?_
    · refine jr_iconst (v := 0) hz d_OP_ofTwo_210 (by decide) ?_
      refine jr_sub (ls' := []) [] rfl ?_
      exact jb_OP_ofTwo_b211 hz hr hlk 0 X
    · refine jr_iconst (v := 1) hz d_OP_ofTwo_206 (by decide) ?_
      refine jr_goto (tgt := 211) hz d_OP_ofTwo_207 (by decide) ?_
      refine jr_sub (ls' := []) [] rfl ?_
      exact jb_OP_ofTwo_b211 hz hr hlk 1 X
  refine jr_ite (fun hs15 => ?_) (fun hs15 => ?_)
  · refine jr_tableIn (off := 215) (tgt := 216) hz d_OP_ofTwo_1 (by rw [hs15]; decide) (by rw [hs15]; decide) (by rw [hs15]; first | done | decide | rfl) (by decide) ?_
    refine jr_lload_n hz d_OP_ofTwo_216 rfl 1 rfl ?_
    refine jr_lload_n hz d_OP_ofTwo_217 rfl 2 rfl ?_
    refine jr_lcmp hz d_OP_ofTwo_218 ?_
    refine jr_if_lt (tgt := 226) hz d_OP_ofTwo_219 (by decide) ?_ ?_
    · refine jr_iconst (v := 0) hz d_OP_ofTwo_226 (by decide) ?_
      refine jr_sub (ls' := []) [] rfl ?_
      exact jb_OP_ofTwo_b227 hz hr hlk 0 X
    · refine jr_iconst (v := 1) hz d_OP_ofTwo_222 (by decide) ?_
      refine jr_goto (tgt := 227) hz d_OP_ofTwo_223 (by decide) ?_
      refine jr_sub (ls' := []) [] rfl ?_
      exact jb_OP_ofTwo_b227 hz hr hlk 1 X
  refine jr_ite (fun hs16 => ?_) (fun hs16 => ?_)
  · refine jr_tableIn (off := 231) (tgt := 232) hz d_OP_ofTwo_1 (by rw [hs16]; decide) (by rw [hs16]; decide) (by rw [hs16]; first | done | decide | rfl) (by decide) ?_
    refine jr_lload_n hz d_OP_ofTwo_232 rfl 1 rfl ?_
    refine jr_lload_n hz d_OP_ofTwo_233 rfl 2 rfl ?_
    refine jr_mmin_long hz wm_OP_134 wa_mmin_long_static wa_init_Math wa_mmin_long_code (Nat.le_of_ble_eq_true rfl) (Nat.le_of_ble_eq_true rfl) ⟨Nat.zero_le _, Nat.zero_le _⟩ d_OP_ofTwo_234 ?_
    exact jr_lret hz hr hlk d_OP_ofTwo_237
  refine jr_tableOut (tgt := 238) hz d_OP_ofTwo_1 (by have := lv_neT (k := 147) hs0 (show _ = (147 : Int) by decide); have := lv_neT (k := 148) hs1 (show _ = (148 : Int) by decide); have := lv_neT (k := 149) hs2 (show _ = (149 : Int) by decide); have := lv_neT (k := 150) hs3 (show _ = (150 : Int) by decide); have := lv_neT (k := 151) hs4 (show _ = (151 : Int) by decide); have := lv_neT (k := 152) hs5 (show _ = (152 : Int) by decide); have := lv_neT (k := 153) hs6 (show _ = (153 : Int) by decide); have := lv_neT (k := 154) hs7 (show _ = (154 : Int) by decide); have := lv_neT (k := 155) hs8 (show _ = (155 : Int) by decide); have := lv_neT (k := 156) hs9 (show _ = (156 : Int) by decide); have := lv_neT (k := 157) hs10 (show _ = (157 : Int) by decide); have := lv_neT (k := 158) hs11 (show _ = (158 : Int) by decide); have := lv_neT (k := 159) hs12 (show _ = (159 : Int) by decide); have := lv_neT (k := 160) hs13 (show _ = (160 : Int) by decide); have := lv_neT (k := 161) hs14 (show _ = (161 : Int) by decide); have := lv_neT (k := 162) hs15 (show _ = (162 : Int) by decide); have := lv_neT (k := 163) hs16 (show _ = (163 : Int) by decide); omega) (by decide) ?_
  refine jr_lload_n hz d_OP_ofTwo_238 rfl 1 rfl ?_
  refine jr_lload_n hz d_OP_ofTwo_239 rfl 2 rfl ?_
  refine jr_mmax_long hz wm_OP_138 wa_mmax_long_static wa_init_Math wa_mmax_long_code (Nat.le_of_ble_eq_true rfl) (Nat.le_of_ble_eq_true rfl) ⟨Nat.zero_le _, Nat.zero_le _⟩ d_OP_ofTwo_240 ?_
  exact jr_lret hz hr hlk d_OP_ofTwo_243

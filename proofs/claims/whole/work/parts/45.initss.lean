theorem d_MC_init_0 : decode b_MC_init 0 = .ok (.aload_n 0, 1) := by decide +kernel
theorem d_MC_init_1 : decode b_MC_init 1 = .ok (.invokespecial 3, 3) := by decide +kernel
theorem d_MC_init_4 : decode b_MC_init 4 = .ok (.aload_n 0, 1) := by decide +kernel
theorem d_MC_init_5 : decode b_MC_init 5 = .ok (.aload_n 1, 1) := by decide +kernel
theorem d_MC_init_6 : decode b_MC_init 6 = .ok (.putfield 9, 3) := by decide +kernel
theorem d_MC_init_9 : decode b_MC_init 9 = .ok (.aload_n 0, 1) := by decide +kernel
theorem d_MC_init_10 : decode b_MC_init 10 = .ok (.new 15, 3) := by decide +kernel
theorem d_MC_init_13 : decode b_MC_init 13 = .ok (.dup, 1) := by decide +kernel
theorem d_MC_init_14 : decode b_MC_init 14 = .ok (.invokespecial 17, 3) := by decide +kernel
theorem d_MC_init_17 : decode b_MC_init 17 = .ok (.putfield 18, 3) := by decide +kernel
theorem d_MC_init_20 : decode b_MC_init 20 = .ok (.aload_n 0, 1) := by decide +kernel
theorem d_MC_init_21 : decode b_MC_init 21 = .ok (.new 21, 3) := by decide +kernel
theorem d_MC_init_24 : decode b_MC_init 24 = .ok (.dup, 1) := by decide +kernel
theorem d_MC_init_25 : decode b_MC_init 25 = .ok (.invokespecial 23, 3) := by decide +kernel
theorem d_MC_init_28 : decode b_MC_init 28 = .ok (.putfield 24, 3) := by decide +kernel
theorem d_MC_init_31 : decode b_MC_init 31 = .ok (.aload_n 0, 1) := by decide +kernel
theorem d_MC_init_32 : decode b_MC_init 32 = .ok (.new 28, 3) := by decide +kernel
theorem d_MC_init_35 : decode b_MC_init 35 = .ok (.dup, 1) := by decide +kernel
theorem d_MC_init_36 : decode b_MC_init 36 = .ok (.aload_n 1, 1) := by decide +kernel
theorem d_MC_init_37 : decode b_MC_init 37 = .ok (.aload_n 0, 1) := by decide +kernel
theorem d_MC_init_38 : decode b_MC_init 38 = .ok (.getfield 18, 3) := by decide +kernel
theorem d_MC_init_41 : decode b_MC_init 41 = .ok (.aload_n 2, 1) := by decide +kernel
theorem d_MC_init_42 : decode b_MC_init 42 = .ok (.invokespecial 30, 3) := by decide +kernel
theorem d_MC_init_45 : decode b_MC_init 45 = .ok (.putfield 33, 3) := by decide +kernel
theorem d_MC_init_48 : decode b_MC_init 48 = .ok (.aload_n 0, 1) := by decide +kernel
theorem d_MC_init_49 : decode b_MC_init 49 = .ok (.iconst 0, 1) := by decide +kernel
theorem d_MC_init_50 : decode b_MC_init 50 = .ok (.putfield 37, 3) := by decide +kernel
theorem d_MC_init_53 : decode b_MC_init 53 = .ok (.aload_n 0, 1) := by decide +kernel
theorem d_MC_init_54 : decode b_MC_init 54 = .ok (.iconst 0, 1) := by decide +kernel
theorem d_MC_init_55 : decode b_MC_init 55 = .ok (.putfield 41, 3) := by decide +kernel
theorem d_MC_init_58 : decode b_MC_init 58 = .ok (.aload_n 0, 1) := by decide +kernel
theorem d_MC_init_59 : decode b_MC_init 59 = .ok (.iconst 0, 1) := by decide +kernel
theorem d_MC_init_60 : decode b_MC_init 60 = .ok (.putfield 44, 3) := by decide +kernel
theorem d_MC_init_63 : decode b_MC_init 63 = .ok (.return_, 1) := by decide +kernel
theorem wo_MC_3 : Cond.methodLink "SpendScript$Machine" 3 objectInit ∈ sp_ws := (sp_tb (List.mem_of_getElem? (i := 73) (by decide +kernel)))
theorem wg_MC_9 : Cond.fieldLink "SpendScript$Machine" 9 (F_MC 0).1 (F_MC 0).2.1 (F_MC 0).2.2.1 ∈ sp_ws := (sp_tb (List.mem_of_getElem? (i := 106) (by decide +kernel)))
theorem wc_MC_15 : Cond.classLink "SpendScript$Machine" 15 "SpendScript$ItemStack" ∈ sp_ws := (sp_tb (List.mem_of_getElem? (i := 74) (by decide +kernel)))
theorem wi_IS : Cond.instantiable "SpendScript$ItemStack" 3 ∈ sp_ws := (sp_tb (List.mem_of_getElem? (i := 50) (by decide +kernel)))
theorem wn_IS : Cond.initialized "SpendScript$ItemStack" ∈ sp_ws := (sp_tb (List.mem_of_getElem? (i := 4) (by decide +kernel)))
theorem wz_IS : Cond.code y_IS_init b_IS_init 2 none ∈ sp_ws := (sp_tb (List.mem_of_getElem? (i := 53) (by decide +kernel)))
theorem wl_MC_17 : Cond.methodLink "SpendScript$Machine" 17 y_IS_init ∈ sp_ws := (sp_tb (List.mem_of_getElem? (i := 75) (by decide +kernel)))
theorem wj_IS : Cond.instanceMethod y_IS_init ∈ sp_ws := (sp_tb (List.mem_of_getElem? (i := 52) (by decide +kernel)))
theorem wg_MC_18 : Cond.fieldLink "SpendScript$Machine" 18 (F_MC 1).1 (F_MC 1).2.1 (F_MC 1).2.2.1 ∈ sp_ws := (sp_tb (List.mem_of_getElem? (i := 107) (by decide +kernel)))
theorem wc_MC_21 : Cond.classLink "SpendScript$Machine" 21 "SpendScript$Branches" ∈ sp_ws := (sp_tb (List.mem_of_getElem? (i := 76) (by decide +kernel)))
theorem wi_BR : Cond.instantiable "SpendScript$Branches" 2 ∈ sp_ws := (sp_tb (List.mem_of_getElem? (i := 77) (by decide +kernel)))
theorem wn_BR : Cond.initialized "SpendScript$Branches" ∈ sp_ws := (sp_tb (List.mem_of_getElem? (i := 6) (by decide +kernel)))
theorem wz_BR : Cond.code y_BR_init b_BR_init 1 none ∈ sp_ws := (sp_tb (List.mem_of_getElem? (i := 80) (by decide +kernel)))
theorem wl_MC_23 : Cond.methodLink "SpendScript$Machine" 23 y_BR_init ∈ sp_ws := (sp_tb (List.mem_of_getElem? (i := 78) (by decide +kernel)))
theorem wj_BR : Cond.instanceMethod y_BR_init ∈ sp_ws := (sp_tb (List.mem_of_getElem? (i := 79) (by decide +kernel)))
theorem wg_MC_24 : Cond.fieldLink "SpendScript$Machine" 24 (F_MC 2).1 (F_MC 2).2.1 (F_MC 2).2.2.1 ∈ sp_ws := (sp_tb (List.mem_of_getElem? (i := 108) (by decide +kernel)))
theorem wc_MC_28 : Cond.classLink "SpendScript$Machine" 28 "SpendScript$Operations" ∈ sp_ws := (sp_tb (List.mem_of_getElem? (i := 90) (by decide +kernel)))
theorem wi_OP : Cond.instantiable "SpendScript$Operations" 3 ∈ sp_ws := (sp_tb (List.mem_of_getElem? (i := 91) (by decide +kernel)))
theorem wn_OP : Cond.initialized "SpendScript$Operations" ∈ sp_ws := (sp_tb (List.mem_of_getElem? (i := 7) (by decide +kernel)))
theorem wz_OP : Cond.code y_OP_init b_OP_init 4 none ∈ sp_ws := (sp_tb (List.mem_of_getElem? (i := 94) (by decide +kernel)))
theorem wl_MC_30 : Cond.methodLink "SpendScript$Machine" 30 y_OP_init ∈ sp_ws := (sp_tb (List.mem_of_getElem? (i := 92) (by decide +kernel)))
theorem wj_OP : Cond.instanceMethod y_OP_init ∈ sp_ws := (sp_tb (List.mem_of_getElem? (i := 93) (by decide +kernel)))
theorem wg_MC_33 : Cond.fieldLink "SpendScript$Machine" 33 (F_MC 3).1 (F_MC 3).2.1 (F_MC 3).2.2.1 ∈ sp_ws := (sp_tb (List.mem_of_getElem? (i := 109) (by decide +kernel)))
theorem wg_MC_37 : Cond.fieldLink "SpendScript$Machine" 37 (F_MC 4).1 (F_MC 4).2.1 (F_MC 4).2.2.1 ∈ sp_ws := (sp_tb (List.mem_of_getElem? (i := 110) (by decide +kernel)))
theorem wg_MC_41 : Cond.fieldLink "SpendScript$Machine" 41 (F_MC 5).1 (F_MC 5).2.1 (F_MC 5).2.2.1 ∈ sp_ws := (sp_tb (List.mem_of_getElem? (i := 111) (by decide +kernel)))
theorem wg_MC_44 : Cond.fieldLink "SpendScript$Machine" 44 (F_MC 6).1 (F_MC 6).2.1 (F_MC 6).2.2.1 ∈ sp_ws := (sp_tb (List.mem_of_getElem? (i := 112) (by decide +kernel)))
set_option maxRecDepth 100000 in
set_option maxHeartbeats 4000000 in
theorem kn_MC (l : Launch) (D : va_G) (g : kc_G) (h0 a b : Nat) : kc_M l D g y_MC_init b_MC_init 3 { frames := 3, cells := 67, slots := 1068, locals := 80 } [.ref h0, .ref a, .ref b] [(h0, .inr (4, [.null, .null, .null, .null, .int 0, .int 0, .int 0]))] 67 1068 (fun u => u 138 = h0 ∧ u 10 = a ∧ u 7 = b) (fun u => kc_s u g kc_x 138 68) := by
  refine kc_enter (ls := [(0, .ref h0), (1, .ref a), (2, .ref b)]) (by decide +kernel) (Nat.le_of_ble_eq_true rfl) rfl ?_
  intro p e s m args below meth c hz hr hlk hin
  refine kr_aload_n hz d_MC_init_0 rfl 0 rfl ?_
  refine kr_objInit hz wo_MC_3 wa_oi wa_oc (Nat.le_of_ble_eq_true rfl) (Nat.le_of_ble_eq_true rfl) d_MC_init_1 ?_
  refine kr_aload_n hz d_MC_init_4 rfl 0 rfl ?_
  refine kr_aload_n hz d_MC_init_5 rfl 1 rfl ?_
  refine kr_putF (ci := 4) (k := 0) (v := .ref a) (T := F_MC) (N := 7) (C := "SpendScript$Machine") (fs := [.null, .null, .null, .null, .int 0, .int 0, .int 0]) (tl := []) hz hin iw_MC t_MC tk_MC nk_MC rfl (by decide) wg_MC_9 rfl rfl rfl rfl (Nat.le_of_ble_eq_true rfl) d_MC_init_6 ?_
  refine kr_eq (ws' := (h0, .inr (4, [.ref a, .null, .null, .null, .int 0, .int 0, .int 0])) :: []) rfl ?_
  refine kr_aload_n hz d_MC_init_9 rfl 0 rfl ?_
  refine kr_new (C := "SpendScript$ItemStack") (T := F_IS) (N := 3) (ci := 1) (fs := [.null, .null, .int 0]) hz iw_IS t_IS tk_IS wc_MC_15 wi_IS wn_IS rfl (kd_IS) (by show 0 + 1 ≤ 67; decide) (by show 0 + 3 ≤ 1068; decide) d_MC_init_10 (fun q1 => ?_)
  refine kr_dup hz d_MC_init_13 rfl ?_
  refine kr_ctor (n := 0) (As := []) (st := [.ref q1, .ref h0]) (wr := ((h0, .inr (4, [.ref a, .null, .null, .null, .int 0, .int 0, .int 0])) :: [])) (q := q1) (e0 := .inr (1, [.null, .null, .int 0])) hz (kn_IS l D g 139 q1 (by decide)) wz_IS wn_IS wl_MC_17 ⟨by decide +kernel, by decide +kernel, by decide +kernel⟩ wj_IS rfl ⟨rfl, rfl, Nat.le_of_ble_eq_true rfl, Nat.le_of_ble_eq_true rfl⟩ ⟨by show 0 + 1 + 63 ≤ 67; decide, by show 0 + 3 + 1052 ≤ 1068; decide⟩ rfl rfl (Nat.le_of_ble_eq_true rfl) d_MC_init_14 (fun u1 hu1 => ?_)
  refine kr_putF (ci := 4) (k := 1) (v := .ref q1) (T := F_MC) (N := 7) (C := "SpendScript$Machine") (fs := [.ref a, .null, .null, .null, .int 0, .int 0, .int 0]) (tl := kc_s u1 g kc_x 139 64) hz hin iw_MC t_MC tk_MC nk_MC rfl (by decide) wg_MC_18 rfl rfl rfl rfl (Nat.le_of_ble_eq_true rfl) d_MC_init_17 ?_
  refine kr_eq (ws' := (h0, .inr (4, [.ref a, .ref q1, .null, .null, .int 0, .int 0, .int 0])) :: kc_s u1 g kc_x 139 64) rfl ?_
  refine kr_aload_n hz d_MC_init_20 rfl 0 rfl ?_
  refine kr_new (C := "SpendScript$Branches") (T := F_BR) (N := 2) (ci := 3) (fs := [.null, .int 0]) hz iw_BR t_BR tk_BR wc_MC_21 wi_BR wn_BR rfl (kd_BR) (by show 0 + 1 + 63 + 1 ≤ 67; decide) (by show 0 + 3 + 1052 + 2 ≤ 1068; decide) d_MC_init_21 (fun q2 => ?_)
  refine kr_dup hz d_MC_init_24 rfl ?_
  refine kr_ctor (n := 0) (As := []) (st := [.ref q2, .ref h0]) (wr := ((h0, .inr (4, [.ref a, .ref q1, .null, .null, .int 0, .int 0, .int 0])) :: kc_s u1 g kc_x 139 64)) (q := q2) (e0 := .inr (3, [.null, .int 0])) hz (kn_BR l D g q2) wz_BR wn_BR wl_MC_23 ⟨by decide +kernel, by decide +kernel, by decide +kernel⟩ wj_BR rfl ⟨rfl, rfl, Nat.le_of_ble_eq_true rfl, Nat.le_of_ble_eq_true rfl⟩ ⟨by show 0 + 1 + 63 + 1 + 1 ≤ 67; decide, by show 0 + 3 + 1052 + 2 + 8 ≤ 1068; decide⟩ rfl rfl (Nat.le_of_ble_eq_true rfl) d_MC_init_25 (fun u2 hu2 => ?_)
  refine kr_putF (ci := 4) (k := 2) (v := .ref q2) (T := F_MC) (N := 7) (C := "SpendScript$Machine") (fs := [.ref a, .ref q1, .null, .null, .int 0, .int 0, .int 0]) (tl := (kc_s u1 g kc_x 139 64 ++ kc_s u2 g kc_x 203 2)) hz hin iw_MC t_MC tk_MC nk_MC rfl (by decide) wg_MC_24 rfl rfl rfl rfl (Nat.le_of_ble_eq_true rfl) d_MC_init_28 ?_
  refine kr_eq (ws' := (h0, .inr (4, [.ref a, .ref q1, .ref q2, .null, .int 0, .int 0, .int 0])) :: (kc_s u1 g kc_x 139 64 ++ kc_s u2 g kc_x 203 2)) rfl ?_
  refine kr_aload_n hz d_MC_init_31 rfl 0 rfl ?_
  refine kr_new (C := "SpendScript$Operations") (T := F_OP) (N := 3) (ci := 5) (fs := [.null, .null, .null]) hz iw_OP t_OP tk_OP wc_MC_28 wi_OP wn_OP rfl (kd_OP) (by show 0 + 1 + 63 + 1 + 1 + 1 ≤ 67; decide) (by show 0 + 3 + 1052 + 2 + 8 + 3 ≤ 1068; decide) d_MC_init_32 (fun q3 => ?_)
  refine kr_dup hz d_MC_init_35 rfl ?_
  refine kr_aload_n hz d_MC_init_36 rfl 1 rfl ?_
  refine kr_aload_n hz d_MC_init_37 rfl 0 rfl ?_
  refine kr_get (ci := 4) (k := 1) (T := F_MC) (N := 7) (C := "SpendScript$Machine") (fs := [.ref a, .ref q1, .ref q2, .null, .int 0, .int 0, .int 0]) (tl := ((kc_s u1 g kc_x 139 64 ++ kc_s u2 g kc_x 203 2) ++ [(q3, .inr (5, [.null, .null, .null]))])) hz iw_MC rfl (by decide) wg_MC_18 rfl d_MC_init_38 ?_
  refine kr_aload_n hz d_MC_init_41 rfl 2 rfl ?_
  refine kr_ctor (n := 3) (As := [.ref a, .ref q1, .ref b]) (st := [.ref q3, .ref h0]) (wr := ((h0, .inr (4, [.ref a, .ref q1, .ref q2, .null, .int 0, .int 0, .int 0])) :: (kc_s u1 g kc_x 139 64 ++ kc_s u2 g kc_x 203 2))) (q := q3) (e0 := .inr (5, [.null, .null, .null])) hz (kn_OP l D g q3 (a) (q1) (b)) wz_OP wn_OP wl_MC_30 ⟨by decide +kernel, by decide +kernel, by decide +kernel⟩ wj_OP rfl ⟨rfl, rfl, Nat.le_of_ble_eq_true rfl, Nat.le_of_ble_eq_true rfl⟩ ⟨by show 0 + 1 + 63 + 1 + 1 + 1 + 0 ≤ 67; decide, by show 0 + 3 + 1052 + 2 + 8 + 3 + 0 ≤ 1068; decide⟩ rfl rfl (Nat.le_of_ble_eq_true rfl) d_MC_init_42 (fun u3 hu3 => ?_)
  refine kr_putF (ci := 4) (k := 3) (v := .ref q3) (T := F_MC) (N := 7) (C := "SpendScript$Machine") (fs := [.ref a, .ref q1, .ref q2, .null, .int 0, .int 0, .int 0]) (tl := ((kc_s u1 g kc_x 139 64 ++ kc_s u2 g kc_x 203 2) ++ kc_s u3 g kc_x 205 1)) hz hin iw_MC t_MC tk_MC nk_MC rfl (by decide) wg_MC_33 rfl rfl rfl rfl (Nat.le_of_ble_eq_true rfl) d_MC_init_45 ?_
  refine kr_eq (ws' := (h0, .inr (4, [.ref a, .ref q1, .ref q2, .ref q3, .int 0, .int 0, .int 0])) :: ((kc_s u1 g kc_x 139 64 ++ kc_s u2 g kc_x 203 2) ++ kc_s u3 g kc_x 205 1)) rfl ?_
  refine kr_aload_n hz d_MC_init_48 rfl 0 rfl ?_
  refine kr_iconst (v := 0) hz d_MC_init_49 (by decide) ?_
  refine kr_put (ci := 4) (k := 4) (v := .int 0) (T := F_MC) (N := 7) (C := "SpendScript$Machine") (fs := [.ref a, .ref q1, .ref q2, .ref q3, .int 0, .int 0, .int 0]) (tl := ((kc_s u1 g kc_x 139 64 ++ kc_s u2 g kc_x 203 2) ++ kc_s u3 g kc_x 205 1)) hz iw_MC t_MC tk_MC nk_MC rfl (by decide) wg_MC_37 rfl rfl rfl (Nat.le_of_ble_eq_true rfl) d_MC_init_50 ?_
  refine kr_eq (ws' := (h0, .inr (4, [.ref a, .ref q1, .ref q2, .ref q3, .int 0, .int 0, .int 0])) :: ((kc_s u1 g kc_x 139 64 ++ kc_s u2 g kc_x 203 2) ++ kc_s u3 g kc_x 205 1)) rfl ?_
  refine kr_aload_n hz d_MC_init_53 rfl 0 rfl ?_
  refine kr_iconst (v := 0) hz d_MC_init_54 (by decide) ?_
  refine kr_put (ci := 4) (k := 5) (v := .int 0) (T := F_MC) (N := 7) (C := "SpendScript$Machine") (fs := [.ref a, .ref q1, .ref q2, .ref q3, .int 0, .int 0, .int 0]) (tl := ((kc_s u1 g kc_x 139 64 ++ kc_s u2 g kc_x 203 2) ++ kc_s u3 g kc_x 205 1)) hz iw_MC t_MC tk_MC nk_MC rfl (by decide) wg_MC_41 rfl rfl rfl (Nat.le_of_ble_eq_true rfl) d_MC_init_55 ?_
  refine kr_eq (ws' := (h0, .inr (4, [.ref a, .ref q1, .ref q2, .ref q3, .int 0, .int 0, .int 0])) :: ((kc_s u1 g kc_x 139 64 ++ kc_s u2 g kc_x 203 2) ++ kc_s u3 g kc_x 205 1)) rfl ?_
  refine kr_aload_n hz d_MC_init_58 rfl 0 rfl ?_
  refine kr_iconst (v := 0) hz d_MC_init_59 (by decide) ?_
  refine kr_put (ci := 4) (k := 6) (v := .int 0) (T := F_MC) (N := 7) (C := "SpendScript$Machine") (fs := [.ref a, .ref q1, .ref q2, .ref q3, .int 0, .int 0, .int 0]) (tl := ((kc_s u1 g kc_x 139 64 ++ kc_s u2 g kc_x 203 2) ++ kc_s u3 g kc_x 205 1)) hz iw_MC t_MC tk_MC nk_MC rfl (by decide) wg_MC_44 rfl rfl rfl (Nat.le_of_ble_eq_true rfl) d_MC_init_60 ?_
  refine kr_eq (ws' := (h0, .inr (4, [.ref a, .ref q1, .ref q2, .ref q3, .int 0, .int 0, .int 0])) :: ((kc_s u1 g kc_x 139 64 ++ kc_s u2 g kc_x 203 2) ++ kc_s u3 g kc_x 205 1)) rfl ?_
  refine kr_widen (a := 67) (b := 1068) (by show 0 + 1 + 63 + 1 + 1 + 1 + 0 ≤ 67; decide) (by show 0 + 3 + 1052 + 2 + 8 + 3 + 0 ≤ 1068; decide) ?_
  obtain ⟨w, hw⟩ : ∃ w : Nat → Nat, w = fun t => if t = 138 then h0 else if t = 10 then a else if t = 7 then b else if t < 203 then u1 t else if t < 205 then u2 t else u3 t := ⟨_, rfl⟩
  have hx : ∀ t, t ∈ [10, 139, 7] → u3 t = w t := fun t ht => by
    simp only [List.mem_cons, List.not_mem_nil, or_false] at ht
    rw [hw]
    rcases ht with rfl | rfl | rfl
    · exact hu3.2.1
    · exact hu3.2.2.1.trans hu1.symm
    · exact hu3.2.2.2
  have c_u1 : kc_s u1 g kc_x 139 64 = kc_s w g kc_x 139 64 := kc_cg (ext := []) (by decide +kernel) (fun t ht => by
    rcases ht with ht | ht
    · rw [hw]
      show u1 t = if t = 138 then h0 else if t = 10 then a else if t = 7 then b else if t < 203 then u1 t else if t < 205 then u2 t else u3 t
      repeat (first | rw [if_neg (by omega)] | rw [if_pos (by omega)])
    · cases ht)
  have c_u2 : kc_s u2 g kc_x 203 2 = kc_s w g kc_x 203 2 := kc_cg (ext := []) (by decide +kernel) (fun t ht => by
    rcases ht with ht | ht
    · rw [hw]
      show u2 t = if t = 138 then h0 else if t = 10 then a else if t = 7 then b else if t < 203 then u1 t else if t < 205 then u2 t else u3 t
      repeat (first | rw [if_neg (by omega)] | rw [if_pos (by omega)])
    · cases ht)
  have c_u3 : kc_s u3 g kc_x 205 1 = kc_s w g kc_x 205 1 := kc_cg (ext := [10, 139, 7]) (by decide +kernel) (fun t ht => by
    rcases ht with ht | ht
    · rw [hw]
      show u3 t = if t = 138 then h0 else if t = 10 then a else if t = 7 then b else if t < 203 then u1 t else if t < 205 then u2 t else u3 t
      repeat (first | rw [if_neg (by omega)] | rw [if_pos (by omega)])
    · exact hx t ht)
  refine kr_vret (u := w) hz hr hlk ⟨by rw [hw]; rfl, by rw [hw]; rfl, by rw [hw]; rfl⟩ ?_ d_MC_init_63
  rw [c_u1, c_u2, c_u3, kc_s_app (lo := 139) (a := 64) (b := 2), kc_s_app (lo := 139) (a := 66) (b := 1)]
  show kc_s w g kc_x 138 (1 + 67) = _
  rw [← kc_s_app, kc_s_1 ly_138]
  show (w 138, (Sum.inr (4, [.ref (w 10), .ref (w 139), .ref (w 203), .ref (w 205), .int (kc_x.1 138 4), .int (kc_x.1 138 5), .int (kc_x.1 138 6)]) : va_E)) :: kc_s w g kc_x 139 67 = _
  rw [kc_xa (k := 138) (by decide) (by decide), show w 138 = h0 by rw [hw]; rfl, show w 10 = a by rw [hw]; rfl, show w 139 = q1 by rw [hw]; exact hu1, show w 203 = q2 by rw [hw]; exact hu2, show w 205 = q3 by rw [hw]; exact hu3.1]
theorem d_SS_init_0 : decode b_SS_init 0 = .ok (.aload_n 0, 1) := by decide +kernel
theorem d_SS_init_1 : decode b_SS_init 1 = .ok (.invokespecial 1, 3) := by decide +kernel
theorem d_SS_init_4 : decode b_SS_init 4 = .ok (.aload_n 0, 1) := by decide +kernel
theorem d_SS_init_5 : decode b_SS_init 5 = .ok (.new 7, 3) := by decide +kernel
theorem d_SS_init_8 : decode b_SS_init 8 = .ok (.dup, 1) := by decide +kernel
theorem d_SS_init_9 : decode b_SS_init 9 = .ok (.bipush 120, 2) := by decide +kernel
theorem d_SS_init_11 : decode b_SS_init 11 = .ok (.invokespecial 11, 3) := by decide +kernel
theorem d_SS_init_14 : decode b_SS_init 14 = .ok (.putfield 14, 3) := by decide +kernel
theorem d_SS_init_17 : decode b_SS_init 17 = .ok (.aload_n 0, 1) := by decide +kernel
theorem d_SS_init_18 : decode b_SS_init 18 = .ok (.new 7, 3) := by decide +kernel
theorem d_SS_init_21 : decode b_SS_init 21 = .ok (.dup, 1) := by decide +kernel
theorem d_SS_init_22 : decode b_SS_init 22 = .ok (.bipush 120, 2) := by decide +kernel
theorem d_SS_init_24 : decode b_SS_init 24 = .ok (.invokespecial 11, 3) := by decide +kernel
theorem d_SS_init_27 : decode b_SS_init 27 = .ok (.putfield 18, 3) := by decide +kernel
theorem d_SS_init_30 : decode b_SS_init 30 = .ok (.aload_n 0, 1) := by decide +kernel
theorem d_SS_init_31 : decode b_SS_init 31 = .ok (.new 7, 3) := by decide +kernel
theorem d_SS_init_34 : decode b_SS_init 34 = .ok (.dup, 1) := by decide +kernel
theorem d_SS_init_35 : decode b_SS_init 35 = .ok (.bipush 32, 2) := by decide +kernel
theorem d_SS_init_37 : decode b_SS_init 37 = .ok (.invokespecial 11, 3) := by decide +kernel
theorem d_SS_init_40 : decode b_SS_init 40 = .ok (.putfield 21, 3) := by decide +kernel
theorem d_SS_init_43 : decode b_SS_init 43 = .ok (.aload_n 0, 1) := by decide +kernel
theorem d_SS_init_44 : decode b_SS_init 44 = .ok (.new 24, 3) := by decide +kernel
theorem d_SS_init_47 : decode b_SS_init 47 = .ok (.dup, 1) := by decide +kernel
theorem d_SS_init_48 : decode b_SS_init 48 = .ok (.invokespecial 26, 3) := by decide +kernel
theorem d_SS_init_51 : decode b_SS_init 51 = .ok (.putfield 27, 3) := by decide +kernel
theorem d_SS_init_54 : decode b_SS_init 54 = .ok (.aload_n 0, 1) := by decide +kernel
theorem d_SS_init_55 : decode b_SS_init 55 = .ok (.new 31, 3) := by decide +kernel
theorem d_SS_init_58 : decode b_SS_init 58 = .ok (.dup, 1) := by decide +kernel
theorem d_SS_init_59 : decode b_SS_init 59 = .ok (.invokespecial 33, 3) := by decide +kernel
theorem d_SS_init_62 : decode b_SS_init 62 = .ok (.putfield 34, 3) := by decide +kernel
theorem d_SS_init_65 : decode b_SS_init 65 = .ok (.aload_n 0, 1) := by decide +kernel
theorem d_SS_init_66 : decode b_SS_init 66 = .ok (.new 31, 3) := by decide +kernel
theorem d_SS_init_69 : decode b_SS_init 69 = .ok (.dup, 1) := by decide +kernel
theorem d_SS_init_70 : decode b_SS_init 70 = .ok (.invokespecial 33, 3) := by decide +kernel
theorem d_SS_init_73 : decode b_SS_init 73 = .ok (.putfield 38, 3) := by decide +kernel
theorem d_SS_init_76 : decode b_SS_init 76 = .ok (.aload_n 0, 1) := by decide +kernel
theorem d_SS_init_77 : decode b_SS_init 77 = .ok (.new 41, 3) := by decide +kernel
theorem d_SS_init_80 : decode b_SS_init 80 = .ok (.dup, 1) := by decide +kernel
theorem d_SS_init_81 : decode b_SS_init 81 = .ok (.aload_n 0, 1) := by decide +kernel
theorem d_SS_init_82 : decode b_SS_init 82 = .ok (.getfield 34, 3) := by decide +kernel
theorem d_SS_init_85 : decode b_SS_init 85 = .ok (.aload_n 0, 1) := by decide +kernel
theorem d_SS_init_86 : decode b_SS_init 86 = .ok (.getfield 27, 3) := by decide +kernel
theorem d_SS_init_89 : decode b_SS_init 89 = .ok (.invokespecial 43, 3) := by decide +kernel
theorem d_SS_init_92 : decode b_SS_init 92 = .ok (.putfield 46, 3) := by decide +kernel
theorem d_SS_init_95 : decode b_SS_init 95 = .ok (.aload_n 0, 1) := by decide +kernel
theorem d_SS_init_96 : decode b_SS_init 96 = .ok (.iconst (-1), 1) := by decide +kernel
theorem d_SS_init_97 : decode b_SS_init 97 = .ok (.putfield 50, 3) := by decide +kernel
theorem d_SS_init_100 : decode b_SS_init 100 = .ok (.aload_n 0, 1) := by decide +kernel
theorem d_SS_init_101 : decode b_SS_init 101 = .ok (.iconst (-1), 1) := by decide +kernel
theorem d_SS_init_102 : decode b_SS_init 102 = .ok (.putfield 54, 3) := by decide +kernel
theorem d_SS_init_105 : decode b_SS_init 105 = .ok (.aload_n 0, 1) := by decide +kernel
theorem d_SS_init_106 : decode b_SS_init 106 = .ok (.iconst (-1), 1) := by decide +kernel
theorem d_SS_init_107 : decode b_SS_init 107 = .ok (.putfield 57, 3) := by decide +kernel
theorem d_SS_init_110 : decode b_SS_init 110 = .ok (.return_, 1) := by decide +kernel
theorem wo_SS_1 : Cond.methodLink "SpendScript" 1 objectInit ∈ sp_ws := (sp_tb (List.mem_of_getElem? (i := 16) (by decide +kernel)))
theorem wc_SS_7 : Cond.classLink "SpendScript" 7 "SpendScript$ByteString" ∈ sp_ws := (sp_tb (List.mem_of_getElem? (i := 19) (by decide +kernel)))
theorem wl_SS_11 : Cond.methodLink "SpendScript" 11 y_BS_init ∈ sp_ws := (sp_tb (List.mem_of_getElem? (i := 21) (by decide +kernel)))
theorem wg_SS_14 : Cond.fieldLink "SpendScript" 14 (F_SS 0).1 (F_SS 0).2.1 (F_SS 0).2.2.1 ∈ sp_ws := (sp_tb (List.mem_of_getElem? (i := 128) (by decide +kernel)))
theorem wg_SS_18 : Cond.fieldLink "SpendScript" 18 (F_SS 1).1 (F_SS 1).2.1 (F_SS 1).2.2.1 ∈ sp_ws := (sp_tb (List.mem_of_getElem? (i := 129) (by decide +kernel)))
theorem wg_SS_21 : Cond.fieldLink "SpendScript" 21 (F_SS 2).1 (F_SS 2).2.1 (F_SS 2).2.2.1 ∈ sp_ws := (sp_tb (List.mem_of_getElem? (i := 130) (by decide +kernel)))
theorem wc_SS_24 : Cond.classLink "SpendScript" 24 "SpendScript$SignatureTable" ∈ sp_ws := (sp_tb (List.mem_of_getElem? (i := 33) (by decide +kernel)))
theorem wi_ST : Cond.instantiable "SpendScript$SignatureTable" 3 ∈ sp_ws := (sp_tb (List.mem_of_getElem? (i := 34) (by decide +kernel)))
theorem wn_ST : Cond.initialized "SpendScript$SignatureTable" ∈ sp_ws := (sp_tb (List.mem_of_getElem? (i := 3) (by decide +kernel)))
theorem wz_ST : Cond.code y_ST_init b_ST_init 1 none ∈ sp_ws := (sp_tb (List.mem_of_getElem? (i := 37) (by decide +kernel)))
theorem wl_SS_26 : Cond.methodLink "SpendScript" 26 y_ST_init ∈ sp_ws := (sp_tb (List.mem_of_getElem? (i := 35) (by decide +kernel)))
theorem wj_ST : Cond.instanceMethod y_ST_init ∈ sp_ws := (sp_tb (List.mem_of_getElem? (i := 36) (by decide +kernel)))
theorem wg_SS_27 : Cond.fieldLink "SpendScript" 27 (F_SS 3).1 (F_SS 3).2.1 (F_SS 3).2.2.1 ∈ sp_ws := (sp_tb (List.mem_of_getElem? (i := 131) (by decide +kernel)))
theorem wc_SS_31 : Cond.classLink "SpendScript" 31 "SpendScript$ItemStack" ∈ sp_ws := (sp_tb (List.mem_of_getElem? (i := 49) (by decide +kernel)))
theorem wl_SS_33 : Cond.methodLink "SpendScript" 33 y_IS_init ∈ sp_ws := (sp_tb (List.mem_of_getElem? (i := 51) (by decide +kernel)))
theorem wg_SS_34 : Cond.fieldLink "SpendScript" 34 (F_SS 4).1 (F_SS 4).2.1 (F_SS 4).2.2.1 ∈ sp_ws := (sp_tb (List.mem_of_getElem? (i := 132) (by decide +kernel)))
theorem wg_SS_38 : Cond.fieldLink "SpendScript" 38 (F_SS 5).1 (F_SS 5).2.1 (F_SS 5).2.2.1 ∈ sp_ws := (sp_tb (List.mem_of_getElem? (i := 133) (by decide +kernel)))
theorem wc_SS_41 : Cond.classLink "SpendScript" 41 "SpendScript$Machine" ∈ sp_ws := (sp_tb (List.mem_of_getElem? (i := 68) (by decide +kernel)))
theorem wi_MC : Cond.instantiable "SpendScript$Machine" 7 ∈ sp_ws := (sp_tb (List.mem_of_getElem? (i := 69) (by decide +kernel)))
theorem wn_MC : Cond.initialized "SpendScript$Machine" ∈ sp_ws := (sp_tb (List.mem_of_getElem? (i := 5) (by decide +kernel)))
theorem wz_MC : Cond.code y_MC_init b_MC_init 3 none ∈ sp_ws := (sp_tb (List.mem_of_getElem? (i := 72) (by decide +kernel)))
theorem wl_SS_43 : Cond.methodLink "SpendScript" 43 y_MC_init ∈ sp_ws := (sp_tb (List.mem_of_getElem? (i := 70) (by decide +kernel)))
theorem wj_MC : Cond.instanceMethod y_MC_init ∈ sp_ws := (sp_tb (List.mem_of_getElem? (i := 71) (by decide +kernel)))
theorem wg_SS_46 : Cond.fieldLink "SpendScript" 46 (F_SS 6).1 (F_SS 6).2.1 (F_SS 6).2.2.1 ∈ sp_ws := (sp_tb (List.mem_of_getElem? (i := 134) (by decide +kernel)))
theorem wg_SS_50 : Cond.fieldLink "SpendScript" 50 (F_SS 7).1 (F_SS 7).2.1 (F_SS 7).2.2.1 ∈ sp_ws := (sp_tb (List.mem_of_getElem? (i := 135) (by decide +kernel)))
theorem wg_SS_54 : Cond.fieldLink "SpendScript" 54 (F_SS 8).1 (F_SS 8).2.1 (F_SS 8).2.2.1 ∈ sp_ws := (sp_tb (List.mem_of_getElem? (i := 136) (by decide +kernel)))
theorem wg_SS_57 : Cond.fieldLink "SpendScript" 57 (F_SS 9).1 (F_SS 9).2.1 (F_SS 9).2.2.1 ∈ sp_ws := (sp_tb (List.mem_of_getElem? (i := 137) (by decide +kernel)))
set_option maxRecDepth 100000 in
set_option maxHeartbeats 4000000 in
theorem kn_SS (l : Launch) (D : va_G) (g : kc_G) (h0 : Nat) : kc_M l D g y_SS_init b_SS_init 1 { frames := 4, cells := 205, slots := 3482, locals := 120 } [.ref h0] [(h0, .inr (6, [.null, .null, .null, .null, .null, .null, .null, .int 0, .int 0, .int 0]))] 205 3482 (fun u => u 0 = h0) (fun u => kc_s u g kc_x 0 206) := by
  refine kc_enter (ls := [(0, .ref h0)]) (by decide +kernel) (Nat.le_of_ble_eq_true rfl) rfl ?_
  intro p e s m args below meth c hz hr hlk hin
  refine kr_aload_n hz d_SS_init_0 rfl 0 rfl ?_
  refine kr_objInit hz wo_SS_1 wa_oi wa_oc (Nat.le_of_ble_eq_true rfl) (Nat.le_of_ble_eq_true rfl) d_SS_init_1 ?_
  refine kr_aload_n hz d_SS_init_4 rfl 0 rfl ?_
  refine kr_new (C := "SpendScript$ByteString") (T := F_BS) (N := 2) (ci := 0) (fs := [.null, .int 0]) hz iw_BS t_BS tk_BS wc_SS_7 wi_BS wn_BS rfl (kd_BS) (by show 0 + 1 ≤ 205; decide) (by show 0 + 2 ≤ 3482; decide) d_SS_init_5 (fun q1 => ?_)
  refine kr_dup hz d_SS_init_8 rfl ?_
  refine kr_bipush (v := 120) hz d_SS_init_9 (by decide) ?_
  refine kr_ctor (n := 1) (As := [.int 120]) (st := [.ref q1, .ref h0]) (wr := ((h0, .inr (6, [.null, .null, .null, .null, .null, .null, .null, .int 0, .int 0, .int 0])) :: [])) (q := q1) (e0 := .inr (0, [.null, .int 0])) hz (kn_BS l D g 1 120 120 q1 ly_1 ly_2 (by decide) (by decide) (by decide) (by decide)) wz_BS wn_BS wl_SS_11 ⟨by decide +kernel, by decide +kernel, by decide +kernel⟩ wj_BS rfl ⟨rfl, rfl, Nat.le_of_ble_eq_true rfl, Nat.le_of_ble_eq_true rfl⟩ ⟨by show 0 + 1 + 1 ≤ 205; decide, by show 0 + 2 + 120 ≤ 3482; decide⟩ rfl rfl (Nat.le_of_ble_eq_true rfl) d_SS_init_11 (fun u1 hu1 => ?_)
  refine kr_putF (ci := 6) (k := 0) (v := .ref q1) (T := F_SS) (N := 10) (C := "SpendScript") (fs := [.null, .null, .null, .null, .null, .null, .null, .int 0, .int 0, .int 0]) (tl := kc_s u1 g kc_x 1 2) hz hin iw_SS t_SS tk_SS nk_SS rfl (by decide) wg_SS_14 rfl rfl rfl rfl (Nat.le_of_ble_eq_true rfl) d_SS_init_14 ?_
  refine kr_eq (ws' := (h0, .inr (6, [.ref q1, .null, .null, .null, .null, .null, .null, .int 0, .int 0, .int 0])) :: kc_s u1 g kc_x 1 2) rfl ?_
  refine kr_aload_n hz d_SS_init_17 rfl 0 rfl ?_
  refine kr_new (C := "SpendScript$ByteString") (T := F_BS) (N := 2) (ci := 0) (fs := [.null, .int 0]) hz iw_BS t_BS tk_BS wc_SS_7 wi_BS wn_BS rfl (kd_BS) (by show 0 + 1 + 1 + 1 ≤ 205; decide) (by show 0 + 2 + 120 + 2 ≤ 3482; decide) d_SS_init_18 (fun q2 => ?_)
  refine kr_dup hz d_SS_init_21 rfl ?_
  refine kr_bipush (v := 120) hz d_SS_init_22 (by decide) ?_
  refine kr_ctor (n := 1) (As := [.int 120]) (st := [.ref q2, .ref h0]) (wr := ((h0, .inr (6, [.ref q1, .null, .null, .null, .null, .null, .null, .int 0, .int 0, .int 0])) :: kc_s u1 g kc_x 1 2)) (q := q2) (e0 := .inr (0, [.null, .int 0])) hz (kn_BS l D g 3 120 120 q2 ly_3 ly_4 (by decide) (by decide) (by decide) (by decide)) wz_BS wn_BS wl_SS_11 ⟨by decide +kernel, by decide +kernel, by decide +kernel⟩ wj_BS rfl ⟨rfl, rfl, Nat.le_of_ble_eq_true rfl, Nat.le_of_ble_eq_true rfl⟩ ⟨by show 0 + 1 + 1 + 1 + 1 ≤ 205; decide, by show 0 + 2 + 120 + 2 + 120 ≤ 3482; decide⟩ rfl rfl (Nat.le_of_ble_eq_true rfl) d_SS_init_24 (fun u2 hu2 => ?_)
  refine kr_putF (ci := 6) (k := 1) (v := .ref q2) (T := F_SS) (N := 10) (C := "SpendScript") (fs := [.ref q1, .null, .null, .null, .null, .null, .null, .int 0, .int 0, .int 0]) (tl := (kc_s u1 g kc_x 1 2 ++ kc_s u2 g kc_x 3 2)) hz hin iw_SS t_SS tk_SS nk_SS rfl (by decide) wg_SS_18 rfl rfl rfl rfl (Nat.le_of_ble_eq_true rfl) d_SS_init_27 ?_
  refine kr_eq (ws' := (h0, .inr (6, [.ref q1, .ref q2, .null, .null, .null, .null, .null, .int 0, .int 0, .int 0])) :: (kc_s u1 g kc_x 1 2 ++ kc_s u2 g kc_x 3 2)) rfl ?_
  refine kr_aload_n hz d_SS_init_30 rfl 0 rfl ?_
  refine kr_new (C := "SpendScript$ByteString") (T := F_BS) (N := 2) (ci := 0) (fs := [.null, .int 0]) hz iw_BS t_BS tk_BS wc_SS_7 wi_BS wn_BS rfl (kd_BS) (by show 0 + 1 + 1 + 1 + 1 + 1 ≤ 205; decide) (by show 0 + 2 + 120 + 2 + 120 + 2 ≤ 3482; decide) d_SS_init_31 (fun q3 => ?_)
  refine kr_dup hz d_SS_init_34 rfl ?_
  refine kr_bipush (v := 32) hz d_SS_init_35 (by decide) ?_
  refine kr_ctor (n := 1) (As := [.int 32]) (st := [.ref q3, .ref h0]) (wr := ((h0, .inr (6, [.ref q1, .ref q2, .null, .null, .null, .null, .null, .int 0, .int 0, .int 0])) :: (kc_s u1 g kc_x 1 2 ++ kc_s u2 g kc_x 3 2))) (q := q3) (e0 := .inr (0, [.null, .int 0])) hz (kn_BS l D g 5 32 32 q3 ly_5 ly_6 (by decide) (by decide) (by decide) (by decide)) wz_BS wn_BS wl_SS_11 ⟨by decide +kernel, by decide +kernel, by decide +kernel⟩ wj_BS rfl ⟨rfl, rfl, Nat.le_of_ble_eq_true rfl, Nat.le_of_ble_eq_true rfl⟩ ⟨by show 0 + 1 + 1 + 1 + 1 + 1 + 1 ≤ 205; decide, by show 0 + 2 + 120 + 2 + 120 + 2 + 32 ≤ 3482; decide⟩ rfl rfl (Nat.le_of_ble_eq_true rfl) d_SS_init_37 (fun u3 hu3 => ?_)
  refine kr_putF (ci := 6) (k := 2) (v := .ref q3) (T := F_SS) (N := 10) (C := "SpendScript") (fs := [.ref q1, .ref q2, .null, .null, .null, .null, .null, .int 0, .int 0, .int 0]) (tl := ((kc_s u1 g kc_x 1 2 ++ kc_s u2 g kc_x 3 2) ++ kc_s u3 g kc_x 5 2)) hz hin iw_SS t_SS tk_SS nk_SS rfl (by decide) wg_SS_21 rfl rfl rfl rfl (Nat.le_of_ble_eq_true rfl) d_SS_init_40 ?_
  refine kr_eq (ws' := (h0, .inr (6, [.ref q1, .ref q2, .ref q3, .null, .null, .null, .null, .int 0, .int 0, .int 0])) :: ((kc_s u1 g kc_x 1 2 ++ kc_s u2 g kc_x 3 2) ++ kc_s u3 g kc_x 5 2)) rfl ?_
  refine kr_aload_n hz d_SS_init_43 rfl 0 rfl ?_
  refine kr_new (C := "SpendScript$SignatureTable") (T := F_ST) (N := 3) (ci := 2) (fs := [.null, .null, .int 0]) hz iw_ST t_ST tk_ST wc_SS_24 wi_ST wn_ST rfl (kd_ST) (by show 0 + 1 + 1 + 1 + 1 + 1 + 1 + 1 ≤ 205; decide) (by show 0 + 2 + 120 + 2 + 120 + 2 + 32 + 3 ≤ 3482; decide) d_SS_init_44 (fun q4 => ?_)
  refine kr_dup hz d_SS_init_47 rfl ?_
  refine kr_ctor (n := 0) (As := []) (st := [.ref q4, .ref h0]) (wr := ((h0, .inr (6, [.ref q1, .ref q2, .ref q3, .null, .null, .null, .null, .int 0, .int 0, .int 0])) :: ((kc_s u1 g kc_x 1 2 ++ kc_s u2 g kc_x 3 2) ++ kc_s u3 g kc_x 5 2))) (q := q4) (e0 := .inr (2, [.null, .null, .int 0])) hz (kn_ST l D g q4) wz_ST wn_ST wl_SS_26 ⟨by decide +kernel, by decide +kernel, by decide +kernel⟩ wj_ST rfl ⟨rfl, rfl, Nat.le_of_ble_eq_true rfl, Nat.le_of_ble_eq_true rfl⟩ ⟨by show 0 + 1 + 1 + 1 + 1 + 1 + 1 + 1 + 2 ≤ 205; decide, by show 0 + 2 + 120 + 2 + 120 + 2 + 32 + 3 + 16 ≤ 3482; decide⟩ rfl rfl (Nat.le_of_ble_eq_true rfl) d_SS_init_48 (fun u4 hu4 => ?_)
  refine kr_putF (ci := 6) (k := 3) (v := .ref q4) (T := F_SS) (N := 10) (C := "SpendScript") (fs := [.ref q1, .ref q2, .ref q3, .null, .null, .null, .null, .int 0, .int 0, .int 0]) (tl := (((kc_s u1 g kc_x 1 2 ++ kc_s u2 g kc_x 3 2) ++ kc_s u3 g kc_x 5 2) ++ kc_s u4 g kc_x 7 3)) hz hin iw_SS t_SS tk_SS nk_SS rfl (by decide) wg_SS_27 rfl rfl rfl rfl (Nat.le_of_ble_eq_true rfl) d_SS_init_51 ?_
  refine kr_eq (ws' := (h0, .inr (6, [.ref q1, .ref q2, .ref q3, .ref q4, .null, .null, .null, .int 0, .int 0, .int 0])) :: (((kc_s u1 g kc_x 1 2 ++ kc_s u2 g kc_x 3 2) ++ kc_s u3 g kc_x 5 2) ++ kc_s u4 g kc_x 7 3)) rfl ?_
  refine kr_aload_n hz d_SS_init_54 rfl 0 rfl ?_
  refine kr_new (C := "SpendScript$ItemStack") (T := F_IS) (N := 3) (ci := 1) (fs := [.null, .null, .int 0]) hz iw_IS t_IS tk_IS wc_SS_31 wi_IS wn_IS rfl (kd_IS) (by show 0 + 1 + 1 + 1 + 1 + 1 + 1 + 1 + 2 + 1 ≤ 205; decide) (by show 0 + 2 + 120 + 2 + 120 + 2 + 32 + 3 + 16 + 3 ≤ 3482; decide) d_SS_init_55 (fun q5 => ?_)
  refine kr_dup hz d_SS_init_58 rfl ?_
  refine kr_ctor (n := 0) (As := []) (st := [.ref q5, .ref h0]) (wr := ((h0, .inr (6, [.ref q1, .ref q2, .ref q3, .ref q4, .null, .null, .null, .int 0, .int 0, .int 0])) :: (((kc_s u1 g kc_x 1 2 ++ kc_s u2 g kc_x 3 2) ++ kc_s u3 g kc_x 5 2) ++ kc_s u4 g kc_x 7 3))) (q := q5) (e0 := .inr (1, [.null, .null, .int 0])) hz (kn_IS l D g 10 q5 (by decide)) wz_IS wn_IS wl_SS_33 ⟨by decide +kernel, by decide +kernel, by decide +kernel⟩ wj_IS rfl ⟨rfl, rfl, Nat.le_of_ble_eq_true rfl, Nat.le_of_ble_eq_true rfl⟩ ⟨by show 0 + 1 + 1 + 1 + 1 + 1 + 1 + 1 + 2 + 1 + 63 ≤ 205; decide, by show 0 + 2 + 120 + 2 + 120 + 2 + 32 + 3 + 16 + 3 + 1052 ≤ 3482; decide⟩ rfl rfl (Nat.le_of_ble_eq_true rfl) d_SS_init_59 (fun u5 hu5 => ?_)
  refine kr_putF (ci := 6) (k := 4) (v := .ref q5) (T := F_SS) (N := 10) (C := "SpendScript") (fs := [.ref q1, .ref q2, .ref q3, .ref q4, .null, .null, .null, .int 0, .int 0, .int 0]) (tl := ((((kc_s u1 g kc_x 1 2 ++ kc_s u2 g kc_x 3 2) ++ kc_s u3 g kc_x 5 2) ++ kc_s u4 g kc_x 7 3) ++ kc_s u5 g kc_x 10 64)) hz hin iw_SS t_SS tk_SS nk_SS rfl (by decide) wg_SS_34 rfl rfl rfl rfl (Nat.le_of_ble_eq_true rfl) d_SS_init_62 ?_
  refine kr_eq (ws' := (h0, .inr (6, [.ref q1, .ref q2, .ref q3, .ref q4, .ref q5, .null, .null, .int 0, .int 0, .int 0])) :: ((((kc_s u1 g kc_x 1 2 ++ kc_s u2 g kc_x 3 2) ++ kc_s u3 g kc_x 5 2) ++ kc_s u4 g kc_x 7 3) ++ kc_s u5 g kc_x 10 64)) rfl ?_
  refine kr_aload_n hz d_SS_init_65 rfl 0 rfl ?_
  refine kr_new (C := "SpendScript$ItemStack") (T := F_IS) (N := 3) (ci := 1) (fs := [.null, .null, .int 0]) hz iw_IS t_IS tk_IS wc_SS_31 wi_IS wn_IS rfl (kd_IS) (by show 0 + 1 + 1 + 1 + 1 + 1 + 1 + 1 + 2 + 1 + 63 + 1 ≤ 205; decide) (by show 0 + 2 + 120 + 2 + 120 + 2 + 32 + 3 + 16 + 3 + 1052 + 3 ≤ 3482; decide) d_SS_init_66 (fun q6 => ?_)
  refine kr_dup hz d_SS_init_69 rfl ?_
  refine kr_ctor (n := 0) (As := []) (st := [.ref q6, .ref h0]) (wr := ((h0, .inr (6, [.ref q1, .ref q2, .ref q3, .ref q4, .ref q5, .null, .null, .int 0, .int 0, .int 0])) :: ((((kc_s u1 g kc_x 1 2 ++ kc_s u2 g kc_x 3 2) ++ kc_s u3 g kc_x 5 2) ++ kc_s u4 g kc_x 7 3) ++ kc_s u5 g kc_x 10 64))) (q := q6) (e0 := .inr (1, [.null, .null, .int 0])) hz (kn_IS l D g 74 q6 (by decide)) wz_IS wn_IS wl_SS_33 ⟨by decide +kernel, by decide +kernel, by decide +kernel⟩ wj_IS rfl ⟨rfl, rfl, Nat.le_of_ble_eq_true rfl, Nat.le_of_ble_eq_true rfl⟩ ⟨by show 0 + 1 + 1 + 1 + 1 + 1 + 1 + 1 + 2 + 1 + 63 + 1 + 63 ≤ 205; decide, by show 0 + 2 + 120 + 2 + 120 + 2 + 32 + 3 + 16 + 3 + 1052 + 3 + 1052 ≤ 3482; decide⟩ rfl rfl (Nat.le_of_ble_eq_true rfl) d_SS_init_70 (fun u6 hu6 => ?_)
  refine kr_putF (ci := 6) (k := 5) (v := .ref q6) (T := F_SS) (N := 10) (C := "SpendScript") (fs := [.ref q1, .ref q2, .ref q3, .ref q4, .ref q5, .null, .null, .int 0, .int 0, .int 0]) (tl := (((((kc_s u1 g kc_x 1 2 ++ kc_s u2 g kc_x 3 2) ++ kc_s u3 g kc_x 5 2) ++ kc_s u4 g kc_x 7 3) ++ kc_s u5 g kc_x 10 64) ++ kc_s u6 g kc_x 74 64)) hz hin iw_SS t_SS tk_SS nk_SS rfl (by decide) wg_SS_38 rfl rfl rfl rfl (Nat.le_of_ble_eq_true rfl) d_SS_init_73 ?_
  refine kr_eq (ws' := (h0, .inr (6, [.ref q1, .ref q2, .ref q3, .ref q4, .ref q5, .ref q6, .null, .int 0, .int 0, .int 0])) :: (((((kc_s u1 g kc_x 1 2 ++ kc_s u2 g kc_x 3 2) ++ kc_s u3 g kc_x 5 2) ++ kc_s u4 g kc_x 7 3) ++ kc_s u5 g kc_x 10 64) ++ kc_s u6 g kc_x 74 64)) rfl ?_
  refine kr_aload_n hz d_SS_init_76 rfl 0 rfl ?_
  refine kr_new (C := "SpendScript$Machine") (T := F_MC) (N := 7) (ci := 4) (fs := [.null, .null, .null, .null, .int 0, .int 0, .int 0]) hz iw_MC t_MC tk_MC wc_SS_41 wi_MC wn_MC rfl (kd_MC) (by show 0 + 1 + 1 + 1 + 1 + 1 + 1 + 1 + 2 + 1 + 63 + 1 + 63 + 1 ≤ 205; decide) (by show 0 + 2 + 120 + 2 + 120 + 2 + 32 + 3 + 16 + 3 + 1052 + 3 + 1052 + 7 ≤ 3482; decide) d_SS_init_77 (fun q7 => ?_)
  refine kr_dup hz d_SS_init_80 rfl ?_
  refine kr_aload_n hz d_SS_init_81 rfl 0 rfl ?_
  refine kr_get (ci := 6) (k := 4) (T := F_SS) (N := 10) (C := "SpendScript") (fs := [.ref q1, .ref q2, .ref q3, .ref q4, .ref q5, .ref q6, .null, .int 0, .int 0, .int 0]) (tl := ((((((kc_s u1 g kc_x 1 2 ++ kc_s u2 g kc_x 3 2) ++ kc_s u3 g kc_x 5 2) ++ kc_s u4 g kc_x 7 3) ++ kc_s u5 g kc_x 10 64) ++ kc_s u6 g kc_x 74 64) ++ [(q7, .inr (4, [.null, .null, .null, .null, .int 0, .int 0, .int 0]))])) hz iw_SS rfl (by decide) wg_SS_34 rfl d_SS_init_82 ?_
  refine kr_aload_n hz d_SS_init_85 rfl 0 rfl ?_
  refine kr_get (ci := 6) (k := 3) (T := F_SS) (N := 10) (C := "SpendScript") (fs := [.ref q1, .ref q2, .ref q3, .ref q4, .ref q5, .ref q6, .null, .int 0, .int 0, .int 0]) (tl := ((((((kc_s u1 g kc_x 1 2 ++ kc_s u2 g kc_x 3 2) ++ kc_s u3 g kc_x 5 2) ++ kc_s u4 g kc_x 7 3) ++ kc_s u5 g kc_x 10 64) ++ kc_s u6 g kc_x 74 64) ++ [(q7, .inr (4, [.null, .null, .null, .null, .int 0, .int 0, .int 0]))])) hz iw_SS rfl (by decide) wg_SS_27 rfl d_SS_init_86 ?_
  refine kr_ctor (n := 2) (As := [.ref q5, .ref q4]) (st := [.ref q7, .ref h0]) (wr := ((h0, .inr (6, [.ref q1, .ref q2, .ref q3, .ref q4, .ref q5, .ref q6, .null, .int 0, .int 0, .int 0])) :: (((((kc_s u1 g kc_x 1 2 ++ kc_s u2 g kc_x 3 2) ++ kc_s u3 g kc_x 5 2) ++ kc_s u4 g kc_x 7 3) ++ kc_s u5 g kc_x 10 64) ++ kc_s u6 g kc_x 74 64))) (q := q7) (e0 := .inr (4, [.null, .null, .null, .null, .int 0, .int 0, .int 0])) hz (kn_MC l D g q7 (q5) (q4)) wz_MC wn_MC wl_SS_43 ⟨by decide +kernel, by decide +kernel, by decide +kernel⟩ wj_MC rfl ⟨rfl, rfl, Nat.le_of_ble_eq_true rfl, Nat.le_of_ble_eq_true rfl⟩ ⟨by show 0 + 1 + 1 + 1 + 1 + 1 + 1 + 1 + 2 + 1 + 63 + 1 + 63 + 1 + 67 ≤ 205; decide, by show 0 + 2 + 120 + 2 + 120 + 2 + 32 + 3 + 16 + 3 + 1052 + 3 + 1052 + 7 + 1068 ≤ 3482; decide⟩ rfl rfl (Nat.le_of_ble_eq_true rfl) d_SS_init_89 (fun u7 hu7 => ?_)
  refine kr_putF (ci := 6) (k := 6) (v := .ref q7) (T := F_SS) (N := 10) (C := "SpendScript") (fs := [.ref q1, .ref q2, .ref q3, .ref q4, .ref q5, .ref q6, .null, .int 0, .int 0, .int 0]) (tl := ((((((kc_s u1 g kc_x 1 2 ++ kc_s u2 g kc_x 3 2) ++ kc_s u3 g kc_x 5 2) ++ kc_s u4 g kc_x 7 3) ++ kc_s u5 g kc_x 10 64) ++ kc_s u6 g kc_x 74 64) ++ kc_s u7 g kc_x 138 68)) hz hin iw_SS t_SS tk_SS nk_SS rfl (by decide) wg_SS_46 rfl rfl rfl rfl (Nat.le_of_ble_eq_true rfl) d_SS_init_92 ?_
  refine kr_eq (ws' := (h0, .inr (6, [.ref q1, .ref q2, .ref q3, .ref q4, .ref q5, .ref q6, .ref q7, .int 0, .int 0, .int 0])) :: ((((((kc_s u1 g kc_x 1 2 ++ kc_s u2 g kc_x 3 2) ++ kc_s u3 g kc_x 5 2) ++ kc_s u4 g kc_x 7 3) ++ kc_s u5 g kc_x 10 64) ++ kc_s u6 g kc_x 74 64) ++ kc_s u7 g kc_x 138 68)) rfl ?_
  refine kr_aload_n hz d_SS_init_95 rfl 0 rfl ?_
  refine kr_iconst (v := (-1)) hz d_SS_init_96 (by decide) ?_
  refine kr_put (ci := 6) (k := 7) (v := .int (-1)) (T := F_SS) (N := 10) (C := "SpendScript") (fs := [.ref q1, .ref q2, .ref q3, .ref q4, .ref q5, .ref q6, .ref q7, .int 0, .int 0, .int 0]) (tl := ((((((kc_s u1 g kc_x 1 2 ++ kc_s u2 g kc_x 3 2) ++ kc_s u3 g kc_x 5 2) ++ kc_s u4 g kc_x 7 3) ++ kc_s u5 g kc_x 10 64) ++ kc_s u6 g kc_x 74 64) ++ kc_s u7 g kc_x 138 68)) hz iw_SS t_SS tk_SS nk_SS rfl (by decide) wg_SS_50 rfl rfl rfl (Nat.le_of_ble_eq_true rfl) d_SS_init_97 ?_
  refine kr_eq (ws' := (h0, .inr (6, [.ref q1, .ref q2, .ref q3, .ref q4, .ref q5, .ref q6, .ref q7, .int (-1), .int 0, .int 0])) :: ((((((kc_s u1 g kc_x 1 2 ++ kc_s u2 g kc_x 3 2) ++ kc_s u3 g kc_x 5 2) ++ kc_s u4 g kc_x 7 3) ++ kc_s u5 g kc_x 10 64) ++ kc_s u6 g kc_x 74 64) ++ kc_s u7 g kc_x 138 68)) rfl ?_
  refine kr_aload_n hz d_SS_init_100 rfl 0 rfl ?_
  refine kr_iconst (v := (-1)) hz d_SS_init_101 (by decide) ?_
  refine kr_put (ci := 6) (k := 8) (v := .int (-1)) (T := F_SS) (N := 10) (C := "SpendScript") (fs := [.ref q1, .ref q2, .ref q3, .ref q4, .ref q5, .ref q6, .ref q7, .int (-1), .int 0, .int 0]) (tl := ((((((kc_s u1 g kc_x 1 2 ++ kc_s u2 g kc_x 3 2) ++ kc_s u3 g kc_x 5 2) ++ kc_s u4 g kc_x 7 3) ++ kc_s u5 g kc_x 10 64) ++ kc_s u6 g kc_x 74 64) ++ kc_s u7 g kc_x 138 68)) hz iw_SS t_SS tk_SS nk_SS rfl (by decide) wg_SS_54 rfl rfl rfl (Nat.le_of_ble_eq_true rfl) d_SS_init_102 ?_
  refine kr_eq (ws' := (h0, .inr (6, [.ref q1, .ref q2, .ref q3, .ref q4, .ref q5, .ref q6, .ref q7, .int (-1), .int (-1), .int 0])) :: ((((((kc_s u1 g kc_x 1 2 ++ kc_s u2 g kc_x 3 2) ++ kc_s u3 g kc_x 5 2) ++ kc_s u4 g kc_x 7 3) ++ kc_s u5 g kc_x 10 64) ++ kc_s u6 g kc_x 74 64) ++ kc_s u7 g kc_x 138 68)) rfl ?_
  refine kr_aload_n hz d_SS_init_105 rfl 0 rfl ?_
  refine kr_iconst (v := (-1)) hz d_SS_init_106 (by decide) ?_
  refine kr_put (ci := 6) (k := 9) (v := .int (-1)) (T := F_SS) (N := 10) (C := "SpendScript") (fs := [.ref q1, .ref q2, .ref q3, .ref q4, .ref q5, .ref q6, .ref q7, .int (-1), .int (-1), .int 0]) (tl := ((((((kc_s u1 g kc_x 1 2 ++ kc_s u2 g kc_x 3 2) ++ kc_s u3 g kc_x 5 2) ++ kc_s u4 g kc_x 7 3) ++ kc_s u5 g kc_x 10 64) ++ kc_s u6 g kc_x 74 64) ++ kc_s u7 g kc_x 138 68)) hz iw_SS t_SS tk_SS nk_SS rfl (by decide) wg_SS_57 rfl rfl rfl (Nat.le_of_ble_eq_true rfl) d_SS_init_107 ?_
  refine kr_eq (ws' := (h0, .inr (6, [.ref q1, .ref q2, .ref q3, .ref q4, .ref q5, .ref q6, .ref q7, .int (-1), .int (-1), .int (-1)])) :: ((((((kc_s u1 g kc_x 1 2 ++ kc_s u2 g kc_x 3 2) ++ kc_s u3 g kc_x 5 2) ++ kc_s u4 g kc_x 7 3) ++ kc_s u5 g kc_x 10 64) ++ kc_s u6 g kc_x 74 64) ++ kc_s u7 g kc_x 138 68)) rfl ?_
  refine kr_widen (a := 205) (b := 3482) (by show 0 + 1 + 1 + 1 + 1 + 1 + 1 + 1 + 2 + 1 + 63 + 1 + 63 + 1 + 67 ≤ 205; decide) (by show 0 + 2 + 120 + 2 + 120 + 2 + 32 + 3 + 16 + 3 + 1052 + 3 + 1052 + 7 + 1068 ≤ 3482; decide) ?_
  obtain ⟨w, hw⟩ : ∃ w : Nat → Nat, w = fun t => if t = 0 then h0 else if t < 3 then u1 t else if t < 5 then u2 t else if t < 7 then u3 t else if t < 10 then u4 t else if t < 74 then u5 t else if t < 138 then u6 t else u7 t := ⟨_, rfl⟩
  have hx : ∀ t, t ∈ [10, 7] → u7 t = w t := fun t ht => by
    simp only [List.mem_cons, List.not_mem_nil, or_false] at ht
    rw [hw]
    rcases ht with rfl | rfl
    · exact hu7.2.1.trans hu5.symm
    · exact hu7.2.2.trans hu4.symm
  have c_u1 : kc_s u1 g kc_x 1 2 = kc_s w g kc_x 1 2 := kc_cg (ext := []) (by decide +kernel) (fun t ht => by
    rcases ht with ht | ht
    · rw [hw]
      show u1 t = if t = 0 then h0 else if t < 3 then u1 t else if t < 5 then u2 t else if t < 7 then u3 t else if t < 10 then u4 t else if t < 74 then u5 t else if t < 138 then u6 t else u7 t
      repeat (first | rw [if_neg (by omega)] | rw [if_pos (by omega)])
    · cases ht)
  have c_u2 : kc_s u2 g kc_x 3 2 = kc_s w g kc_x 3 2 := kc_cg (ext := []) (by decide +kernel) (fun t ht => by
    rcases ht with ht | ht
    · rw [hw]
      show u2 t = if t = 0 then h0 else if t < 3 then u1 t else if t < 5 then u2 t else if t < 7 then u3 t else if t < 10 then u4 t else if t < 74 then u5 t else if t < 138 then u6 t else u7 t
      repeat (first | rw [if_neg (by omega)] | rw [if_pos (by omega)])
    · cases ht)
  have c_u3 : kc_s u3 g kc_x 5 2 = kc_s w g kc_x 5 2 := kc_cg (ext := []) (by decide +kernel) (fun t ht => by
    rcases ht with ht | ht
    · rw [hw]
      show u3 t = if t = 0 then h0 else if t < 3 then u1 t else if t < 5 then u2 t else if t < 7 then u3 t else if t < 10 then u4 t else if t < 74 then u5 t else if t < 138 then u6 t else u7 t
      repeat (first | rw [if_neg (by omega)] | rw [if_pos (by omega)])
    · cases ht)
  have c_u4 : kc_s u4 g kc_x 7 3 = kc_s w g kc_x 7 3 := kc_cg (ext := []) (by decide +kernel) (fun t ht => by
    rcases ht with ht | ht
    · rw [hw]
      show u4 t = if t = 0 then h0 else if t < 3 then u1 t else if t < 5 then u2 t else if t < 7 then u3 t else if t < 10 then u4 t else if t < 74 then u5 t else if t < 138 then u6 t else u7 t
      repeat (first | rw [if_neg (by omega)] | rw [if_pos (by omega)])
    · cases ht)
  have c_u5 : kc_s u5 g kc_x 10 64 = kc_s w g kc_x 10 64 := kc_cg (ext := []) (by decide +kernel) (fun t ht => by
    rcases ht with ht | ht
    · rw [hw]
      show u5 t = if t = 0 then h0 else if t < 3 then u1 t else if t < 5 then u2 t else if t < 7 then u3 t else if t < 10 then u4 t else if t < 74 then u5 t else if t < 138 then u6 t else u7 t
      repeat (first | rw [if_neg (by omega)] | rw [if_pos (by omega)])
    · cases ht)
  have c_u6 : kc_s u6 g kc_x 74 64 = kc_s w g kc_x 74 64 := kc_cg (ext := []) (by decide +kernel) (fun t ht => by
    rcases ht with ht | ht
    · rw [hw]
      show u6 t = if t = 0 then h0 else if t < 3 then u1 t else if t < 5 then u2 t else if t < 7 then u3 t else if t < 10 then u4 t else if t < 74 then u5 t else if t < 138 then u6 t else u7 t
      repeat (first | rw [if_neg (by omega)] | rw [if_pos (by omega)])
    · cases ht)
  have c_u7 : kc_s u7 g kc_x 138 68 = kc_s w g kc_x 138 68 := kc_cg (ext := [10, 7]) (by decide +kernel) (fun t ht => by
    rcases ht with ht | ht
    · rw [hw]
      show u7 t = if t = 0 then h0 else if t < 3 then u1 t else if t < 5 then u2 t else if t < 7 then u3 t else if t < 10 then u4 t else if t < 74 then u5 t else if t < 138 then u6 t else u7 t
      repeat (first | rw [if_neg (by omega)] | rw [if_pos (by omega)])
    · exact hx t ht)
  refine kr_vret (u := w) hz hr hlk (by rw [hw]; rfl) ?_ d_SS_init_110
  rw [c_u1, c_u2, c_u3, c_u4, c_u5, c_u6, c_u7, kc_s_app (lo := 1) (a := 2) (b := 2), kc_s_app (lo := 1) (a := 4) (b := 2), kc_s_app (lo := 1) (a := 6) (b := 3), kc_s_app (lo := 1) (a := 9) (b := 64), kc_s_app (lo := 1) (a := 73) (b := 64), kc_s_app (lo := 1) (a := 137) (b := 68)]
  show kc_s w g kc_x 0 (1 + 205) = _
  rw [← kc_s_app, kc_s_1 ly_0]
  show (w 0, (Sum.inr (6, [.ref (w 1), .ref (w 3), .ref (w 5), .ref (w 7), .ref (w 10), .ref (w 74), .ref (w 138), .int (kc_x.1 0 7), .int (kc_x.1 0 8), .int (kc_x.1 0 9)]) : va_E)) :: kc_s w g kc_x 1 205 = _
  rw [show w 0 = h0 by rw [hw]; rfl, show w 1 = q1 by rw [hw]; exact hu1, show w 3 = q2 by rw [hw]; exact hu2, show w 5 = q3 by rw [hw]; exact hu3, show w 7 = q4 by rw [hw]; exact hu4, show w 10 = q5 by rw [hw]; exact hu5, show w 74 = q6 by rw [hw]; exact hu6, show w 138 = q7 by rw [hw]; exact hu7.1, show kc_x.1 0 7 = -1 from rfl, show kc_x.1 0 8 = -1 from rfl, show kc_x.1 0 9 = -1 from rfl]

theorem d_MD_init_0 : decode b_MD_init 0 = .ok (.aload_n 0, 1) := by decide +kernel
theorem d_MD_init_1 : decode b_MD_init 1 = .ok (.invokespecial 1, 3) := by decide +kernel
theorem d_MD_init_4 : decode b_MD_init 4 = .ok (.aload_n 0, 1) := by decide +kernel
theorem d_MD_init_5 : decode b_MD_init 5 = .ok (.sipush 360, 3) := by decide +kernel
theorem d_MD_init_8 : decode b_MD_init 8 = .ok (.newarray .int, 2) := by decide +kernel
theorem d_MD_init_10 : decode b_MD_init 10 = .ok (.putfield 7, 3) := by decide +kernel
theorem d_MD_init_13 : decode b_MD_init 13 = .ok (.aload_n 0, 1) := by decide +kernel
theorem d_MD_init_14 : decode b_MD_init 14 = .ok (.iconst 3, 1) := by decide +kernel
theorem d_MD_init_15 : decode b_MD_init 15 = .ok (.newarray .int, 2) := by decide +kernel
theorem d_MD_init_17 : decode b_MD_init 17 = .ok (.putfield 13, 3) := by decide +kernel
theorem d_MD_init_20 : decode b_MD_init 20 = .ok (.aload_n 0, 1) := by decide +kernel
theorem d_MD_init_21 : decode b_MD_init 21 = .ok (.sipush 1089, 3) := by decide +kernel
theorem d_MD_init_24 : decode b_MD_init 24 = .ok (.newarray .int, 2) := by decide +kernel
theorem d_MD_init_26 : decode b_MD_init 26 = .ok (.putfield 16, 3) := by decide +kernel
theorem d_MD_init_29 : decode b_MD_init 29 = .ok (.aload_n 0, 1) := by decide +kernel
theorem d_MD_init_30 : decode b_MD_init 30 = .ok (.sipush 1089, 3) := by decide +kernel
theorem d_MD_init_33 : decode b_MD_init 33 = .ok (.newarray .int, 2) := by decide +kernel
theorem d_MD_init_35 : decode b_MD_init 35 = .ok (.putfield 19, 3) := by decide +kernel
theorem d_MD_init_38 : decode b_MD_init 38 = .ok (.aload_n 0, 1) := by decide +kernel
theorem d_MD_init_39 : decode b_MD_init 39 = .ok (.sipush 1089, 3) := by decide +kernel
theorem d_MD_init_42 : decode b_MD_init 42 = .ok (.newarray .int, 2) := by decide +kernel
theorem d_MD_init_44 : decode b_MD_init 44 = .ok (.putfield 22, 3) := by decide +kernel
theorem d_MD_init_47 : decode b_MD_init 47 = .ok (.aload_n 0, 1) := by decide +kernel
theorem d_MD_init_48 : decode b_MD_init 48 = .ok (.bipush 8, 2) := by decide +kernel
theorem d_MD_init_50 : decode b_MD_init 50 = .ok (.newarray .boolean, 2) := by decide +kernel
theorem d_MD_init_52 : decode b_MD_init 52 = .ok (.putfield 25, 3) := by decide +kernel
theorem d_MD_init_55 : decode b_MD_init 55 = .ok (.aload_n 0, 1) := by decide +kernel
theorem d_MD_init_56 : decode b_MD_init 56 = .ok (.bipush 8, 2) := by decide +kernel
theorem d_MD_init_58 : decode b_MD_init 58 = .ok (.newarray .int, 2) := by decide +kernel
theorem d_MD_init_60 : decode b_MD_init 60 = .ok (.putfield 29, 3) := by decide +kernel
theorem d_MD_init_63 : decode b_MD_init 63 = .ok (.aload_n 0, 1) := by decide +kernel
theorem d_MD_init_64 : decode b_MD_init 64 = .ok (.bipush 8, 2) := by decide +kernel
theorem d_MD_init_66 : decode b_MD_init 66 = .ok (.newarray .int, 2) := by decide +kernel
theorem d_MD_init_68 : decode b_MD_init 68 = .ok (.putfield 32, 3) := by decide +kernel
theorem d_MD_init_71 : decode b_MD_init 71 = .ok (.aload_n 0, 1) := by decide +kernel
theorem d_MD_init_72 : decode b_MD_init 72 = .ok (.iconst 3, 1) := by decide +kernel
theorem d_MD_init_73 : decode b_MD_init 73 = .ok (.newarray .long, 2) := by decide +kernel
theorem d_MD_init_75 : decode b_MD_init 75 = .ok (.putfield 35, 3) := by decide +kernel
theorem d_MD_init_78 : decode b_MD_init 78 = .ok (.aload_n 0, 1) := by decide +kernel
theorem d_MD_init_79 : decode b_MD_init 79 = .ok (.iconst (-1), 1) := by decide +kernel
theorem d_MD_init_80 : decode b_MD_init 80 = .ok (.putfield 39, 3) := by decide +kernel
theorem d_MD_init_83 : decode b_MD_init 83 = .ok (.aload_n 0, 1) := by decide +kernel
theorem d_MD_init_84 : decode b_MD_init 84 = .ok (.iconst (-1), 1) := by decide +kernel
theorem d_MD_init_85 : decode b_MD_init 85 = .ok (.putfield 43, 3) := by decide +kernel
theorem d_MD_init_88 : decode b_MD_init 88 = .ok (.aload_n 0, 1) := by decide +kernel
theorem d_MD_init_89 : decode b_MD_init 89 = .ok (.iconst (-1), 1) := by decide +kernel
theorem d_MD_init_90 : decode b_MD_init 90 = .ok (.putfield 46, 3) := by decide +kernel
theorem d_MD_init_93 : decode b_MD_init 93 = .ok (.return_, 1) := by decide +kernel
theorem wo_MD_1 : Cond.methodLink "SpendScriptModel" 1 objectInit ∈ sp_ws := (sp_tb (List.mem_of_getElem? (i := 536) (by decide +kernel)))
theorem wg_MD_7 : Cond.fieldLink "SpendScriptModel" 7 (F_MD 0).1 (F_MD 0).2.1 (F_MD 0).2.2.1 ∈ sp_ws := (sp_tb (List.mem_of_getElem? (i := 537) (by decide +kernel)))
theorem wg_MD_13 : Cond.fieldLink "SpendScriptModel" 13 (F_MD 1).1 (F_MD 1).2.1 (F_MD 1).2.2.1 ∈ sp_ws := (sp_tb (List.mem_of_getElem? (i := 538) (by decide +kernel)))
theorem wg_MD_16 : Cond.fieldLink "SpendScriptModel" 16 (F_MD 2).1 (F_MD 2).2.1 (F_MD 2).2.2.1 ∈ sp_ws := (sp_tb (List.mem_of_getElem? (i := 539) (by decide +kernel)))
theorem wg_MD_19 : Cond.fieldLink "SpendScriptModel" 19 (F_MD 3).1 (F_MD 3).2.1 (F_MD 3).2.2.1 ∈ sp_ws := (sp_tb (List.mem_of_getElem? (i := 540) (by decide +kernel)))
theorem wg_MD_22 : Cond.fieldLink "SpendScriptModel" 22 (F_MD 4).1 (F_MD 4).2.1 (F_MD 4).2.2.1 ∈ sp_ws := (sp_tb (List.mem_of_getElem? (i := 541) (by decide +kernel)))
theorem wg_MD_25 : Cond.fieldLink "SpendScriptModel" 25 (F_MD 7).1 (F_MD 7).2.1 (F_MD 7).2.2.1 ∈ sp_ws := (sp_tb (List.mem_of_getElem? (i := 544) (by decide +kernel)))
theorem wg_MD_29 : Cond.fieldLink "SpendScriptModel" 29 (F_MD 11).1 (F_MD 11).2.1 (F_MD 11).2.2.1 ∈ sp_ws := (sp_tb (List.mem_of_getElem? (i := 548) (by decide +kernel)))
theorem wg_MD_32 : Cond.fieldLink "SpendScriptModel" 32 (F_MD 12).1 (F_MD 12).2.1 (F_MD 12).2.2.1 ∈ sp_ws := (sp_tb (List.mem_of_getElem? (i := 549) (by decide +kernel)))
theorem wg_MD_35 : Cond.fieldLink "SpendScriptModel" 35 (F_MD 18).1 (F_MD 18).2.1 (F_MD 18).2.2.1 ∈ sp_ws := (sp_tb (List.mem_of_getElem? (i := 555) (by decide +kernel)))
theorem wg_MD_39 : Cond.fieldLink "SpendScriptModel" 39 (F_MD 14).1 (F_MD 14).2.1 (F_MD 14).2.2.1 ∈ sp_ws := (sp_tb (List.mem_of_getElem? (i := 551) (by decide +kernel)))
theorem wg_MD_43 : Cond.fieldLink "SpendScriptModel" 43 (F_MD 15).1 (F_MD 15).2.1 (F_MD 15).2.2.1 ∈ sp_ws := (sp_tb (List.mem_of_getElem? (i := 552) (by decide +kernel)))
theorem wg_MD_46 : Cond.fieldLink "SpendScriptModel" 46 (F_MD 16).1 (F_MD 16).2.1 (F_MD 16).2.2.1 ∈ sp_ws := (sp_tb (List.mem_of_getElem? (i := 553) (by decide +kernel)))
set_option maxRecDepth 100000 in
set_option maxHeartbeats 4000000 in
theorem kn_MD (l : Launch) (D : va_G) (g : kc_G) (h0 : Nat) : kc_M l D g y_MD_init b_MD_init 1 { frames := 1, cells := 9, slots := 3657, locals := 12 } [.ref h0] [(h0, .inr (7, [.null, .null, .null, .null, .null, .int 0, .int 0, .null, .int 0, .int 0, .int 0, .null, .null, .int 0, .int 0, .int 0, .int 0, .int 0, .null]))] 9 3657 (fun u => u 206 = h0) (fun u => kc_s u g kc_x 206 10) := by
  refine kc_enter (ls := [(0, .ref h0)]) (by decide +kernel) (Nat.le_of_ble_eq_true rfl) rfl ?_
  intro p e s m args below meth c hz hr hlk hin
  refine kr_aload_n hz d_MD_init_0 rfl 0 rfl ?_
  refine kr_objInit hz wo_MD_1 wa_oi wa_oc (Nat.le_of_ble_eq_true rfl) (Nat.le_of_ble_eq_true rfl) d_MD_init_1 ?_
  refine kr_aload_n hz d_MD_init_4 rfl 0 rfl ?_
  refine kr_sipush (v := 360) hz d_MD_init_5 (by decide) ?_
  refine kr_newaI (N' := 360) hz wa_aint (by decide +kernel) (by decide +kernel) (by decide +kernel) (by show 0 + 1 ≤ 9; decide) (by show 0 + 360 ≤ 3657; decide) d_MD_init_8 (fun q1 => ?_)
  refine kr_putF (ci := 7) (k := 0) (v := .ref q1) (T := F_MD) (N := 19) (C := "SpendScriptModel") (fs := [.null, .null, .null, .null, .null, .int 0, .int 0, .null, .int 0, .int 0, .int 0, .null, .null, .int 0, .int 0, .int 0, .int 0, .int 0, .null]) (tl := [(q1, .inl (g.1, 360, .inl (fun _ => 0)))]) hz hin iw_MD t_MD tk_MD nk_MD rfl (by decide) wg_MD_7 rfl rfl rfl rfl (Nat.le_of_ble_eq_true rfl) d_MD_init_10 ?_
  refine kr_eq (ws' := (h0, .inr (7, [.ref q1, .null, .null, .null, .null, .int 0, .int 0, .null, .int 0, .int 0, .int 0, .null, .null, .int 0, .int 0, .int 0, .int 0, .int 0, .null])) :: [(q1, .inl (g.1, 360, .inl (fun _ => 0)))]) rfl ?_
  refine kr_aload_n hz d_MD_init_13 rfl 0 rfl ?_
  refine kr_iconst (v := 3) hz d_MD_init_14 (by decide) ?_
  refine kr_newaI (N' := 3) hz wa_aint (by decide +kernel) (by decide +kernel) (by decide +kernel) (by show 0 + 1 + 1 ≤ 9; decide) (by show 0 + 360 + 3 ≤ 3657; decide) d_MD_init_15 (fun q2 => ?_)
  refine kr_putF (ci := 7) (k := 1) (v := .ref q2) (T := F_MD) (N := 19) (C := "SpendScriptModel") (fs := [.ref q1, .null, .null, .null, .null, .int 0, .int 0, .null, .int 0, .int 0, .int 0, .null, .null, .int 0, .int 0, .int 0, .int 0, .int 0, .null]) (tl := ([(q1, .inl (g.1, 360, .inl (fun _ => 0)))] ++ [(q2, .inl (g.1, 3, .inl (fun _ => 0)))])) hz hin iw_MD t_MD tk_MD nk_MD rfl (by decide) wg_MD_13 rfl rfl rfl rfl (Nat.le_of_ble_eq_true rfl) d_MD_init_17 ?_
  refine kr_eq (ws' := (h0, .inr (7, [.ref q1, .ref q2, .null, .null, .null, .int 0, .int 0, .null, .int 0, .int 0, .int 0, .null, .null, .int 0, .int 0, .int 0, .int 0, .int 0, .null])) :: ([(q1, .inl (g.1, 360, .inl (fun _ => 0)))] ++ [(q2, .inl (g.1, 3, .inl (fun _ => 0)))])) rfl ?_
  refine kr_aload_n hz d_MD_init_20 rfl 0 rfl ?_
  refine kr_sipush (v := 1089) hz d_MD_init_21 (by decide) ?_
  refine kr_newaI (N' := 1089) hz wa_aint (by decide +kernel) (by decide +kernel) (by decide +kernel) (by show 0 + 1 + 1 + 1 ≤ 9; decide) (by show 0 + 360 + 3 + 1089 ≤ 3657; decide) d_MD_init_24 (fun q3 => ?_)
  refine kr_putF (ci := 7) (k := 2) (v := .ref q3) (T := F_MD) (N := 19) (C := "SpendScriptModel") (fs := [.ref q1, .ref q2, .null, .null, .null, .int 0, .int 0, .null, .int 0, .int 0, .int 0, .null, .null, .int 0, .int 0, .int 0, .int 0, .int 0, .null]) (tl := (([(q1, .inl (g.1, 360, .inl (fun _ => 0)))] ++ [(q2, .inl (g.1, 3, .inl (fun _ => 0)))]) ++ [(q3, .inl (g.1, 1089, .inl (fun _ => 0)))])) hz hin iw_MD t_MD tk_MD nk_MD rfl (by decide) wg_MD_16 rfl rfl rfl rfl (Nat.le_of_ble_eq_true rfl) d_MD_init_26 ?_
  refine kr_eq (ws' := (h0, .inr (7, [.ref q1, .ref q2, .ref q3, .null, .null, .int 0, .int 0, .null, .int 0, .int 0, .int 0, .null, .null, .int 0, .int 0, .int 0, .int 0, .int 0, .null])) :: (([(q1, .inl (g.1, 360, .inl (fun _ => 0)))] ++ [(q2, .inl (g.1, 3, .inl (fun _ => 0)))]) ++ [(q3, .inl (g.1, 1089, .inl (fun _ => 0)))])) rfl ?_
  refine kr_aload_n hz d_MD_init_29 rfl 0 rfl ?_
  refine kr_sipush (v := 1089) hz d_MD_init_30 (by decide) ?_
  refine kr_newaI (N' := 1089) hz wa_aint (by decide +kernel) (by decide +kernel) (by decide +kernel) (by show 0 + 1 + 1 + 1 + 1 ≤ 9; decide) (by show 0 + 360 + 3 + 1089 + 1089 ≤ 3657; decide) d_MD_init_33 (fun q4 => ?_)
  refine kr_putF (ci := 7) (k := 3) (v := .ref q4) (T := F_MD) (N := 19) (C := "SpendScriptModel") (fs := [.ref q1, .ref q2, .ref q3, .null, .null, .int 0, .int 0, .null, .int 0, .int 0, .int 0, .null, .null, .int 0, .int 0, .int 0, .int 0, .int 0, .null]) (tl := ((([(q1, .inl (g.1, 360, .inl (fun _ => 0)))] ++ [(q2, .inl (g.1, 3, .inl (fun _ => 0)))]) ++ [(q3, .inl (g.1, 1089, .inl (fun _ => 0)))]) ++ [(q4, .inl (g.1, 1089, .inl (fun _ => 0)))])) hz hin iw_MD t_MD tk_MD nk_MD rfl (by decide) wg_MD_19 rfl rfl rfl rfl (Nat.le_of_ble_eq_true rfl) d_MD_init_35 ?_
  refine kr_eq (ws' := (h0, .inr (7, [.ref q1, .ref q2, .ref q3, .ref q4, .null, .int 0, .int 0, .null, .int 0, .int 0, .int 0, .null, .null, .int 0, .int 0, .int 0, .int 0, .int 0, .null])) :: ((([(q1, .inl (g.1, 360, .inl (fun _ => 0)))] ++ [(q2, .inl (g.1, 3, .inl (fun _ => 0)))]) ++ [(q3, .inl (g.1, 1089, .inl (fun _ => 0)))]) ++ [(q4, .inl (g.1, 1089, .inl (fun _ => 0)))])) rfl ?_
  refine kr_aload_n hz d_MD_init_38 rfl 0 rfl ?_
  refine kr_sipush (v := 1089) hz d_MD_init_39 (by decide) ?_
  refine kr_newaI (N' := 1089) hz wa_aint (by decide +kernel) (by decide +kernel) (by decide +kernel) (by show 0 + 1 + 1 + 1 + 1 + 1 ≤ 9; decide) (by show 0 + 360 + 3 + 1089 + 1089 + 1089 ≤ 3657; decide) d_MD_init_42 (fun q5 => ?_)
  refine kr_putF (ci := 7) (k := 4) (v := .ref q5) (T := F_MD) (N := 19) (C := "SpendScriptModel") (fs := [.ref q1, .ref q2, .ref q3, .ref q4, .null, .int 0, .int 0, .null, .int 0, .int 0, .int 0, .null, .null, .int 0, .int 0, .int 0, .int 0, .int 0, .null]) (tl := (((([(q1, .inl (g.1, 360, .inl (fun _ => 0)))] ++ [(q2, .inl (g.1, 3, .inl (fun _ => 0)))]) ++ [(q3, .inl (g.1, 1089, .inl (fun _ => 0)))]) ++ [(q4, .inl (g.1, 1089, .inl (fun _ => 0)))]) ++ [(q5, .inl (g.1, 1089, .inl (fun _ => 0)))])) hz hin iw_MD t_MD tk_MD nk_MD rfl (by decide) wg_MD_22 rfl rfl rfl rfl (Nat.le_of_ble_eq_true rfl) d_MD_init_44 ?_
  refine kr_eq (ws' := (h0, .inr (7, [.ref q1, .ref q2, .ref q3, .ref q4, .ref q5, .int 0, .int 0, .null, .int 0, .int 0, .int 0, .null, .null, .int 0, .int 0, .int 0, .int 0, .int 0, .null])) :: (((([(q1, .inl (g.1, 360, .inl (fun _ => 0)))] ++ [(q2, .inl (g.1, 3, .inl (fun _ => 0)))]) ++ [(q3, .inl (g.1, 1089, .inl (fun _ => 0)))]) ++ [(q4, .inl (g.1, 1089, .inl (fun _ => 0)))]) ++ [(q5, .inl (g.1, 1089, .inl (fun _ => 0)))])) rfl ?_
  refine kr_aload_n hz d_MD_init_47 rfl 0 rfl ?_
  refine kr_bipush (v := 8) hz d_MD_init_48 (by decide) ?_
  refine kr_newaZ (N' := 8) hz wa_aboolean (by decide +kernel) (by decide +kernel) (by decide +kernel) (by show 0 + 1 + 1 + 1 + 1 + 1 + 1 ≤ 9; decide) (by show 0 + 360 + 3 + 1089 + 1089 + 1089 + 8 ≤ 3657; decide) d_MD_init_50 (fun q6 => ?_)
  refine kr_putF (ci := 7) (k := 7) (v := .ref q6) (T := F_MD) (N := 19) (C := "SpendScriptModel") (fs := [.ref q1, .ref q2, .ref q3, .ref q4, .ref q5, .int 0, .int 0, .null, .int 0, .int 0, .int 0, .null, .null, .int 0, .int 0, .int 0, .int 0, .int 0, .null]) (tl := ((((([(q1, .inl (g.1, 360, .inl (fun _ => 0)))] ++ [(q2, .inl (g.1, 3, .inl (fun _ => 0)))]) ++ [(q3, .inl (g.1, 1089, .inl (fun _ => 0)))]) ++ [(q4, .inl (g.1, 1089, .inl (fun _ => 0)))]) ++ [(q5, .inl (g.1, 1089, .inl (fun _ => 0)))]) ++ [(q6, .inl (g.2.1, 8, .inl (fun _ => 0)))])) hz hin iw_MD t_MD tk_MD nk_MD rfl (by decide) wg_MD_25 rfl rfl rfl rfl (Nat.le_of_ble_eq_true rfl) d_MD_init_52 ?_
  refine kr_eq (ws' := (h0, .inr (7, [.ref q1, .ref q2, .ref q3, .ref q4, .ref q5, .int 0, .int 0, .ref q6, .int 0, .int 0, .int 0, .null, .null, .int 0, .int 0, .int 0, .int 0, .int 0, .null])) :: ((((([(q1, .inl (g.1, 360, .inl (fun _ => 0)))] ++ [(q2, .inl (g.1, 3, .inl (fun _ => 0)))]) ++ [(q3, .inl (g.1, 1089, .inl (fun _ => 0)))]) ++ [(q4, .inl (g.1, 1089, .inl (fun _ => 0)))]) ++ [(q5, .inl (g.1, 1089, .inl (fun _ => 0)))]) ++ [(q6, .inl (g.2.1, 8, .inl (fun _ => 0)))])) rfl ?_
  refine kr_aload_n hz d_MD_init_55 rfl 0 rfl ?_
  refine kr_bipush (v := 8) hz d_MD_init_56 (by decide) ?_
  refine kr_newaI (N' := 8) hz wa_aint (by decide +kernel) (by decide +kernel) (by decide +kernel) (by show 0 + 1 + 1 + 1 + 1 + 1 + 1 + 1 ≤ 9; decide) (by show 0 + 360 + 3 + 1089 + 1089 + 1089 + 8 + 8 ≤ 3657; decide) d_MD_init_58 (fun q7 => ?_)
  refine kr_putF (ci := 7) (k := 11) (v := .ref q7) (T := F_MD) (N := 19) (C := "SpendScriptModel") (fs := [.ref q1, .ref q2, .ref q3, .ref q4, .ref q5, .int 0, .int 0, .ref q6, .int 0, .int 0, .int 0, .null, .null, .int 0, .int 0, .int 0, .int 0, .int 0, .null]) (tl := (((((([(q1, .inl (g.1, 360, .inl (fun _ => 0)))] ++ [(q2, .inl (g.1, 3, .inl (fun _ => 0)))]) ++ [(q3, .inl (g.1, 1089, .inl (fun _ => 0)))]) ++ [(q4, .inl (g.1, 1089, .inl (fun _ => 0)))]) ++ [(q5, .inl (g.1, 1089, .inl (fun _ => 0)))]) ++ [(q6, .inl (g.2.1, 8, .inl (fun _ => 0)))]) ++ [(q7, .inl (g.1, 8, .inl (fun _ => 0)))])) hz hin iw_MD t_MD tk_MD nk_MD rfl (by decide) wg_MD_29 rfl rfl rfl rfl (Nat.le_of_ble_eq_true rfl) d_MD_init_60 ?_
  refine kr_eq (ws' := (h0, .inr (7, [.ref q1, .ref q2, .ref q3, .ref q4, .ref q5, .int 0, .int 0, .ref q6, .int 0, .int 0, .int 0, .ref q7, .null, .int 0, .int 0, .int 0, .int 0, .int 0, .null])) :: (((((([(q1, .inl (g.1, 360, .inl (fun _ => 0)))] ++ [(q2, .inl (g.1, 3, .inl (fun _ => 0)))]) ++ [(q3, .inl (g.1, 1089, .inl (fun _ => 0)))]) ++ [(q4, .inl (g.1, 1089, .inl (fun _ => 0)))]) ++ [(q5, .inl (g.1, 1089, .inl (fun _ => 0)))]) ++ [(q6, .inl (g.2.1, 8, .inl (fun _ => 0)))]) ++ [(q7, .inl (g.1, 8, .inl (fun _ => 0)))])) rfl ?_
  refine kr_aload_n hz d_MD_init_63 rfl 0 rfl ?_
  refine kr_bipush (v := 8) hz d_MD_init_64 (by decide) ?_
  refine kr_newaI (N' := 8) hz wa_aint (by decide +kernel) (by decide +kernel) (by decide +kernel) (by show 0 + 1 + 1 + 1 + 1 + 1 + 1 + 1 + 1 ≤ 9; decide) (by show 0 + 360 + 3 + 1089 + 1089 + 1089 + 8 + 8 + 8 ≤ 3657; decide) d_MD_init_66 (fun q8 => ?_)
  refine kr_putF (ci := 7) (k := 12) (v := .ref q8) (T := F_MD) (N := 19) (C := "SpendScriptModel") (fs := [.ref q1, .ref q2, .ref q3, .ref q4, .ref q5, .int 0, .int 0, .ref q6, .int 0, .int 0, .int 0, .ref q7, .null, .int 0, .int 0, .int 0, .int 0, .int 0, .null]) (tl := ((((((([(q1, .inl (g.1, 360, .inl (fun _ => 0)))] ++ [(q2, .inl (g.1, 3, .inl (fun _ => 0)))]) ++ [(q3, .inl (g.1, 1089, .inl (fun _ => 0)))]) ++ [(q4, .inl (g.1, 1089, .inl (fun _ => 0)))]) ++ [(q5, .inl (g.1, 1089, .inl (fun _ => 0)))]) ++ [(q6, .inl (g.2.1, 8, .inl (fun _ => 0)))]) ++ [(q7, .inl (g.1, 8, .inl (fun _ => 0)))]) ++ [(q8, .inl (g.1, 8, .inl (fun _ => 0)))])) hz hin iw_MD t_MD tk_MD nk_MD rfl (by decide) wg_MD_32 rfl rfl rfl rfl (Nat.le_of_ble_eq_true rfl) d_MD_init_68 ?_
  refine kr_eq (ws' := (h0, .inr (7, [.ref q1, .ref q2, .ref q3, .ref q4, .ref q5, .int 0, .int 0, .ref q6, .int 0, .int 0, .int 0, .ref q7, .ref q8, .int 0, .int 0, .int 0, .int 0, .int 0, .null])) :: ((((((([(q1, .inl (g.1, 360, .inl (fun _ => 0)))] ++ [(q2, .inl (g.1, 3, .inl (fun _ => 0)))]) ++ [(q3, .inl (g.1, 1089, .inl (fun _ => 0)))]) ++ [(q4, .inl (g.1, 1089, .inl (fun _ => 0)))]) ++ [(q5, .inl (g.1, 1089, .inl (fun _ => 0)))]) ++ [(q6, .inl (g.2.1, 8, .inl (fun _ => 0)))]) ++ [(q7, .inl (g.1, 8, .inl (fun _ => 0)))]) ++ [(q8, .inl (g.1, 8, .inl (fun _ => 0)))])) rfl ?_
  refine kr_aload_n hz d_MD_init_71 rfl 0 rfl ?_
  refine kr_iconst (v := 3) hz d_MD_init_72 (by decide) ?_
  refine kr_newaJ (N' := 3) hz wa_along (by decide +kernel) (by decide +kernel) (by decide +kernel) (by show 0 + 1 + 1 + 1 + 1 + 1 + 1 + 1 + 1 + 1 ≤ 9; decide) (by show 0 + 360 + 3 + 1089 + 1089 + 1089 + 8 + 8 + 8 + 3 ≤ 3657; decide) d_MD_init_73 (fun q9 => ?_)
  refine kr_putF (ci := 7) (k := 18) (v := .ref q9) (T := F_MD) (N := 19) (C := "SpendScriptModel") (fs := [.ref q1, .ref q2, .ref q3, .ref q4, .ref q5, .int 0, .int 0, .ref q6, .int 0, .int 0, .int 0, .ref q7, .ref q8, .int 0, .int 0, .int 0, .int 0, .int 0, .null]) (tl := (((((((([(q1, .inl (g.1, 360, .inl (fun _ => 0)))] ++ [(q2, .inl (g.1, 3, .inl (fun _ => 0)))]) ++ [(q3, .inl (g.1, 1089, .inl (fun _ => 0)))]) ++ [(q4, .inl (g.1, 1089, .inl (fun _ => 0)))]) ++ [(q5, .inl (g.1, 1089, .inl (fun _ => 0)))]) ++ [(q6, .inl (g.2.1, 8, .inl (fun _ => 0)))]) ++ [(q7, .inl (g.1, 8, .inl (fun _ => 0)))]) ++ [(q8, .inl (g.1, 8, .inl (fun _ => 0)))]) ++ [(q9, .inl (g.2.2.1, 3, .inr (.inl (fun _ => 0))))])) hz hin iw_MD t_MD tk_MD nk_MD rfl (by decide) wg_MD_35 rfl rfl rfl rfl (Nat.le_of_ble_eq_true rfl) d_MD_init_75 ?_
  refine kr_eq (ws' := (h0, .inr (7, [.ref q1, .ref q2, .ref q3, .ref q4, .ref q5, .int 0, .int 0, .ref q6, .int 0, .int 0, .int 0, .ref q7, .ref q8, .int 0, .int 0, .int 0, .int 0, .int 0, .ref q9])) :: (((((((([(q1, .inl (g.1, 360, .inl (fun _ => 0)))] ++ [(q2, .inl (g.1, 3, .inl (fun _ => 0)))]) ++ [(q3, .inl (g.1, 1089, .inl (fun _ => 0)))]) ++ [(q4, .inl (g.1, 1089, .inl (fun _ => 0)))]) ++ [(q5, .inl (g.1, 1089, .inl (fun _ => 0)))]) ++ [(q6, .inl (g.2.1, 8, .inl (fun _ => 0)))]) ++ [(q7, .inl (g.1, 8, .inl (fun _ => 0)))]) ++ [(q8, .inl (g.1, 8, .inl (fun _ => 0)))]) ++ [(q9, .inl (g.2.2.1, 3, .inr (.inl (fun _ => 0))))])) rfl ?_
  refine kr_aload_n hz d_MD_init_78 rfl 0 rfl ?_
  refine kr_iconst (v := (-1)) hz d_MD_init_79 (by decide) ?_
  refine kr_put (ci := 7) (k := 14) (v := .int (-1)) (T := F_MD) (N := 19) (C := "SpendScriptModel") (fs := [.ref q1, .ref q2, .ref q3, .ref q4, .ref q5, .int 0, .int 0, .ref q6, .int 0, .int 0, .int 0, .ref q7, .ref q8, .int 0, .int 0, .int 0, .int 0, .int 0, .ref q9]) (tl := (((((((([(q1, .inl (g.1, 360, .inl (fun _ => 0)))] ++ [(q2, .inl (g.1, 3, .inl (fun _ => 0)))]) ++ [(q3, .inl (g.1, 1089, .inl (fun _ => 0)))]) ++ [(q4, .inl (g.1, 1089, .inl (fun _ => 0)))]) ++ [(q5, .inl (g.1, 1089, .inl (fun _ => 0)))]) ++ [(q6, .inl (g.2.1, 8, .inl (fun _ => 0)))]) ++ [(q7, .inl (g.1, 8, .inl (fun _ => 0)))]) ++ [(q8, .inl (g.1, 8, .inl (fun _ => 0)))]) ++ [(q9, .inl (g.2.2.1, 3, .inr (.inl (fun _ => 0))))])) hz iw_MD t_MD tk_MD nk_MD rfl (by decide) wg_MD_39 rfl rfl rfl (Nat.le_of_ble_eq_true rfl) d_MD_init_80 ?_
  refine kr_eq (ws' := (h0, .inr (7, [.ref q1, .ref q2, .ref q3, .ref q4, .ref q5, .int 0, .int 0, .ref q6, .int 0, .int 0, .int 0, .ref q7, .ref q8, .int 0, .int (-1), .int 0, .int 0, .int 0, .ref q9])) :: (((((((([(q1, .inl (g.1, 360, .inl (fun _ => 0)))] ++ [(q2, .inl (g.1, 3, .inl (fun _ => 0)))]) ++ [(q3, .inl (g.1, 1089, .inl (fun _ => 0)))]) ++ [(q4, .inl (g.1, 1089, .inl (fun _ => 0)))]) ++ [(q5, .inl (g.1, 1089, .inl (fun _ => 0)))]) ++ [(q6, .inl (g.2.1, 8, .inl (fun _ => 0)))]) ++ [(q7, .inl (g.1, 8, .inl (fun _ => 0)))]) ++ [(q8, .inl (g.1, 8, .inl (fun _ => 0)))]) ++ [(q9, .inl (g.2.2.1, 3, .inr (.inl (fun _ => 0))))])) rfl ?_
  refine kr_aload_n hz d_MD_init_83 rfl 0 rfl ?_
  refine kr_iconst (v := (-1)) hz d_MD_init_84 (by decide) ?_
  refine kr_put (ci := 7) (k := 15) (v := .int (-1)) (T := F_MD) (N := 19) (C := "SpendScriptModel") (fs := [.ref q1, .ref q2, .ref q3, .ref q4, .ref q5, .int 0, .int 0, .ref q6, .int 0, .int 0, .int 0, .ref q7, .ref q8, .int 0, .int (-1), .int 0, .int 0, .int 0, .ref q9]) (tl := (((((((([(q1, .inl (g.1, 360, .inl (fun _ => 0)))] ++ [(q2, .inl (g.1, 3, .inl (fun _ => 0)))]) ++ [(q3, .inl (g.1, 1089, .inl (fun _ => 0)))]) ++ [(q4, .inl (g.1, 1089, .inl (fun _ => 0)))]) ++ [(q5, .inl (g.1, 1089, .inl (fun _ => 0)))]) ++ [(q6, .inl (g.2.1, 8, .inl (fun _ => 0)))]) ++ [(q7, .inl (g.1, 8, .inl (fun _ => 0)))]) ++ [(q8, .inl (g.1, 8, .inl (fun _ => 0)))]) ++ [(q9, .inl (g.2.2.1, 3, .inr (.inl (fun _ => 0))))])) hz iw_MD t_MD tk_MD nk_MD rfl (by decide) wg_MD_43 rfl rfl rfl (Nat.le_of_ble_eq_true rfl) d_MD_init_85 ?_
  refine kr_eq (ws' := (h0, .inr (7, [.ref q1, .ref q2, .ref q3, .ref q4, .ref q5, .int 0, .int 0, .ref q6, .int 0, .int 0, .int 0, .ref q7, .ref q8, .int 0, .int (-1), .int (-1), .int 0, .int 0, .ref q9])) :: (((((((([(q1, .inl (g.1, 360, .inl (fun _ => 0)))] ++ [(q2, .inl (g.1, 3, .inl (fun _ => 0)))]) ++ [(q3, .inl (g.1, 1089, .inl (fun _ => 0)))]) ++ [(q4, .inl (g.1, 1089, .inl (fun _ => 0)))]) ++ [(q5, .inl (g.1, 1089, .inl (fun _ => 0)))]) ++ [(q6, .inl (g.2.1, 8, .inl (fun _ => 0)))]) ++ [(q7, .inl (g.1, 8, .inl (fun _ => 0)))]) ++ [(q8, .inl (g.1, 8, .inl (fun _ => 0)))]) ++ [(q9, .inl (g.2.2.1, 3, .inr (.inl (fun _ => 0))))])) rfl ?_
  refine kr_aload_n hz d_MD_init_88 rfl 0 rfl ?_
  refine kr_iconst (v := (-1)) hz d_MD_init_89 (by decide) ?_
  refine kr_put (ci := 7) (k := 16) (v := .int (-1)) (T := F_MD) (N := 19) (C := "SpendScriptModel") (fs := [.ref q1, .ref q2, .ref q3, .ref q4, .ref q5, .int 0, .int 0, .ref q6, .int 0, .int 0, .int 0, .ref q7, .ref q8, .int 0, .int (-1), .int (-1), .int 0, .int 0, .ref q9]) (tl := (((((((([(q1, .inl (g.1, 360, .inl (fun _ => 0)))] ++ [(q2, .inl (g.1, 3, .inl (fun _ => 0)))]) ++ [(q3, .inl (g.1, 1089, .inl (fun _ => 0)))]) ++ [(q4, .inl (g.1, 1089, .inl (fun _ => 0)))]) ++ [(q5, .inl (g.1, 1089, .inl (fun _ => 0)))]) ++ [(q6, .inl (g.2.1, 8, .inl (fun _ => 0)))]) ++ [(q7, .inl (g.1, 8, .inl (fun _ => 0)))]) ++ [(q8, .inl (g.1, 8, .inl (fun _ => 0)))]) ++ [(q9, .inl (g.2.2.1, 3, .inr (.inl (fun _ => 0))))])) hz iw_MD t_MD tk_MD nk_MD rfl (by decide) wg_MD_46 rfl rfl rfl (Nat.le_of_ble_eq_true rfl) d_MD_init_90 ?_
  refine kr_eq (ws' := (h0, .inr (7, [.ref q1, .ref q2, .ref q3, .ref q4, .ref q5, .int 0, .int 0, .ref q6, .int 0, .int 0, .int 0, .ref q7, .ref q8, .int 0, .int (-1), .int (-1), .int (-1), .int 0, .ref q9])) :: (((((((([(q1, .inl (g.1, 360, .inl (fun _ => 0)))] ++ [(q2, .inl (g.1, 3, .inl (fun _ => 0)))]) ++ [(q3, .inl (g.1, 1089, .inl (fun _ => 0)))]) ++ [(q4, .inl (g.1, 1089, .inl (fun _ => 0)))]) ++ [(q5, .inl (g.1, 1089, .inl (fun _ => 0)))]) ++ [(q6, .inl (g.2.1, 8, .inl (fun _ => 0)))]) ++ [(q7, .inl (g.1, 8, .inl (fun _ => 0)))]) ++ [(q8, .inl (g.1, 8, .inl (fun _ => 0)))]) ++ [(q9, .inl (g.2.2.1, 3, .inr (.inl (fun _ => 0))))])) rfl ?_
  refine kr_widen (a := 9) (b := 3657) (by show 0 + 1 + 1 + 1 + 1 + 1 + 1 + 1 + 1 + 1 ≤ 9; decide) (by show 0 + 360 + 3 + 1089 + 1089 + 1089 + 8 + 8 + 8 + 3 ≤ 3657; decide) ?_
  refine kr_vret (u := fun k => if k = 206 then h0 else if k = 207 then q1 else if k = 208 then q2 else if k = 209 then q3 else if k = 210 then q4 else if k = 211 then q5 else if k = 212 then q6 else if k = 213 then q7 else if k = 214 then q8 else q9) hz hr hlk rfl ?_ d_MD_init_93
  unfold kc_s
  rw [show List.range' 206 10 = [206, 207, 208, 209, 210, 211, 212, 213, 214, 215] from rfl]
  simp only [List.map_cons, List.map_nil, ly_206, ly_207, ly_208, ly_209, ly_210, ly_211, ly_212, ly_213, ly_214, ly_215]
  show [(h0, (Sum.inr (7, [.ref q1, .ref q2, .ref q3, .ref q4, .ref q5, .int (kc_x.1 206 5), .int (kc_x.1 206 6), .ref q6, .int (kc_x.1 206 8), .int (kc_x.1 206 9), .int (kc_x.1 206 10), .ref q7, .ref q8, .int (kc_x.1 206 13), .int (kc_x.1 206 14), .int (kc_x.1 206 15), .int (kc_x.1 206 16), .int (kc_x.1 206 17), .ref q9]) : va_E)), (q1, Sum.inl (g.1, 360, .inl (kc_x.1 207))), (q2, Sum.inl (g.1, 3, .inl (kc_x.1 208))), (q3, Sum.inl (g.1, 1089, .inl (kc_x.1 209))), (q4, Sum.inl (g.1, 1089, .inl (kc_x.1 210))), (q5, Sum.inl (g.1, 1089, .inl (kc_x.1 211))), (q6, Sum.inl (g.2.1, 8, .inl (kc_x.1 212))), (q7, Sum.inl (g.1, 8, .inl (kc_x.1 213))), (q8, Sum.inl (g.1, 8, .inl (kc_x.1 214))), (q9, Sum.inl (g.2.2.1, 3, .inr (.inl (kc_x.2.2 215))))] = _
  rw [kc_xa (k := 207) (by decide) (by decide), kc_xa (k := 208) (by decide) (by decide), kc_xa (k := 209) (by decide) (by decide), kc_xa (k := 210) (by decide) (by decide), kc_xa (k := 211) (by decide) (by decide), kc_xa (k := 212) (by decide) (by decide), kc_xa (k := 213) (by decide) (by decide), kc_xa (k := 214) (by decide) (by decide)]
  rfl

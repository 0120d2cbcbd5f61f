theorem wc_LW_7 : Cond.classLink "SpendScriptLaw" 7 "SpendScript" ∈ sp_ws := (sp_tb (List.mem_of_getElem? (i := 11) (by decide +kernel)))
theorem wi_SS : Cond.instantiable "SpendScript" 10 ∈ sp_ws := (sp_tb (List.mem_of_getElem? (i := 12) (by decide +kernel)))
theorem wn_SS : Cond.initialized "SpendScript" ∈ sp_ws := (sp_tb (List.mem_of_getElem? (i := 1) (by decide +kernel)))
theorem wc_LW_10 : Cond.classLink "SpendScriptLaw" 10 "SpendScriptModel" ∈ sp_ws := (sp_tb (List.mem_of_getElem? (i := 531) (by decide +kernel)))
theorem wi_MD : Cond.instantiable "SpendScriptModel" 19 ∈ sp_ws := (sp_tb (List.mem_of_getElem? (i := 532) (by decide +kernel)))
theorem wn_MD : Cond.initialized "SpendScriptModel" ∈ sp_ws := (sp_tb (List.mem_of_getElem? (i := 8) (by decide +kernel)))
theorem wz_SS : Cond.code y_SS_init b_SS_init 1 none ∈ sp_ws := (sp_tb (List.mem_of_getElem? (i := 15) (by decide +kernel)))
theorem wl_LW_9 : Cond.methodLink "SpendScriptLaw" 9 y_SS_init ∈ sp_ws := (sp_tb (List.mem_of_getElem? (i := 13) (by decide +kernel)))
theorem wj_SS : Cond.instanceMethod y_SS_init ∈ sp_ws := (sp_tb (List.mem_of_getElem? (i := 14) (by decide +kernel)))
theorem wz_MD : Cond.code y_MD_init b_MD_init 1 none ∈ sp_ws := (sp_tb (List.mem_of_getElem? (i := 535) (by decide +kernel)))
theorem wl_LW_12 : Cond.methodLink "SpendScriptLaw" 12 y_MD_init ∈ sp_ws := (sp_tb (List.mem_of_getElem? (i := 533) (by decide +kernel)))
theorem wj_MD : Cond.instanceMethod y_MD_init ∈ sp_ws := (sp_tb (List.mem_of_getElem? (i := 534) (by decide +kernel)))
/-! The law from its entry: both objects are made, then the loop; what is left is a question about the pure program alone (hp). -/
theorem kc_xw {w : Nat → Nat} {g : kc_G} : kc_s w g kc_x 0 216 = xh_w (w, g) kc_x := by
  unfold kc_s xh_w
  rw [show List.range sp_n = List.range' 0 216 from List.range_eq_range']
theorem kc_Kn {s : State} {args : Array Value} (hts : ∀ w ∈ sp_ws, w.before args s = true) (hAO : (Cond.arrayOver (.object sp_BS)).before args s = true) : ∃ (D : va_G) (g : kc_G), va_K D sp_cl (kc_ty g) s := by
  obtain ⟨c0, i0, k0⟩ := u_known (C := R_BS) (T := F_BS) (N := 2) hts iw_BS (hts _ wi_BS)
  obtain ⟨c1, i1, k1⟩ := u_known (C := R_IS) (T := F_IS) (N := 3) hts iw_IS (hts _ wi_IS)
  obtain ⟨c2, i2, k2⟩ := u_known (C := R_ST) (T := F_ST) (N := 3) hts iw_ST (hts _ wi_ST)
  obtain ⟨c3, i3, k3⟩ := u_known (C := R_BR) (T := F_BR) (N := 2) hts iw_BR (hts _ wi_BR)
  obtain ⟨c4, i4, k4⟩ := u_known (C := R_MC) (T := F_MC) (N := 7) hts iw_MC (hts _ wi_MC)
  obtain ⟨c5, i5, k5⟩ := u_known (C := R_OP) (T := F_OP) (N := 3) hts iw_OP (hts _ wi_OP)
  obtain ⟨c6, i6, k6⟩ := u_known (C := R_SS) (T := F_SS) (N := 10) hts iw_SS (hts _ wi_SS)
  obtain ⟨c7, i7, k7⟩ := u_known (C := R_MD) (T := F_MD) (N := 19) hts iw_MD (hts _ wi_MD)
  obtain ⟨a1, b1, m1, e1, f1, g1⟩ := Cond.arrayClass_spec (hts _ wa_aint)
  obtain ⟨a2, b2, m2, e2, f2, g2⟩ := Cond.arrayClass_spec (hts _ wa_aboolean)
  obtain ⟨a3, b3, m3, e3, f3, g3⟩ := Cond.arrayClass_spec (hts _ wa_along)
  obtain ⟨m4, a4, b4, d4, -, f4, g4, e4⟩ := Cond.arrayOver_spec hAO
  refine ⟨(fun c => match c with | 0 => c0 | 1 => c1 | 2 => c2 | 3 => c3 | 4 => c4 | 5 => c5 | 6 => c6 | _ => c7, fun c => match c with | 0 => i0 | 1 => i1 | 2 => i2 | 3 => i3 | 4 => i4 | 5 => i5 | 6 => i6 | _ => i7), (a1, a2, a3, a4), fun c q hq => ?_, fun k q hk => ?_⟩
  · have hc : c < 8 := (List.getElem?_eq_some_iff.mp hq).1
    rcases (show c = 0 ∨ c = 1 ∨ c = 2 ∨ c = 3 ∨ c = 4 ∨ c = 5 ∨ c = 6 ∨ c = 7 by omega) with rfl | rfl | rfl | rfl | rfl | rfl | rfl | rfl <;> (cases hq; assumption)
  · have hc : k < 4 := (List.getElem?_eq_some_iff.mp hk).1
    rcases (show k = 0 ∨ k = 1 ∨ k = 2 ∨ k = 3 by omega) with rfl | rfl | rfl | rfl <;> cases hk
    · exact ⟨fun n z => ⟨fun k h => (by cases h), b1, f1, m1, g1⟩, e1⟩
    · exact ⟨fun n z => ⟨fun k h => (by cases h), b2, f2, m2, g2⟩, e2⟩
    · exact ⟨fun n z => ⟨fun k h => (by cases h), b3, f3, m3, g3⟩, e3⟩
    · exact ⟨fun n z => ⟨fun k h => (by cases h), b4, f4, m4, g4⟩, b4, m4, f4, g4, d4, e4⟩
set_option maxRecDepth 100000 in
set_option maxHeartbeats 4000000 in
theorem whole_start_open (hp : ∀ (xs : Nat → Int32) (L : Nat), L ≤ 2048 → ∃ X', fx_LW_law_b18 xs L sp_fuel 0 kc_x = some (1, X')) {p : Program} {e : Env} {s : State} {m : MethodId} {below : List Frame} {meth : Method} {c : Code} (l : Launch) {b L : Nat} {xs : Nat → Int32} (hL : L ≤ 2048) (C0 : lw_At p s m meth c b L xs) : W p l e room_1 s m #[Value.ref b] below meth c s.heap [] 0 0 (lw_Z below #[Value.ref b] s) (entryFrame m ([Value.ref b] : List Value).toArray 4) := by
  obtain ⟨hx, hb, hr, hml, hown, hts0, hX, hbl, hlk, -⟩ := C0
  have hts : ∀ w ∈ sp_ws, w.before #[Value.ref b] s = true := fun w hw => hts0 w (List.mem_filter.mp hw).1
  have hAO : (Cond.arrayOver (.object sp_BS)).before #[Value.ref b] s = true := hts0 _ (List.mem_append_right _ (List.mem_of_getElem? (i := 56) (by decide +kernel)))
  obtain ⟨D, g, hK⟩ := kc_Kn hts hAO
  have hz : kc_C p s m #[Value.ref b] c code 4 "SpendScriptLaw" D g (fun q => s.heap.size ≤ q) := ⟨hx, hb, hml, hown, hts, hK, fun _ h => h, va_AO.of hAO⟩
  obtain ⟨X', hX'⟩ := hp xs L hL
  have key : kc_J p l e room_1 s m #[Value.ref b] below meth c 0 0 D (fun q => s.heap.size ≤ q) 4 (lw_Z below #[Value.ref b] s) 0 [(0, .ref b)] [] [] := by
    refine kr_new (C := "SpendScript") (T := F_SS) (N := 10) (ci := 6) (fs := [.null, .null, .null, .null, .null, .null, .null, .int 0, .int 0, .int 0]) hz iw_SS t_SS tk_SS wc_LW_7 wi_SS wn_SS rfl kd_SS (by show 0 + 1 ≤ 600000; omega) (by show 0 + 10 ≤ 7302250; omega) d_LW_law_0 (fun q0 => ?_)
    refine kr_dup hz d_LW_law_3 rfl ?_
    refine kr_ctor (n := 0) (As := []) (st := [.ref q0]) (wr := []) (q := q0) (e0 := .inr (6, [.null, .null, .null, .null, .null, .null, .null, .int 0, .int 0, .int 0])) hz (kn_SS l D g q0) wz_SS wn_SS wl_LW_9 ⟨by decide +kernel, by decide +kernel, by decide +kernel⟩ wj_SS rfl ⟨rfl, rfl, Nat.le_of_ble_eq_true rfl, Nat.le_of_ble_eq_true rfl⟩ ⟨by show 0 + 1 + 205 ≤ 600000; omega, by show 0 + 10 + 3482 ≤ 7302250; omega⟩ rfl rfl (Nat.le_of_ble_eq_true rfl) d_LW_law_4 (fun u0 hu0 => ?_)
    refine kr_astore_n (lf := [(0, .ref b)]) hz d_LW_law_7 rfl (by decide) rfl ?_
    refine kr_new (C := "SpendScriptModel") (T := F_MD) (N := 19) (ci := 7) (fs := [.null, .null, .null, .null, .null, .int 0, .int 0, .null, .int 0, .int 0, .int 0, .null, .null, .int 0, .int 0, .int 0, .int 0, .int 0, .null]) hz iw_MD t_MD tk_MD wc_LW_10 wi_MD wn_MD rfl kd_MD (by show 0 + 1 + 205 + 1 ≤ 600000; omega) (by show 0 + 10 + 3482 + 19 ≤ 7302250; omega) d_LW_law_8 (fun q1 => ?_)
    refine kr_dup hz d_LW_law_11 rfl ?_
    refine kr_ctor (n := 0) (As := []) (st := [.ref q1]) (wr := [] ++ kc_s u0 g kc_x 0 206) (q := q1) (e0 := .inr (7, [.null, .null, .null, .null, .null, .int 0, .int 0, .null, .int 0, .int 0, .int 0, .null, .null, .int 0, .int 0, .int 0, .int 0, .int 0, .null])) hz (kn_MD l D g q1) wz_MD wn_MD wl_LW_12 ⟨by decide +kernel, by decide +kernel, by decide +kernel⟩ wj_MD rfl ⟨rfl, rfl, Nat.le_of_ble_eq_true rfl, Nat.le_of_ble_eq_true rfl⟩ ⟨by show 0 + 1 + 205 + 1 + 9 ≤ 600000; omega, by show 0 + 10 + 3482 + 19 + 3657 ≤ 7302250; omega⟩ rfl rfl (Nat.le_of_ble_eq_true rfl) d_LW_law_12 (fun u1 hu1 => ?_)
    refine kr_astore_n (lf := [(1, .ref q0), (0, .ref b)]) hz d_LW_law_15 rfl (by decide) rfl ?_
    refine kr_iconst (v := 0) hz d_LW_law_16 (by decide) ?_
    refine kr_istore_n (lf := [(2, .ref q1), (1, .ref q0), (0, .ref b)]) hz d_LW_law_17 rfl (by decide) rfl ?_
    obtain ⟨w, hw⟩ : ∃ w : Nat → Nat, w = fun t => if t < 206 then u0 t else u1 t := ⟨_, rfl⟩
    have c0 : kc_s u0 g kc_x 0 206 = kc_s w g kc_x 0 206 := kc_cg (ext := []) (by decide +kernel) (fun t ht => by
      rcases ht with ht | ht
      · rw [hw]
        show u0 t = if t < 206 then u0 t else u1 t
        rw [if_pos (by omega)]
      · cases ht)
    have c1 : kc_s u1 g kc_x 206 10 = kc_s w g kc_x 206 10 := kc_cg (ext := []) (by decide +kernel) (fun t ht => by
      rcases ht with ht | ht
      · rw [hw]
        show u1 t = if t < 206 then u0 t else u1 t
        rw [if_neg (by omega)]
      · cases ht)
    refine kr_eq (ws' := xh_w (w, g) kc_x) (by rw [List.nil_append, c0, c1, kc_s_app (lo := 0) (a := 206) (b := 10), kc_xw]) ?_
    intro H locs la hP hD hS hL1
    have hxD : xh_D (w, g) := fun i j hi hj e1 => hD.1 i j _ _ (xh_at hi) (xh_at hj) e1
    have hA : ∀ q, xh_A (w, g) s.heap.size q → s.heap.size ≤ q := fun q h => by
      rcases h with ⟨k, hk, rfl⟩ | h
      · exact hD.2 k _ (xh_at hk)
      · exact h
    have hzz : xh_C p s m #[Value.ref b] c code 4 "SpendScriptLaw" D (w, g) (fun q => s.heap.size ≤ q) := ⟨hx, hb, hml, hown, hts, hK, hxD, hA⟩
    have hJ := jb_LW_law_b18 (l := l) (e := e) (below := below) (cells := 0 + 1 + 205 + 1 + 9) (slots := 0 + 10 + 3482 + 19 + 3657) hzz hb hr hlk ⟨by omega, by omega⟩ hX hbl (by omega) sp_fuel 0 kc_x
    have hl2 := lv_sub hL1 (l' := [(0, .ref b), (1, .ref (((w, g) : xh_G).1 0)), (2, .ref (((w, g) : xh_G).1 206)), (3, .int 0)]) [3, 2, 1, 0] (by
      show [(0, Value.ref b), (1, Value.ref q0), (2, Value.ref q1), (3, Value.int 0)] = [(0, Value.ref b), (1, Value.ref (w 0)), (2, Value.ref (w 206)), (3, Value.int 0)]
      rw [show w 0 = q0 by rw [hw]; exact hu0, show w 206 = q1 by rw [hw]; exact hu1])
    intro T hT Y
    obtain ⟨t, a1, b1⟩ := hJ 1 X' hX' H locs la hP hS hl2 T hT Y
    exact ⟨t, a1, b1 rfl⟩
  have hl := lv_entry [Value.ref b] (n := 4) (Nat.le_of_ble_eq_true rfl)
  rw [lg_entry_eq]
  exact key s.heap [] _ (fun k q hk => by cases hk) ⟨fun i j p q hi _ _ => (by cases hi), fun k q hk => by cases hk⟩ va_S.rf hl


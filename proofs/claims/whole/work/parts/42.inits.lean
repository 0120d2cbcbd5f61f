/-! The constructors: each makes its block of labels. kc_x: what the fields and elements are then; kc_s u g X lo n: the cells of the labels lo .. lo + n - 1 at the addresses u. -/
def kc_x : xh_T := (fun k j => if k = 0 ∧ 7 ≤ j ∨ k = 206 ∧ (j = 14 ∨ j = 15 ∨ j = 16) then -1 else 0, fun k j => k + 1 + 2 * (if j < 30 then j else 29), fun _ _ => 0)
def kc_s (u : Nat → Nat) (g : kc_G) (X : xh_T) (lo n : Nat) : va_W := (List.range' lo n).map (fun k => (u k, xh_c (u, g) X k (sp_lay k)))
theorem kc_s_app {u : Nat → Nat} {g : kc_G} {X : xh_T} {lo a b : Nat} : kc_s u g X lo a ++ kc_s u g X (lo + a) b = kc_s u g X lo (a + b) := by
  unfold kc_s
  rw [← List.map_append, List.range'_append_1]
theorem kc_s_1 {u : Nat → Nat} {g : kc_G} {X : xh_T} {k : Nat} {L : xh_L} (h : sp_lay k = L) : kc_s u g X k 1 = [(u k, xh_c (u, g) X k L)] := by
  unfold kc_s
  rw [← h]
  rfl
theorem kc_s_2 {u : Nat → Nat} {g : kc_G} {X : xh_T} {k : Nat} {L L' : xh_L} (h : sp_lay k = L) (h' : sp_lay (k + 1) = L') : kc_s u g X k 2 = [(u k, xh_c (u, g) X k L), (u (k + 1), xh_c (u, g) X (k + 1) L')] := by
  unfold kc_s
  rw [← h, ← h']
  rfl
theorem kc_xa {k : Nat} (h : k ≠ 0) (h' : k ≠ 206) : kc_x.1 k = fun _ => 0 := by
  funext j
  simp [kc_x, h, h']
def kc_ok (lo n : Nat) (ext : List Nat) : Bool := (List.range' lo n).all (fun k => match sp_lay k with
  | .inr (_, fds) => fds.all (fun o => match o with
    | none => true
    | some t => decide (lo ≤ t ∧ t < lo + n ∨ t ∈ ext))
  | .inl (q, _) => decide (q < 3 ∨ q = 3 ∧ lo ≤ k + 1 ∧ k + 60 ≤ lo + n))
theorem kc_cg {u u' : Nat → Nat} {g : kc_G} {lo n : Nat} {ext : List Nat} (hok : kc_ok lo n ext = true) (h : ∀ t, (lo ≤ t ∧ t < lo + n) ∨ t ∈ ext → u t = u' t) : kc_s u g kc_x lo n = kc_s u' g kc_x lo n := by
  unfold kc_s
  apply List.map_congr_left
  intro k hk
  have hk1 := List.mem_range'_1.mp hk
  have h1 := List.all_eq_true.mp hok k hk
  rw [h k (Or.inl hk1)]
  congr 1
  cases hL : sp_lay k with
  | inr q =>
    obtain ⟨ci, fds⟩ := q
    rw [hL] at h1
    show Sum.inr (ci, xh_f u (kc_x.1 k) fds) = Sum.inr (ci, xh_f u' (kc_x.1 k) fds)
    have : xh_f u (kc_x.1 k) fds = xh_f u' (kc_x.1 k) fds := by
      unfold xh_f
      apply List.map_congr_left
      intro j hj
      have hj1 := List.mem_range.mp hj
      cases ho : fds[j]? with
      | none => rfl
      | some o =>
        cases o with
        | none => rfl
        | some t =>
          have h2 := List.all_eq_true.mp h1 (some t) (List.mem_of_getElem? ho)
          show Value.ref (u t) = Value.ref (u' t)
          rw [h t (of_decide_eq_true h2)]
    rw [this]
  | inl q =>
    obtain ⟨a, m⟩ := q
    rw [hL] at h1
    have h2 := of_decide_eq_true h1
    rcases (show a = 0 ∨ a = 1 ∨ a = 2 ∨ a = 3 by omega) with rfl | rfl | rfl | rfl
    · rfl
    · rfl
    · rfl
    · show Sum.inl (g.2.2.2, m, Sum.inr (Sum.inr (Sum.inr (Sum.inr (fun j => some (u (kc_x.2.1 k j))))))) = Sum.inl (g.2.2.2, m, Sum.inr (Sum.inr (Sum.inr (Sum.inr (fun j => some (u' (kc_x.2.1 k j)))))))
      have : (fun j => some (u (kc_x.2.1 k j))) = (fun j => some (u' (kc_x.2.1 k j))) := by
        funext j
        have h3 : kc_x.2.1 k j = k + 1 + 2 * (if j < 30 then j else 29) := rfl
        rw [h (kc_x.2.1 k j) (Or.inl (by rw [h3]; split <;> omega))]
      rw [this]
theorem wa_oi : Cond.instanceMethod objectInit ∈ sp_ws := (sp_tb (List.mem_of_getElem? (i := 17) (by decide +kernel)))
theorem wa_oc : Cond.code objectInit ⟨#[0xb1]⟩ 1 none ∈ sp_ws := (sp_tb (List.mem_of_getElem? (i := 18) (by decide +kernel)))
theorem wa_aint : Cond.arrayClass .int ∈ sp_ws := (sp_tb (List.mem_of_getElem? (i := 32) (by decide +kernel)))
theorem wa_aboolean : Cond.arrayClass .boolean ∈ sp_ws := (sp_tb (List.mem_of_getElem? (i := 89) (by decide +kernel)))
theorem wa_along : Cond.arrayClass .long ∈ sp_ws := (sp_tb (List.mem_of_getElem? (i := 595) (by decide +kernel)))
theorem kd_BS : ∀ j, j < 2 → defaultValue (t_BS j) = vp_V [.null, .int 0] j := fun j hj => by
  rcases (show j = 0 ∨ j = 1 by omega) with rfl | rfl <;> rfl
theorem kd_IS : ∀ j, j < 3 → defaultValue (t_IS j) = vp_V [.null, .null, .int 0] j := fun j hj => by
  rcases (show j = 0 ∨ j = 1 ∨ j = 2 by omega) with rfl | rfl | rfl <;> rfl
theorem kd_ST : ∀ j, j < 3 → defaultValue (t_ST j) = vp_V [.null, .null, .int 0] j := fun j hj => by
  rcases (show j = 0 ∨ j = 1 ∨ j = 2 by omega) with rfl | rfl | rfl <;> rfl
theorem kd_BR : ∀ j, j < 2 → defaultValue (t_BR j) = vp_V [.null, .int 0] j := fun j hj => by
  rcases (show j = 0 ∨ j = 1 by omega) with rfl | rfl <;> rfl
theorem kd_MC : ∀ j, j < 7 → defaultValue (t_MC j) = vp_V [.null, .null, .null, .null, .int 0, .int 0, .int 0] j := fun j hj => by
  rcases (show j = 0 ∨ j = 1 ∨ j = 2 ∨ j = 3 ∨ j = 4 ∨ j = 5 ∨ j = 6 by omega) with rfl | rfl | rfl | rfl | rfl | rfl | rfl <;> rfl
theorem kd_OP : ∀ j, j < 3 → defaultValue (t_OP j) = vp_V [.null, .null, .null] j := fun j hj => by
  rcases (show j = 0 ∨ j = 1 ∨ j = 2 by omega) with rfl | rfl | rfl <;> rfl
theorem kd_SS : ∀ j, j < 10 → defaultValue (t_SS j) = vp_V [.null, .null, .null, .null, .null, .null, .null, .int 0, .int 0, .int 0] j := fun j hj => by
  rcases (show j = 0 ∨ j = 1 ∨ j = 2 ∨ j = 3 ∨ j = 4 ∨ j = 5 ∨ j = 6 ∨ j = 7 ∨ j = 8 ∨ j = 9 by omega) with rfl | rfl | rfl | rfl | rfl | rfl | rfl | rfl | rfl | rfl <;> rfl
theorem kd_MD : ∀ j, j < 19 → defaultValue (t_MD j) = vp_V [.null, .null, .null, .null, .null, .int 0, .int 0, .null, .int 0, .int 0, .int 0, .null, .null, .int 0, .int 0, .int 0, .int 0, .int 0, .null] j := fun j hj => by
  rcases (show j = 0 ∨ j = 1 ∨ j = 2 ∨ j = 3 ∨ j = 4 ∨ j = 5 ∨ j = 6 ∨ j = 7 ∨ j = 8 ∨ j = 9 ∨ j = 10 ∨ j = 11 ∨ j = 12 ∨ j = 13 ∨ j = 14 ∨ j = 15 ∨ j = 16 ∨ j = 17 ∨ j = 18 by omega) with rfl | rfl | rfl | rfl | rfl | rfl | rfl | rfl | rfl | rfl | rfl | rfl | rfl | rfl | rfl | rfl | rfl | rfl | rfl <;> rfl
theorem d_BS_init_0 : decode b_BS_init 0 = .ok (.aload_n 0, 1) := by decide +kernel
theorem d_BS_init_1 : decode b_BS_init 1 = .ok (.invokespecial 3, 3) := by decide +kernel
theorem d_BS_init_4 : decode b_BS_init 4 = .ok (.aload_n 0, 1) := by decide +kernel
theorem d_BS_init_5 : decode b_BS_init 5 = .ok (.iload_n 1, 1) := by decide +kernel
theorem d_BS_init_6 : decode b_BS_init 6 = .ok (.newarray .int, 2) := by decide +kernel
theorem d_BS_init_8 : decode b_BS_init 8 = .ok (.putfield 9, 3) := by decide +kernel
theorem d_BS_init_11 : decode b_BS_init 11 = .ok (.aload_n 0, 1) := by decide +kernel
theorem d_BS_init_12 : decode b_BS_init 12 = .ok (.iconst 0, 1) := by decide +kernel
theorem d_BS_init_13 : decode b_BS_init 13 = .ok (.putfield 15, 3) := by decide +kernel
theorem d_BS_init_16 : decode b_BS_init 16 = .ok (.return_, 1) := by decide +kernel
theorem wo_BS_3 : Cond.methodLink "SpendScript$ByteString" 3 objectInit ∈ sp_ws := (sp_tb (List.mem_of_getElem? (i := 24) (by decide +kernel)))
theorem wg_BS_9 : Cond.fieldLink "SpendScript$ByteString" 9 (F_BS 0).1 (F_BS 0).2.1 (F_BS 0).2.2.1 ∈ sp_ws := (sp_tb (List.mem_of_getElem? (i := 25) (by decide +kernel)))
theorem wg_BS_15 : Cond.fieldLink "SpendScript$ByteString" 15 (F_BS 1).1 (F_BS 1).2.1 (F_BS 1).2.2.1 ∈ sp_ws := (sp_tb (List.mem_of_getElem? (i := 26) (by decide +kernel)))
set_option maxRecDepth 100000 in
set_option maxHeartbeats 4000000 in
theorem kn_BS (l : Launch) (D : va_G) (g : kc_G) (q cap : Nat) (n32 : Int32) (h0 : Nat) (hq : sp_lay q = .inr (0, [some (q + 1), none])) (ha : sp_lay (q + 1) = .inl (0, cap)) (h1 : ¬ n32 < 0) (h2 : n32.toNatClampNeg = cap) (h3 : cap * componentBytes .int ≤ 536870912) (h4 : q ≠ 0 ∧ q ≠ 206 ∧ q + 1 ≠ 206) : kc_M l D g y_BS_init b_BS_init 2 { frames := 1, cells := 1, slots := cap, locals := 12 } [.ref h0, .int n32] [(h0, .inr (0, [.null, .int 0]))] 1 cap (fun u => u q = h0) (fun u => kc_s u g kc_x q 2) := by
  refine kc_enter (ls := [(0, .ref h0), (1, .int n32)]) (by decide +kernel) (Nat.le_of_ble_eq_true rfl) rfl ?_
  intro p e s m args below meth c hz hr hlk hin
  refine kr_aload_n hz d_BS_init_0 rfl 0 rfl ?_
  refine kr_objInit hz wo_BS_3 wa_oi wa_oc (Nat.le_of_ble_eq_true rfl) (Nat.le_of_ble_eq_true rfl) d_BS_init_1 ?_
  refine kr_aload_n hz d_BS_init_4 rfl 0 rfl ?_
  refine kr_iload_n hz d_BS_init_5 rfl 1 rfl ?_
  refine kr_newaI (N' := cap) hz wa_aint h1 h2 h3 (by show 0 + 1 ≤ 1; omega) (by show 0 + cap ≤ cap; omega) d_BS_init_6 (fun q1 => ?_)
  refine kr_putF (ci := 0) (k := 0) (v := .ref q1) (T := F_BS) (N := 2) (C := "SpendScript$ByteString") (fs := [.null, .int 0]) (tl := [(q1, .inl (g.1, cap, .inl (fun _ => 0)))]) hz hin iw_BS t_BS tk_BS nk_BS rfl (by decide) wg_BS_9 rfl rfl rfl rfl (Nat.le_of_ble_eq_true rfl) d_BS_init_8 ?_
  refine kr_eq (ws' := (h0, .inr (0, [.ref q1, .int 0])) :: [(q1, .inl (g.1, cap, .inl (fun _ => 0)))]) rfl ?_
  refine kr_aload_n hz d_BS_init_11 rfl 0 rfl ?_
  refine kr_iconst (v := 0) hz d_BS_init_12 (by decide) ?_
  refine kr_put (ci := 0) (k := 1) (v := .int 0) (T := F_BS) (N := 2) (C := "SpendScript$ByteString") (fs := [.ref q1, .int 0]) (tl := [(q1, .inl (g.1, cap, .inl (fun _ => 0)))]) hz iw_BS t_BS tk_BS nk_BS rfl (by decide) wg_BS_15 rfl rfl rfl (Nat.le_of_ble_eq_true rfl) d_BS_init_13 ?_
  refine kr_eq (ws' := (h0, .inr (0, [.ref q1, .int 0])) :: [(q1, .inl (g.1, cap, .inl (fun _ => 0)))]) rfl ?_
  refine kr_widen (a := 1) (b := cap) (by show 0 + 1 ≤ 1; decide) (by show 0 + cap ≤ cap; omega) ?_
  refine kr_vret (u := fun k => if k = q then h0 else q1) hz hr hlk (if_pos rfl) ?_ d_BS_init_16
  rw [kc_s_2 hq ha]
  show [((if q = q then h0 else q1 : Nat), (Sum.inr (0, [.ref (if q + 1 = q then h0 else q1), .int (kc_x.1 q 1)]) : va_E)), ((if q + 1 = q then h0 else q1 : Nat), Sum.inl (g.1, cap, .inl (kc_x.1 (q + 1))))] = _
  rw [if_pos rfl, if_neg (by omega), kc_xa h4.1 h4.2.1, kc_xa (by omega) h4.2.2]
  try rfl
theorem d_ST_init_0 : decode b_ST_init 0 = .ok (.aload_n 0, 1) := by decide +kernel
theorem d_ST_init_1 : decode b_ST_init 1 = .ok (.invokespecial 1, 3) := by decide +kernel
theorem d_ST_init_4 : decode b_ST_init 4 = .ok (.aload_n 0, 1) := by decide +kernel
theorem d_ST_init_5 : decode b_ST_init 5 = .ok (.bipush 8, 2) := by decide +kernel
theorem d_ST_init_7 : decode b_ST_init 7 = .ok (.newarray .int, 2) := by decide +kernel
theorem d_ST_init_9 : decode b_ST_init 9 = .ok (.putfield 9, 3) := by decide +kernel
theorem d_ST_init_12 : decode b_ST_init 12 = .ok (.aload_n 0, 1) := by decide +kernel
theorem d_ST_init_13 : decode b_ST_init 13 = .ok (.bipush 8, 2) := by decide +kernel
theorem d_ST_init_15 : decode b_ST_init 15 = .ok (.newarray .int, 2) := by decide +kernel
theorem d_ST_init_17 : decode b_ST_init 17 = .ok (.putfield 13, 3) := by decide +kernel
theorem d_ST_init_20 : decode b_ST_init 20 = .ok (.aload_n 0, 1) := by decide +kernel
theorem d_ST_init_21 : decode b_ST_init 21 = .ok (.iconst 0, 1) := by decide +kernel
theorem d_ST_init_22 : decode b_ST_init 22 = .ok (.putfield 16, 3) := by decide +kernel
theorem d_ST_init_25 : decode b_ST_init 25 = .ok (.return_, 1) := by decide +kernel
theorem wo_ST_1 : Cond.methodLink "SpendScript$SignatureTable" 1 objectInit ∈ sp_ws := (sp_tb (List.mem_of_getElem? (i := 38) (by decide +kernel)))
theorem wg_ST_9 : Cond.fieldLink "SpendScript$SignatureTable" 9 (F_ST 0).1 (F_ST 0).2.1 (F_ST 0).2.2.1 ∈ sp_ws := (sp_tb (List.mem_of_getElem? (i := 39) (by decide +kernel)))
theorem wg_ST_13 : Cond.fieldLink "SpendScript$SignatureTable" 13 (F_ST 1).1 (F_ST 1).2.1 (F_ST 1).2.2.1 ∈ sp_ws := (sp_tb (List.mem_of_getElem? (i := 40) (by decide +kernel)))
theorem wg_ST_16 : Cond.fieldLink "SpendScript$SignatureTable" 16 (F_ST 2).1 (F_ST 2).2.1 (F_ST 2).2.2.1 ∈ sp_ws := (sp_tb (List.mem_of_getElem? (i := 41) (by decide +kernel)))
set_option maxRecDepth 100000 in
set_option maxHeartbeats 4000000 in
theorem kn_ST (l : Launch) (D : va_G) (g : kc_G) (h0 : Nat) : kc_M l D g y_ST_init b_ST_init 1 { frames := 1, cells := 2, slots := 16, locals := 12 } [.ref h0] [(h0, .inr (2, [.null, .null, .int 0]))] 2 16 (fun u => u 7 = h0) (fun u => kc_s u g kc_x 7 3) := by
  refine kc_enter (ls := [(0, .ref h0)]) (by decide +kernel) (Nat.le_of_ble_eq_true rfl) rfl ?_
  intro p e s m args below meth c hz hr hlk hin
  refine kr_aload_n hz d_ST_init_0 rfl 0 rfl ?_
  refine kr_objInit hz wo_ST_1 wa_oi wa_oc (Nat.le_of_ble_eq_true rfl) (Nat.le_of_ble_eq_true rfl) d_ST_init_1 ?_
  refine kr_aload_n hz d_ST_init_4 rfl 0 rfl ?_
  refine kr_bipush (v := 8) hz d_ST_init_5 (by decide) ?_
  refine kr_newaI (N' := 8) hz wa_aint (by decide +kernel) (by decide +kernel) (by decide +kernel) (by show 0 + 1 ≤ 2; decide) (by show 0 + 8 ≤ 16; decide) d_ST_init_7 (fun q1 => ?_)
  refine kr_putF (ci := 2) (k := 0) (v := .ref q1) (T := F_ST) (N := 3) (C := "SpendScript$SignatureTable") (fs := [.null, .null, .int 0]) (tl := [(q1, .inl (g.1, 8, .inl (fun _ => 0)))]) hz hin iw_ST t_ST tk_ST nk_ST rfl (by decide) wg_ST_9 rfl rfl rfl rfl (Nat.le_of_ble_eq_true rfl) d_ST_init_9 ?_
  refine kr_eq (ws' := (h0, .inr (2, [.ref q1, .null, .int 0])) :: [(q1, .inl (g.1, 8, .inl (fun _ => 0)))]) rfl ?_
  refine kr_aload_n hz d_ST_init_12 rfl 0 rfl ?_
  refine kr_bipush (v := 8) hz d_ST_init_13 (by decide) ?_
  refine kr_newaI (N' := 8) hz wa_aint (by decide +kernel) (by decide +kernel) (by decide +kernel) (by show 0 + 1 + 1 ≤ 2; decide) (by show 0 + 8 + 8 ≤ 16; decide) d_ST_init_15 (fun q2 => ?_)
  refine kr_putF (ci := 2) (k := 1) (v := .ref q2) (T := F_ST) (N := 3) (C := "SpendScript$SignatureTable") (fs := [.ref q1, .null, .int 0]) (tl := ([(q1, .inl (g.1, 8, .inl (fun _ => 0)))] ++ [(q2, .inl (g.1, 8, .inl (fun _ => 0)))])) hz hin iw_ST t_ST tk_ST nk_ST rfl (by decide) wg_ST_13 rfl rfl rfl rfl (Nat.le_of_ble_eq_true rfl) d_ST_init_17 ?_
  refine kr_eq (ws' := (h0, .inr (2, [.ref q1, .ref q2, .int 0])) :: ([(q1, .inl (g.1, 8, .inl (fun _ => 0)))] ++ [(q2, .inl (g.1, 8, .inl (fun _ => 0)))])) rfl ?_
  refine kr_aload_n hz d_ST_init_20 rfl 0 rfl ?_
  refine kr_iconst (v := 0) hz d_ST_init_21 (by decide) ?_
  refine kr_put (ci := 2) (k := 2) (v := .int 0) (T := F_ST) (N := 3) (C := "SpendScript$SignatureTable") (fs := [.ref q1, .ref q2, .int 0]) (tl := ([(q1, .inl (g.1, 8, .inl (fun _ => 0)))] ++ [(q2, .inl (g.1, 8, .inl (fun _ => 0)))])) hz iw_ST t_ST tk_ST nk_ST rfl (by decide) wg_ST_16 rfl rfl rfl (Nat.le_of_ble_eq_true rfl) d_ST_init_22 ?_
  refine kr_eq (ws' := (h0, .inr (2, [.ref q1, .ref q2, .int 0])) :: ([(q1, .inl (g.1, 8, .inl (fun _ => 0)))] ++ [(q2, .inl (g.1, 8, .inl (fun _ => 0)))])) rfl ?_
  refine kr_widen (a := 2) (b := 16) (by show 0 + 1 + 1 ≤ 2; decide) (by show 0 + 8 + 8 ≤ 16; decide) ?_
  refine kr_vret (u := fun k => if k = 7 then h0 else if k = 8 then q1 else q2) hz hr hlk rfl ?_ d_ST_init_25
  rw [show (3 : Nat) = 1 + (1 + 1) from rfl, ← kc_s_app, ← kc_s_app, kc_s_1 ly_7, kc_s_1 ly_8, kc_s_1 ly_9]
  show [(h0, (Sum.inr (2, [.ref q1, .ref q2, .int (kc_x.1 7 2)]) : va_E)), (q1, Sum.inl (g.1, 8, .inl (kc_x.1 8))), (q2, Sum.inl (g.1, 8, .inl (kc_x.1 9)))] = _
  rw [kc_xa (k := 7) (by decide) (by decide), kc_xa (k := 8) (by decide) (by decide), kc_xa (k := 9) (by decide) (by decide)]
  rfl
theorem d_BR_init_0 : decode b_BR_init 0 = .ok (.aload_n 0, 1) := by decide +kernel
theorem d_BR_init_1 : decode b_BR_init 1 = .ok (.invokespecial 1, 3) := by decide +kernel
theorem d_BR_init_4 : decode b_BR_init 4 = .ok (.aload_n 0, 1) := by decide +kernel
theorem d_BR_init_5 : decode b_BR_init 5 = .ok (.bipush 8, 2) := by decide +kernel
theorem d_BR_init_7 : decode b_BR_init 7 = .ok (.newarray .boolean, 2) := by decide +kernel
theorem d_BR_init_9 : decode b_BR_init 9 = .ok (.putfield 9, 3) := by decide +kernel
theorem d_BR_init_12 : decode b_BR_init 12 = .ok (.aload_n 0, 1) := by decide +kernel
theorem d_BR_init_13 : decode b_BR_init 13 = .ok (.iconst 0, 1) := by decide +kernel
theorem d_BR_init_14 : decode b_BR_init 14 = .ok (.putfield 13, 3) := by decide +kernel
theorem d_BR_init_17 : decode b_BR_init 17 = .ok (.return_, 1) := by decide +kernel
theorem wo_BR_1 : Cond.methodLink "SpendScript$Branches" 1 objectInit ∈ sp_ws := (sp_tb (List.mem_of_getElem? (i := 81) (by decide +kernel)))
theorem wg_BR_9 : Cond.fieldLink "SpendScript$Branches" 9 (F_BR 0).1 (F_BR 0).2.1 (F_BR 0).2.2.1 ∈ sp_ws := (sp_tb (List.mem_of_getElem? (i := 82) (by decide +kernel)))
theorem wg_BR_13 : Cond.fieldLink "SpendScript$Branches" 13 (F_BR 1).1 (F_BR 1).2.1 (F_BR 1).2.2.1 ∈ sp_ws := (sp_tb (List.mem_of_getElem? (i := 83) (by decide +kernel)))
set_option maxRecDepth 100000 in
set_option maxHeartbeats 4000000 in
theorem kn_BR (l : Launch) (D : va_G) (g : kc_G) (h0 : Nat) : kc_M l D g y_BR_init b_BR_init 1 { frames := 1, cells := 1, slots := 8, locals := 12 } [.ref h0] [(h0, .inr (3, [.null, .int 0]))] 1 8 (fun u => u 203 = h0) (fun u => kc_s u g kc_x 203 2) := by
  refine kc_enter (ls := [(0, .ref h0)]) (by decide +kernel) (Nat.le_of_ble_eq_true rfl) rfl ?_
  intro p e s m args below meth c hz hr hlk hin
  refine kr_aload_n hz d_BR_init_0 rfl 0 rfl ?_
  refine kr_objInit hz wo_BR_1 wa_oi wa_oc (Nat.le_of_ble_eq_true rfl) (Nat.le_of_ble_eq_true rfl) d_BR_init_1 ?_
  refine kr_aload_n hz d_BR_init_4 rfl 0 rfl ?_
  refine kr_bipush (v := 8) hz d_BR_init_5 (by decide) ?_
  refine kr_newaZ (N' := 8) hz wa_aboolean (by decide +kernel) (by decide +kernel) (by decide +kernel) (by show 0 + 1 ≤ 1; decide) (by show 0 + 8 ≤ 8; decide) d_BR_init_7 (fun q1 => ?_)
  refine kr_putF (ci := 3) (k := 0) (v := .ref q1) (T := F_BR) (N := 2) (C := "SpendScript$Branches") (fs := [.null, .int 0]) (tl := [(q1, .inl (g.2.1, 8, .inl (fun _ => 0)))]) hz hin iw_BR t_BR tk_BR nk_BR rfl (by decide) wg_BR_9 rfl rfl rfl rfl (Nat.le_of_ble_eq_true rfl) d_BR_init_9 ?_
  refine kr_eq (ws' := (h0, .inr (3, [.ref q1, .int 0])) :: [(q1, .inl (g.2.1, 8, .inl (fun _ => 0)))]) rfl ?_
  refine kr_aload_n hz d_BR_init_12 rfl 0 rfl ?_
  refine kr_iconst (v := 0) hz d_BR_init_13 (by decide) ?_
  refine kr_put (ci := 3) (k := 1) (v := .int 0) (T := F_BR) (N := 2) (C := "SpendScript$Branches") (fs := [.ref q1, .int 0]) (tl := [(q1, .inl (g.2.1, 8, .inl (fun _ => 0)))]) hz iw_BR t_BR tk_BR nk_BR rfl (by decide) wg_BR_13 rfl rfl rfl (Nat.le_of_ble_eq_true rfl) d_BR_init_14 ?_
  refine kr_eq (ws' := (h0, .inr (3, [.ref q1, .int 0])) :: [(q1, .inl (g.2.1, 8, .inl (fun _ => 0)))]) rfl ?_
  refine kr_widen (a := 1) (b := 8) (by show 0 + 1 ≤ 1; decide) (by show 0 + 8 ≤ 8; decide) ?_
  refine kr_vret (u := fun k => if k = 203 then h0 else q1) hz hr hlk rfl ?_ d_BR_init_17
  rw [kc_s_2 ly_203 ly_204]
  show [(h0, (Sum.inr (3, [.ref q1, .int (kc_x.1 203 1)]) : va_E)), (q1, Sum.inl (g.2.1, 8, .inl (kc_x.1 204)))] = _
  rw [kc_xa (k := 203) (by decide) (by decide), kc_xa (k := 204) (by decide) (by decide)]
  try rfl
theorem d_OP_init_0 : decode b_OP_init 0 = .ok (.aload_n 0, 1) := by decide +kernel
theorem d_OP_init_1 : decode b_OP_init 1 = .ok (.invokespecial 3, 3) := by decide +kernel
theorem d_OP_init_4 : decode b_OP_init 4 = .ok (.aload_n 0, 1) := by decide +kernel
theorem d_OP_init_5 : decode b_OP_init 5 = .ok (.aload_n 1, 1) := by decide +kernel
theorem d_OP_init_6 : decode b_OP_init 6 = .ok (.putfield 9, 3) := by decide +kernel
theorem d_OP_init_9 : decode b_OP_init 9 = .ok (.aload_n 0, 1) := by decide +kernel
theorem d_OP_init_10 : decode b_OP_init 10 = .ok (.aload_n 2, 1) := by decide +kernel
theorem d_OP_init_11 : decode b_OP_init 11 = .ok (.putfield 15, 3) := by decide +kernel
theorem d_OP_init_14 : decode b_OP_init 14 = .ok (.aload_n 0, 1) := by decide +kernel
theorem d_OP_init_15 : decode b_OP_init 15 = .ok (.aload_n 3, 1) := by decide +kernel
theorem d_OP_init_16 : decode b_OP_init 16 = .ok (.putfield 18, 3) := by decide +kernel
theorem d_OP_init_19 : decode b_OP_init 19 = .ok (.return_, 1) := by decide +kernel
theorem wo_OP_3 : Cond.methodLink "SpendScript$Operations" 3 objectInit ∈ sp_ws := (sp_tb (List.mem_of_getElem? (i := 95) (by decide +kernel)))
theorem wg_OP_9 : Cond.fieldLink "SpendScript$Operations" 9 (F_OP 0).1 (F_OP 0).2.1 (F_OP 0).2.2.1 ∈ sp_ws := (sp_tb (List.mem_of_getElem? (i := 96) (by decide +kernel)))
theorem wg_OP_15 : Cond.fieldLink "SpendScript$Operations" 15 (F_OP 1).1 (F_OP 1).2.1 (F_OP 1).2.2.1 ∈ sp_ws := (sp_tb (List.mem_of_getElem? (i := 97) (by decide +kernel)))
theorem wg_OP_18 : Cond.fieldLink "SpendScript$Operations" 18 (F_OP 2).1 (F_OP 2).2.1 (F_OP 2).2.2.1 ∈ sp_ws := (sp_tb (List.mem_of_getElem? (i := 98) (by decide +kernel)))
set_option maxRecDepth 100000 in
set_option maxHeartbeats 4000000 in
theorem kn_OP (l : Launch) (D : va_G) (g : kc_G) (h0 a b c7 : Nat) : kc_M l D g y_OP_init b_OP_init 4 { frames := 1, cells := 0, slots := 0, locals := 12 } [.ref h0, .ref a, .ref b, .ref c7] [(h0, .inr (5, [.null, .null, .null]))] 0 0 (fun u => u 205 = h0 ∧ u 10 = a ∧ u 139 = b ∧ u 7 = c7) (fun u => kc_s u g kc_x 205 1) := by
  refine kc_enter (ls := [(0, .ref h0), (1, .ref a), (2, .ref b), (3, .ref c7)]) (by decide +kernel) (Nat.le_of_ble_eq_true rfl) rfl ?_
  intro p e s m args below meth c hz hr hlk hin
  refine kr_aload_n hz d_OP_init_0 rfl 0 rfl ?_
  refine kr_objInit hz wo_OP_3 wa_oi wa_oc (Nat.le_of_ble_eq_true rfl) (Nat.le_of_ble_eq_true rfl) d_OP_init_1 ?_
  refine kr_aload_n hz d_OP_init_4 rfl 0 rfl ?_
  refine kr_aload_n hz d_OP_init_5 rfl 1 rfl ?_
  refine kr_putF (ci := 5) (k := 0) (v := .ref a) (T := F_OP) (N := 3) (C := "SpendScript$Operations") (fs := [.null, .null, .null]) (tl := []) hz hin iw_OP t_OP tk_OP nk_OP rfl (by decide) wg_OP_9 rfl rfl rfl rfl (Nat.le_of_ble_eq_true rfl) d_OP_init_6 ?_
  refine kr_eq (ws' := (h0, .inr (5, [.ref a, .null, .null])) :: []) rfl ?_
  refine kr_aload_n hz d_OP_init_9 rfl 0 rfl ?_
  refine kr_aload_n hz d_OP_init_10 rfl 2 rfl ?_
  refine kr_putF (ci := 5) (k := 1) (v := .ref b) (T := F_OP) (N := 3) (C := "SpendScript$Operations") (fs := [.ref a, .null, .null]) (tl := []) hz hin iw_OP t_OP tk_OP nk_OP rfl (by decide) wg_OP_15 rfl rfl rfl rfl (Nat.le_of_ble_eq_true rfl) d_OP_init_11 ?_
  refine kr_eq (ws' := (h0, .inr (5, [.ref a, .ref b, .null])) :: []) rfl ?_
  refine kr_aload_n hz d_OP_init_14 rfl 0 rfl ?_
  refine kr_aload_n hz d_OP_init_15 rfl 3 rfl ?_
  refine kr_putF (ci := 5) (k := 2) (v := .ref c7) (T := F_OP) (N := 3) (C := "SpendScript$Operations") (fs := [.ref a, .ref b, .null]) (tl := []) hz hin iw_OP t_OP tk_OP nk_OP rfl (by decide) wg_OP_18 rfl rfl rfl rfl (Nat.le_of_ble_eq_true rfl) d_OP_init_16 ?_
  refine kr_eq (ws' := (h0, .inr (5, [.ref a, .ref b, .ref c7])) :: []) rfl ?_
  refine kr_widen (a := 0) (b := 0) (by show 0 ≤ 0; decide) (by show 0 ≤ 0; decide) ?_
  refine kr_vret (u := fun k => if k = 205 then h0 else if k = 10 then a else if k = 139 then b else c7) hz hr hlk ⟨rfl, rfl, rfl, rfl⟩ ?_ d_OP_init_19
  rw [kc_s_1 ly_205]
  rfl

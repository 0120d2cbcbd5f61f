/-! The other side: spend, whole -/
theorem md_spend {X : xh_T} {σ : ss_T} (h : md_R X σ) : pw (fx_MD_spend X) (fun r X' => r = (ss_spend σ).2.2.2.2.1 ∧ md_R X' (ss_spend σ) ∧ fk X X') := by
  obtain ⟨a, b, t, st, r0, e0, p0, d0⟩ := σ
  obtain ⟨hc, _, _, _⟩ := h
  have hc : mC X a b t st d0 := hc
  have hA := hc.2.2.1
  have hBb := hc.2.2.2.1
  have h4 := fu_
  have fin : ∀ {Y : xh_T} {Q : Int32 × Int32 × Nat × rs_T}, qs a b t = Q → mC Y a b t Q.2.2.2.1 Q.2.2.2.2.2.2.2 → Y.1 206 14 = Q.1 → Y.1 206 15 = Q.2.1 → Y.1 206 16 = nI Q.2.2.1 → fk X Y → pw (fx_MD_spend_b250 Y) (fun r X' => r = (ss_spend (a, b, t, st, r0, e0, p0, d0)).2.2.2.2.1 ∧ md_R X' (ss_spend (a, b, t, st, r0, e0, p0, d0)) ∧ fk X X') := fun {Y Q} hq k1 k0 k2 k3 k4 => by
    have e : ss_spend (a, b, t, st, r0, e0, p0, d0) = (a, b, t, Q.2.2.2.1, Q.1, Q.2.1, if Q.1 = 0 then -1 else nI Q.2.2.1, Q.2.2.2.2.2.2.2) := by
      unfold ss_spend
      show ss_of _ (qs a b t) = _
      rw [hq]
      rfl
    rw [e]
    exact pw_m (md_250 k1 k0 k2 k3) (fun r Z k => ⟨k.1, k.2.1, k4.tr k.2.2⟩)
  have o2 : ∀ K : Option (Int32 × xh_T), xh_o 2 3 K = K := fun K => xo_ (i := 2) (by decide) (by decide)
  have c2 : (2 : Int32).toNatClampNeg = 2 := rfl
  unfold fx_MD_spend
  rw [xn_, xn_, xn_]
  have c1 : mC (xh_i (xh_i (xh_i X 206 5 0) 206 17 0) 206 15 0) a b t z_s 0 := by
    have e2 : ∀ k, k ≠ 206 → (xh_i (xh_i (xh_i X 206 5 0) 206 17 0) 206 15 0).1 k = X.1 k := fun k hk => by rw [hi_k _ _ _ hk, hi_k _ _ _ hk, hi_k _ _ _ hk]
    refine ⟨hc.1.keep (e2 207 (by decide)) (e2 208 (by decide)), hc.2.1.keep (e2 207 (by decide)) (e2 208 (by decide)), hA, hBb, ⟨?_, by show 0 ≤ 32; omega, fun j hj => absurd hj (Nat.not_lt_zero j)⟩, by show 0 ≤ 30; omega, fun i hi => absurd hi (Nat.not_lt_zero i), hc.2.2.2.2.2.2.2.1.keep ?_ (e2 213 (by decide)) (e2 214 (by decide)), ?_⟩
    · rw [hi_j _ _ _ (by decide : 5 ≠ 15), hi_j _ _ _ (by decide : 5 ≠ 17), hi_s]; rfl
    · rw [hi_j _ _ _ (by decide : 13 ≠ 15), hi_j _ _ _ (by decide : 13 ≠ 17), hi_j _ _ _ (by decide : 13 ≠ 5)]
    · rw [hi_j _ _ _ (by decide : 17 ≠ 15), hi_s]; rfl
  have g1 : fk X (xh_i (xh_i (xh_i X 206 5 0) 206 17 0) 206 15 0) := ((fk.i (by decide)).tr (fk.i (by decide))).tr (fk.i (by decide))
  refine pw_b (pw_m (show pw (fx_MD_run (nI 0) _) _ from md_run c1.2.2.2.2 c1.1 (by decide) hA true rfl) (fun r X4 k4 => pw_n ?_))
  have C4 : mC X4 a b t (q1 a t).2.2.1 (q1 a t).2.2.2.2.2.2 := c1.run k4
  have er : r = (q1 a t).1 := k4.1
  have p4 : X4.1 206 16 = nI (q1 a t).2.1 := k4.2.2.2.2
  have o4 : X4.1 206 15 = 0 := by rw [k4.2.2.2.1.2.2 15 (by decide) (by decide)]; exact hi_s _ _ _ _
  have g4 := g1.tr k4.2.2.2.1.k
  have C5 := C4.i (j := 14) (v := r) (by decide)
  have g5 : fk X (xh_i X4 206 14 r) := g4.tr (fk.i (by decide))
  have r5 : (xh_i X4 206 14 r).1 206 14 = r := hi_s _ _ _ _
  rw [r5]
  by_cases n1 : (q1 a t).1 = 0
  · rw [if_pos (er.trans n1), xn_, xn_, C5.2.2.2.2.1.1]
    refine md_38s (X := xh_i X4 206 14 r) (n := (q1 a t).2.2.1.1) C5.2.2.2.2.1.1 C5.2.2.2.2.2.1 (fun Z z1 z2 z3 => ?_) (33 * (q1 a t).2.2.1.1) 0 sp_fuel _ (by omega) (by have := C5.2.2.2.2.2.1; omega) (fun j hj => absurd hj (by omega)) (fun _ _ => rfl) rfl
    have CZ : mC Z a b t (q1 a t).2.2.1 (q1 a t).2.2.2.2.2.2 := ⟨C5.1.keep (z2 207 (by decide)) (z2 208 (by decide)), C5.2.1.keep (z2 207 (by decide)) (z2 208 (by decide)), hA, hBb, C5.2.2.2.2.1.keep (by rw [z2 206 (by decide)]) (z2 209 (by decide)), C5.2.2.2.2.2.1, C5.2.2.2.2.2.2.1, C5.2.2.2.2.2.2.2.1.keep (by rw [z2 206 (by decide)]) (z2 213 (by decide)) (z2 214 (by decide)), by rw [z2 206 (by decide)]; exact C5.2.2.2.2.2.2.2.2⟩
    have KZ : ∀ j, j < (q1 a t).2.2.1.1 → iM Z 211 j ((q1 a t).2.2.1.2 j) := fun j hj => (C5.2.2.2.2.1.2.2 j hj).cp (fun k hk => z1 _ (by omega))
    have gZ : fk X Z := g5.tr ⟨by rw [z3], fun k hk => z2 k (by omega)⟩
    unfold md_t1
    rw [xn_]
    have C7 := CZ.i (j := 15) (v := 1) (by decide)
    refine pw_b (pw_m (show pw (fx_MD_run (nI 1) _) _ from md_run C7.2.2.2.2 C7.2.1 (by decide) hBb false rfl) (fun r X8 k8 => pw_n ?_))
    have C8 : mC X8 a b t (q2 a b t).2.2.1 (q2 a b t).2.2.2.2.2.2 := C7.run k8
    have er : r = (q2 a b t).1 := k8.1
    have C9 := C8.i (j := 14) (v := r) (by decide)
    have p9 : (xh_i X8 206 14 r).1 206 16 = nI (q2 a b t).2.1 := by rw [hi_j _ _ _ (by decide : 16 ≠ 14)]; exact k8.2.2.2.2
    have o9 : (xh_i X8 206 14 r).1 206 15 = 1 := by rw [hi_j _ _ _ (by decide : 15 ≠ 14), k8.2.2.2.1.2.2 15 (by decide) (by decide)]; exact hi_s _ _ _ _
    have g9 : fk X (xh_i X8 206 14 r) := ((gZ.tr (fk.i (by decide))).tr k8.2.2.2.1.k).tr (fk.i (by decide))
    have K9 : ∀ j, j < (q1 a t).2.2.1.1 → iM (xh_i X8 206 14 r) 211 j ((q1 a t).2.2.1.2 j) := fun j hj => (KZ j hj).cp (fun k _ => by rw [hi_k _ _ _ (by decide : 211 ≠ 206), k8.2.2.2.1.2.1 211 (by decide) (by decide) (by decide) (by decide), hi_k _ _ _ (by decide : 211 ≠ 206)])
    have r9 : (xh_i X8 206 14 r).1 206 14 = r := hi_s _ _ _ _
    rw [r9]
    by_cases n2 : (q2 a b t).1 = 0
    · rw [if_pos (er.trans n2)]
      refine md_tr C9.2.2.2.2.1 (fun n3 => ?_) (fun n3 => ?_)
      · unfold fx_MD_spend_b103
        rw [xn_]
        unfold fx_MD_spend_b109
        rw [hi_s, if_neg (by decide)]
        refine fin (Q := (tf (q2 a b t).2.2.1, 1, (q2 a b t).2)) ?_ (C9.i (by decide)) (by rw [hi_s]; exact n3.symm) (by rw [hi_j _ _ _ (by decide : 15 ≠ 14)]; exact o9) (by rw [hi_j _ _ _ (by decide : 16 ≠ 14)]; exact p9) (g9.tr (fk.i (by decide)))
        unfold qs
        rw [if_pos n1, if_pos n2, if_neg (by rw [n3]; decide)]
      · unfold fx_MD_spend_b109
        rw [r9, if_pos (er.trans n2), md_form C9.2.1, xb_]
        cases n4 : lk b
        · rw [if_pos (by decide)]
          refine fin (Q := (0, 1, (q2 a b t).2)) ?_ C9 (r9.trans (er.trans n2)) o9 p9 g9
          unfold qs
          rw [if_pos n1, if_pos n2, if_pos n3, if_neg (by rw [n4]; decide)]
        · rw [if_neg (by decide), xn_, xn_]
          have hpos := lk_ne n4 n2
          have hle : (q1 a t).2.2.1.1 ≤ 30 := C5.2.2.2.2.2.1
          refine md_130s (X := xh_i (xh_i X8 206 14 r) 206 5 (nI (q1 a t).2.2.1.1)) (n := (q1 a t).2.2.1.1) (hi_s _ _ _ _) hle (fun W w1 w2 w3 => ?_) (33 * (q1 a t).2.2.1.1) 0 sp_fuel _ (by omega) (by omega) (fun j hj => absurd hj (by omega)) (fun _ _ => rfl) rfl
          have SW : mS W (q1 a t).2.2.1 := ⟨by rw [w2 206 (by decide), hi_s], by omega, fun j hj => (K9 j hj).cp (fun k hk => by rw [w1 _ (by omega), hi_k _ _ _ (by decide : 211 ≠ 206)])⟩
          have eW : ∀ k, k ≠ 206 → k ≠ 209 → W.1 k = (xh_i X8 206 14 r).1 k := fun k h1 h2 => by rw [w2 k h2, hi_k _ _ _ h1]
          have eWj : ∀ j, j ≠ 5 → W.1 206 j = (xh_i X8 206 14 r).1 206 j := fun j h1 => by rw [w2 206 (by decide), hi_j _ _ _ h1]
          unfold md_t2
          rw [show fx_MD_size 0 W = _ from md_size SW (k := 0) hpos, xb_, o2, xn_, xn_, c2]
          have hi32 := (SW.i hpos).2.1
          have S16 : mS (xh_i W 208 2 (nI (st_i (q1 a t).2.2.1 0).1)) (q1 a t).2.2.1 := SW.keep (by rw [hi_k _ _ _ (by decide : 206 ≠ 208)]) (hi_k _ _ _ (by decide))
          refine md_172s S16 hpos (fun V v1 v2 v3 v4 => ?_) (st_i (q1 a t).2.2.1 0).1 0 sp_fuel _ (by omega) (by omega) (fun j hj => absurd hj (by omega)) (fun _ _ => rfl) (fun _ _ => rfl) rfl
          have SV : mS V (q1 a t).2.2.1 := S16.keep (by rw [v3 206 (by decide)]) (v3 209 (by decide))
          unfold md_t3
          refine pw_b (pw_m (show pw (fx_MD_pop (nI 1) V) _ from md_pop SV hpos) (fun _ U u => pw_n ?_))
          have eV : ∀ k, k ≠ 206 → k ≠ 207 → k ≠ 208 → k ≠ 209 → V.1 k = (xh_i X8 206 14 r).1 k := fun k h1 h2 h3 h4 => by rw [v3 k h2, hi_k _ _ _ h3, eW k h1 h4]
          have eU : ∀ j, j ≠ 5 → U.1 206 j = (xh_i X8 206 14 r).1 206 j := fun j hj => by rw [u.2.2.2 j hj, v3 206 (by decide), hi_k _ _ _ (by decide : 206 ≠ 208), eWj j hj]
          have s7 : ∀ j, j < 240 → U.1 207 j = (xh_i X8 206 14 r).1 207 j := fun j hj => by rw [u.2.2.1 207 (by decide) (by decide), v2 j hj, hi_k _ _ _ (by decide : 207 ≠ 208), eW 207 (by decide) (by decide)]
          have s8 : ∀ j, j ≠ 2 → U.1 208 j = (xh_i X8 206 14 r).1 208 j := fun j hj => by rw [u.2.2.1 208 (by decide) (by decide), v3 208 (by decide), hi_j _ _ _ hj, eW 208 (by decide) (by decide)]
          have CU : mC U a b t (st_pop (q1 a t).2.2.1 1) (q2 a b t).2.2.2.2.2.2 := by
            refine ⟨⟨by rw [s8 0 (by decide)]; exact C9.1.1, C9.1.2.1, fun i hi => ?_⟩, ⟨by rw [s8 1 (by decide)]; exact C9.2.1.1, C9.2.1.2.1, fun i hi => ?_⟩, hA, hBb, u.1, by show (q1 a t).2.2.1.1 - 1 ≤ 30; omega, st_B_pop C5.2.2.2.2.2.2.1 1, C9.2.2.2.2.2.2.2.1.keep (eU 13 (by decide)) ?_ ?_, by rw [eU 17 (by decide)]; exact C9.2.2.2.2.2.2.2.2⟩
            · have := C9.1.2.1
              rw [s7 _ (by omega)]; exact C9.1.2.2 i hi
            · have := C9.2.1.2.1
              rw [s7 _ (by omega)]; exact C9.2.1.2.2 i hi
            · rw [u.2.2.1 213 (by decide) (by decide), eV 213 (by decide) (by decide) (by decide) (by decide)]
            · rw [u.2.2.1 214 (by decide) (by decide), eV 214 (by decide) (by decide) (by decide) (by decide)]
          have s2 : sM U 2 (st_i (q1 a t).2.2.1 0) := ⟨by rw [u.2.2.1 208 (by decide) (by decide), v3 208 (by decide), hi_s], by omega, fun i hi => by rw [u.2.2.1 207 (by decide) (by decide)]; exact v1 i hi⟩
          have gU : fk X U := g9.tr ⟨by rw [u.2.1, v4]; show W.2.1 = _; rw [w3]; rfl, fun k hk => by rw [u.2.2.1 k (by omega) (by omega), eV k (by omega) (by omega) (by omega) (by omega)]⟩
          have C20 := CU.i (j := 15) (v := 2) (by decide)
          have s20 : sM (xh_i U 206 15 2) 2 (st_i (q1 a t).2.2.1 0) := s2.keep (hi_k _ _ _ (by decide)) (hi_k _ _ _ (by decide))
          refine pw_b (pw_m (show pw (fx_MD_run (nI 2) _) _ from md_run C20.2.2.2.2 s20 (by decide) (st_B_i C5.2.2.2.2.2.2.1 0) false rfl) (fun r' X21 k21 => pw_n ?_))
          have C21 : mC X21 a b t (q3 a b t).2.2.1 (q3 a b t).2.2.2.2.2.2 := C20.run k21
          have er' : r' = (q3 a b t).1 := k21.1
          have C22 := C21.i (j := 14) (v := r') (by decide)
          have p22 : (xh_i X21 206 14 r').1 206 16 = nI (q3 a b t).2.1 := by rw [hi_j _ _ _ (by decide : 16 ≠ 14)]; exact k21.2.2.2.2
          have o22 : (xh_i X21 206 14 r').1 206 15 = 2 := by rw [hi_j _ _ _ (by decide : 15 ≠ 14), k21.2.2.2.1.2.2 15 (by decide) (by decide)]; exact hi_s _ _ _ _
          have g22 : fk X (xh_i X21 206 14 r') := ((gU.tr (fk.i (by decide))).tr k21.2.2.2.1.k).tr (fk.i (by decide))
          have r22 : (xh_i X21 206 14 r').1 206 14 = r' := hi_s _ _ _ _
          rw [r22]
          by_cases n5 : (q3 a b t).1 = 0
          · rw [if_pos (er'.trans n5)]
            refine md_tr C22.2.2.2.2.1 (fun n6 => ?_) (fun n6 => ?_)
            · unfold fx_MD_spend_b244
              rw [xn_]
              refine fin (Q := (tf (q3 a b t).2.2.1, 2, (q3 a b t).2)) ?_ (C22.i (by decide)) (by rw [hi_s]; exact n6.symm) (by rw [hi_j _ _ _ (by decide : 15 ≠ 14)]; exact o22) (by rw [hi_j _ _ _ (by decide : 16 ≠ 14)]; exact p22) (g22.tr (fk.i (by decide)))
              unfold qs
              rw [if_pos n1, if_pos n2, if_pos n3, if_pos n4, if_pos n5]
            · refine fin (Q := (tf (q3 a b t).2.2.1, 2, (q3 a b t).2)) ?_ C22 (r22.trans ((er'.trans n5).trans n6.symm)) o22 p22 g22
              unfold qs
              rw [if_pos n1, if_pos n2, if_pos n3, if_pos n4, if_pos n5]
          · rw [if_neg (fun z => n5 (er'.symm.trans z))]
            refine fin (Q := ((q3 a b t).1, 2, (q3 a b t).2)) ?_ C22 (r22.trans er') o22 p22 g22
            unfold qs
            rw [if_pos n1, if_pos n2, if_pos n3, if_pos n4, if_neg n5]
    · rw [if_neg (fun z => n2 (er.symm.trans z))]
      unfold fx_MD_spend_b109
      rw [r9, if_neg (fun z => n2 (er.symm.trans z))]
      refine fin (Q := ((q2 a b t).1, 1, (q2 a b t).2)) ?_ C9 (r9.trans er) o9 p9 g9
      unfold qs
      rw [if_pos n1, if_neg n2]
  · rw [if_neg (fun z => n1 (er.symm.trans z))]
    refine fin (Q := ((q1 a t).1, 0, (q1 a t).2)) ?_ C5 (r5.trans er) (by rw [hi_j _ _ _ (by decide : 15 ≠ 14)]; exact o4) (by rw [hi_j _ _ _ (by decide : 16 ≠ 14)]; exact p4) g5
    unfold qs
    rw [if_neg n1]

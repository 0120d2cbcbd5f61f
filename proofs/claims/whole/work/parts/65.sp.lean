/-! The class: spend -/
theorem cp_R.s {X X' : xh_T} {a b : it_T} {t : tb_T} {st st' : st_T} {d d' : Nat} (h : cp_R X a b t st d) (hs : is_R X' 10 st') (hB : st_B st') (h1 : ∀ k, k ≠ 0 → k < 206 → ¬ (10 ≤ k ∧ k < 72) → k ≠ 5 → k ≠ 6 → k ≠ 138 → X'.1 k = X.1 k) (h2 : ∀ k, k ≠ 11 → X'.2.1 k = X.2.1 k) (h3 : X'.1 138 6 = nI d') : cp_R X' a b t st' d' := by
  obtain ⟨c1, c2, c3, c4, ⟨r1, r2, r3, ⟨s, r4⟩, r5⟩, k, c5⟩ := h
  exact ⟨c1.keep (h1 1 (by omega) (by omega) (by omega) (by omega) (by omega) (by omega)) (h1 2 (by omega) (by omega) (by omega) (by omega) (by omega) (by omega)), c2.keep (h1 3 (by omega) (by omega) (by omega) (by omega) (by omega) (by omega)) (h1 4 (by omega) (by omega) (by omega) (by omega) (by omega) (by omega)), c3, c4,
    ⟨hs, hB, r3.keep (h1 7 (by omega) (by omega) (by omega) (by omega) (by omega) (by omega)) (h1 8 (by omega) (by omega) (by omega) (by omega) (by omega) (by omega)) (h1 9 (by omega) (by omega) (by omega) (by omega) (by omega) (by omega)), ⟨s, r4.keep (h2 _ (by decide)) (fun k a1 a2 => h1 k (by omega) (by omega) (by omega) (by omega) (by omega) (by omega))⟩, h3⟩,
    k, c5.keep (h2 _ (by decide)) (fun k a1 a2 => h1 k (by omega) (by omega) (by omega) (by omega) (by omega) (by omega))⟩
theorem fr_m.k74 {X X' : xh_T} {k : st_T} (h : fr_m X X') (hk : is_R X 74 k) : is_R X' 74 k := hk.keep (h.2.2 75 (by decide) (by decide)) (fun k a1 a2 => h.2.1 k (by omega) (by omega) (by omega) (by omega) (by omega))
theorem cl_take {X : xh_T} {a b : it_T} {t : tb_T} {st k0 : st_T} {d : Nat} (h : cp_R X a b t st d) (hk : is_R X 74 k0) (hB : st_B k0) (hn : 0 < k0.1) : pw (fx_SS_takeScriptFromStack X) (fun _ X' => cp_R X' a b t (st_pop k0 1) d ∧ bs_R X' 5 (st_i k0 0) ∧ (st_i k0 0).1 ≤ 32 ∧ X'.1 0 = X.1 0 ∧ fr_c X X') := by
  have h1 := h.2.2.2.2.1.1
  unfold fx_SS_takeScriptFromStack
  refine pw_b (pw_m (is_copy h1 hk (by decide)) (fun _ X1 k1 => ?_))
  obtain ⟨q, e1, e2, e3, j, hj, e4⟩ := is_itemk k1.1 hn
  have e0 : fx_IS_item 10 0 X1 = some (q, X1) := e1
  have e5 : st_i k0 0 = k0.2 (k0.1 - 1 - 0) := if_pos hn
  have e6 : (k0.2 (k0.1 - 1 - 0)).1 ≤ 32 := by rw [← e3]; exact e2.2.2.1
  rw [e0, xb_]
  refine pw_b (pw_m (bs_copy sb5 e2 (by omega) (Nat.le_trans e6 sl6)) (fun _ X2 k2 => ?_))
  have m1 : is_R X2 10 k0 := k1.1.keep (by rw [k2.2.1]) (fun k a1 a2 => k2.2.2 k (by omega) (by omega))
  refine pw_b (pw_m (is_drop m1 (c := 1) hn) (fun _ X3 k3 => pw_some ?_))
  have f1 : ∀ k, ¬ (10 ≤ k ∧ k < 72) → k ≠ 5 → k ≠ 6 → X3.1 k = X.1 k := fun k a1 a2 a3 => by rw [k3.2.2.1 k a1, k2.2.2 k a2 a3, k1.2.2.1 k a1]
  refine ⟨h.s k3.1 (st_B_pop hB 1) (fun k _ _ a1 a2 a3 _ => f1 k a1 a2 a3) (fun k a1 => by rw [k3.2.2.2 k a1, k2.2.1, k1.2.2.2 k a1]) (by rw [f1 138 (by omega) (by decide) (by decide)]; exact h.2.2.2.2.1.2.2.2.2), ?_, by rw [e5]; exact e6, f1 0 (by omega) (by decide) (by decide), ?_, fun k hk => f1 k (by omega) (by omega) (by omega)⟩
  · rw [e5]
    exact k2.1.keep (k3.2.2.1 5 (by omega)) (k3.2.2.1 6 (by omega))
  · rw [k3.2.1, k2.2.1, k1.2.1]
theorem cl_spend {X : xh_T} {σ : ss_T} (h : cl_R X σ) : pw (fx_SS_spend X) (fun r X' => r = (ss_spend σ).2.2.2.2.1 ∧ cl_R X' (ss_spend σ) ∧ fr_c X X') := by
  obtain ⟨a, b, t, st, r0, e0, p0, d0⟩ := σ
  obtain ⟨hc, _, _, _⟩ := h
  have hc : cp_R X a b t st d0 := hc
  have hA := hc.2.2.1
  have hBb := hc.2.2.2.1
  have la : a.1 ≤ 120 := by rw [← sl2]; exact hc.1.2.2.1
  have lb : b.1 ≤ 120 := by rw [← sl4]; exact hc.2.1.2.2.1
  have fin : ∀ {Y : xh_T} {Q : Int32 × Int32 × Nat × rs_T}, qs a b t = Q → cp_R Y a b t Q.2.2.2.1 Q.2.2.2.2.2.2.2 → Y.1 0 8 = Q.2.1 → Y.1 138 5 = nI Q.2.2.1 → fr_c X Y → pw (fx_SS_spend_b109 Q.1 Y) (fun r X' => r = (ss_spend (a, b, t, st, r0, e0, p0, d0)).2.2.2.2.1 ∧ cl_R X' (ss_spend (a, b, t, st, r0, e0, p0, d0)) ∧ fr_c X X') := fun {Y Q} hq k1 k2 k3 k4 => by
    have e : ss_spend (a, b, t, st, r0, e0, p0, d0) = (a, b, t, Q.2.2.2.1, Q.1, Q.2.1, if Q.1 = 0 then -1 else nI Q.2.2.1, Q.2.2.2.2.2.2.2) := by
      unfold ss_spend
      show ss_of _ (qs a b t) = _
      rw [hq]
      rfl
    rw [e]
    exact pw_m (cl_fin k1 k2 k3 Q.1) (fun r Z k => ⟨k.1, k.2.1, k4.tr k.2.2⟩)
  unfold fx_SS_spend fx_MC_restart
  refine pw_b (pw_b (pw_m (is_empty hc.2.2.2.2.1.1 (fun _ => it_0)) (fun _ X1 k1 => pw_n (pw_some (pw_n ?_)))))
  have c1 : cp_R (xh_i (xh_i X1 138 6 0) 0 8 0) a b t z_s 0 := by
    have m : is_R (xh_i X1 138 6 0) 10 z_s := k1.1.keep rfl (fun k a1 a2 => hi_k _ _ _ (by omega))
    have m2 : cp_R (xh_i X1 138 6 0) a b t z_s 0 := hc.s m (fun i hi => absurd hi (Nat.not_lt_zero i)) (fun k _ _ a1 _ _ a4 => by rw [hi_k _ _ _ a4]; exact k1.2.2.1 k a1) (fun k a1 => k1.2.2.2 k a1) (hi_s _ _ _ _)
    exact m2.i0 8 0
  have g1 : fr_c X (xh_i (xh_i X1 138 6 0) 0 8 0) := ((k1.2.c (by decide)).tr (fr_c.i (by decide))).tr (fr_c.i (by decide))
  refine pw_b (pw_m (mc_run c1.2.2.2.2.1 c1.1 (by decide) hA la true) (fun r X3 k3 => pw_n ?_))
  have c3 := c1.run k3
  have er : r = (q1 a t).1 := k3.1
  have p3 : X3.1 138 5 = nI (q1 a t).2.1 := k3.2.2.2.2
  have o3 : X3.1 0 8 = 0 := by rw [c3.2.1]; exact hi_s _ _ _ _
  have C3 : cp_R X3 a b t (q1 a t).2.2.1 (q1 a t).2.2.2.2.2.2 := c3.1
  have g3 := g1.tr c3.2.2
  rw [er]
  by_cases n1 : (q1 a t).1 = 0
  · rw [if_pos n1]
    obtain ⟨kk, hkk⟩ := C3.2.2.2.2.2
    refine pw_b (pw_m (is_copy hkk C3.2.2.2.2.1.1 (by decide)) (fun _ X4 k4 => pw_n ?_))
    have f4 : ∀ k, ¬ (74 ≤ k ∧ k < 136) → k ≠ 0 → (xh_i X4 0 8 1).1 k = X3.1 k := fun k a1 a2 => by rw [hi_k _ _ _ a2, k4.2.2.1 k a1]
    have C4 : cp_R (xh_i X4 0 8 1) a b t (q1 a t).2.2.1 (q1 a t).2.2.2.2.2.2 := by
      obtain ⟨c1, c2, c3, c4, ⟨r1, r2, r3, ⟨s, r4⟩, r5⟩, k, c5⟩ := C3
      exact ⟨c1.keep (f4 1 (by omega) (by omega)) (f4 2 (by omega) (by omega)), c2.keep (f4 3 (by omega) (by omega)) (f4 4 (by omega) (by omega)), c3, c4,
        ⟨r1.keep (k4.2.2.2 11 (by decide)) (fun k a1 a2 => f4 k (by omega) (by omega)), r2, r3.keep (f4 7 (by omega) (by omega)) (f4 8 (by omega) (by omega)) (f4 9 (by omega) (by omega)), ⟨s, r4.keep (k4.2.2.2 140 (by decide)) (fun k a1 a2 => f4 k (by omega) (by omega))⟩, by rw [f4 138 (by omega) (by omega)]; exact r5⟩,
        _, k4.1.keep rfl (fun k a1 a2 => hi_k _ _ _ (by omega))⟩
    have K4 : is_R (xh_i X4 0 8 1) 74 (q1 a t).2.2.1 := k4.1.keep rfl (fun k a1 a2 => hi_k _ _ _ (by omega))
    have g4 : fr_c X (xh_i X4 0 8 1) := (g3.tr (k4.2.c (by decide))).tr (fr_c.i (by decide))
    refine pw_b (pw_m (mc_run C4.2.2.2.2.1 C4.2.1 (by decide) hBb lb false) (fun r X6 k6 => pw_n ?_))
    have c6 := C4.run k6
    have er : r = (q2 a b t).1 := k6.1
    have p6 : X6.1 138 5 = nI (q2 a b t).2.1 := k6.2.2.2.2
    have o6 : X6.1 0 8 = 1 := by rw [c6.2.1]; exact hi_s _ _ _ _
    have C6 : cp_R X6 a b t (q2 a b t).2.2.1 (q2 a b t).2.2.2.2.2.2 := c6.1
    have K6 : is_R X6 74 (q1 a t).2.2.1 := k6.2.2.2.1.k74 K4
    have g6 := g4.tr c6.2.2
    rw [er]
    unfold fx_SS_spend_b58
    by_cases n2 : (q2 a b t).1 = 0
    · rw [if_pos n2, cl_true C6, xb_, xn_]
      unfold fx_SS_spend_b67
      by_cases n3 : tf (q2 a b t).2.2.1 = 0
      · rw [if_pos n3, cl_lock C6, xb_]
        cases n4 : lk b
        · rw [if_pos (by decide), n3]
          refine fin (Q := (0, 1, (q2 a b t).2)) ?_ C6 o6 p6 g6
          unfold qs
          rw [if_pos n1, if_pos n2, if_pos n3, if_neg (by rw [n4]; decide)]
        · rw [if_neg (by decide)]
          refine pw_b (pw_m (cl_take C6 K6 C3.2.2.2.2.1.2.1 (lk_ne n4 n2)) (fun _ X9 k9 => pw_n ?_))
          have C9 := k9.1.i0 8 2
          have b9 : bs_R (xh_i X9 0 8 2) 5 (st_i (q1 a t).2.2.1 0) := k9.2.1.keep (hi_k _ _ _ (by decide)) (hi_k _ _ _ (by decide))
          refine pw_b (pw_m (mc_run C9.2.2.2.2.1 b9 (by decide) (st_B_i C3.2.2.2.2.1.2.1 0) (by have := k9.2.2.1; omega) false) (fun r X11 k11 => pw_n ?_))
          have c11 := C9.run k11
          have er : r = (q3 a b t).1 := k11.1
          have p11 : X11.1 138 5 = nI (q3 a b t).2.1 := k11.2.2.2.2
          have o11 : X11.1 0 8 = 2 := by rw [c11.2.1]; exact hi_s _ _ _ _
          have C11 : cp_R X11 a b t (q3 a b t).2.2.1 (q3 a b t).2.2.2.2.2.2 := c11.1
          have g11 := ((g6.tr k9.2.2.2.2).tr (fr_c.i (o := 0) (by decide))).tr c11.2.2
          rw [er]
          by_cases n5 : (q3 a b t).1 = 0
          · rw [if_pos n5, cl_true C11, xb_, xn_]
            refine fin (Q := (tf (q3 a b t).2.2.1, 2, (q3 a b t).2)) ?_ C11 o11 p11 g11
            unfold qs
            rw [if_pos n1, if_pos n2, if_pos n3, if_pos n4, if_pos n5]
          · rw [if_neg n5]
            refine fin (Q := ((q3 a b t).1, 2, (q3 a b t).2)) ?_ C11 o11 p11 g11
            unfold qs
            rw [if_pos n1, if_pos n2, if_pos n3, if_pos n4, if_neg n5]
      · rw [if_neg n3]
        refine fin (Q := (tf (q2 a b t).2.2.1, 1, (q2 a b t).2)) ?_ C6 o6 p6 g6
        unfold qs
        rw [if_pos n1, if_pos n2, if_neg n3]
    · rw [if_neg n2]
      unfold fx_SS_spend_b67
      rw [if_neg n2]
      refine fin (Q := ((q2 a b t).1, 1, (q2 a b t).2)) ?_ C6 o6 p6 g6
      unfold qs
      rw [if_pos n1, if_neg n2]
  · rw [if_neg n1]
    unfold fx_SS_spend_b58
    rw [if_neg n1]
    unfold fx_SS_spend_b67
    rw [if_neg n1]
    refine fin (Q := ((q1 a t).1, 0, (q1 a t).2)) ?_ C3 o3 p3 g3
    unfold qs
    rw [if_neg n1]

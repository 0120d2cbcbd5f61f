/-! The class, call by call, said of what a caller can tell apart -/
abbrev ss_T : Type := it_T × it_T × tb_T × st_T × Int32 × Int32 × Int32 × Nat
def tf (a : st_T) : Int32 := if it_t (st_i a 0) = 0 then 16 else 0
def lk (b : it_T) : Bool := decide (b.1 = 7 ∧ b.2 0 = 169 ∧ b.2 1 = 4 ∧ b.2 6 = 135)
def q1 (a : it_T) (t : tb_T) : Int32 × Nat × rs_T := r_run true t a 121 0 (z_s, z_s, z_b, 0, 0)
def q2 (a b : it_T) (t : tb_T) : Int32 × Nat × rs_T := r_run false t b 121 0 ((q1 a t).2.2.1, z_s, z_b, 0, (q1 a t).2.2.2.2.2.2)
def q3 (a b : it_T) (t : tb_T) : Int32 × Nat × rs_T := r_run false t (st_i (q1 a t).2.2.1 0) 121 0 (st_pop (q1 a t).2.2.1 1, z_s, z_b, 0, (q2 a b t).2.2.2.2.2.2)
/-- fault, where it ended, place, state -/
def qs (a b : it_T) (t : tb_T) : Int32 × Int32 × Nat × rs_T :=
  if (q1 a t).1 = 0 then (if (q2 a b t).1 = 0 then (if tf (q2 a b t).2.2.1 = 0 then (if lk b = true then (if (q3 a b t).1 = 0 then (tf (q3 a b t).2.2.1, 2, (q3 a b t).2) else ((q3 a b t).1, 2, (q3 a b t).2)) else (0, 1, (q2 a b t).2)) else (tf (q2 a b t).2.2.1, 1, (q2 a b t).2)) else ((q2 a b t).1, 1, (q2 a b t).2)) else ((q1 a t).1, 0, (q1 a t).2)
def ss_of (σ : ss_T) (q : Int32 × Int32 × Nat × rs_T) : ss_T := (σ.1, σ.2.1, σ.2.2.1, q.2.2.2.1, q.1, q.2.1, if q.1 = 0 then -1 else nI q.2.2.1, q.2.2.2.2.2.2.2)
def ss_spend (σ : ss_T) : ss_T := ss_of σ (qs σ.1 σ.2.1 σ.2.2.1)
theorem bn_eq {b : it_T} {p n : Nat} (h : b.2 p = nI n) (hn : n < 2 ^ 31) : bn b p = n := by
  unfold bn
  rw [h, nI_clamp hn]
theorem oe_169 {t : tb_T} {a s : st_T} (h : a.1 < 1) : op_sp t 169 a s = (11, a, s) := by
  unfold op_sp
  repeat rw [if_neg (by decide)]
  rw [if_pos rfl, if_pos h]
theorem lk_ne {a b : it_T} {t : tb_T} (h : lk b = true) (h2 : (q2 a b t).1 = 0) : 0 < (q1 a t).2.2.1.1 := by
  obtain ⟨e1, e2, e3, e4⟩ := of_decide_eq_true h
  refine Classical.byContradiction (fun hn => ?_)
  have hbn : bn b 0 = 169 := bn_eq (e2.trans (rfl : (169 : Int32) = nI 169)) (by decide)
  unfold q2 at h2
  rw [r_run, if_neg (by omega)] at h2
  have e : (r_step false t b 0 ((q1 a t).2.2.1, z_s, z_b, 0, (q1 a t).2.2.2.2.2.2)).1 = 11 := by
    unfold r_step
    rw [if_neg (by omega), if_neg (by decide), e2]
    unfold r_op
    rw [if_pos (by decide +kernel), if_neg (by show ¬ (0 : Nat) = 25; decide), if_neg (by decide), if_neg (by decide), if_pos (br_all_iff.mpr (fun i hi => absurd hi (Nat.not_lt_zero i)))]
    unfold r_oper r_met
    rw [oe_169 (by show (q1 a t).2.2.1.1 < 1; omega)]
    rfl
  rw [e, if_neg (by decide)] at h2
  exact absurd (show (11 : Int32) = 0 from h2) (by decide)
/-- what the class's labels say -/
def cp_R (X : xh_T) (a b : it_T) (t : tb_T) (st : st_T) (d : Nat) : Prop := bs_R X 1 a ∧ bs_R X 3 b ∧ it_B a ∧ it_B b ∧ rn_R X t st d ∧ ∃ k, is_R X 74 k
def cl_R (X : xh_T) (σ : ss_T) : Prop := cp_R X σ.1 σ.2.1 σ.2.2.1 σ.2.2.2.1 σ.2.2.2.2.2.2.2 ∧ X.1 0 7 = σ.2.2.2.2.1 ∧ X.1 0 8 = σ.2.2.2.2.2.1 ∧ X.1 0 9 = σ.2.2.2.2.2.2.1
def fr_c (X X' : xh_T) : Prop := X'.2.2 = X.2.2 ∧ ∀ k, 206 ≤ k → X'.1 k = X.1 k
theorem fr_c.rf {X : xh_T} : fr_c X X := ⟨rfl, fun _ _ => rfl⟩
theorem fr_c.tr {X X' X'' : xh_T} (h : fr_c X X') (h' : fr_c X' X'') : fr_c X X'' := ⟨h'.1.trans h.1, fun k hk => (h'.2 k hk).trans (h.2 k hk)⟩
theorem fr_m.c {X X' : xh_T} (h : fr_m X X') : fr_c X X' := ⟨h.1, fun k hk => h.2.1 k (by omega) (by omega) (by omega) (by omega) (by omega)⟩
theorem fr_c.i {X : xh_T} {o j : Nat} {v : Int32} (ho : o < 206) : fr_c X (xh_i X o j v) := ⟨rfl, fun k hk => hi_k _ _ _ (by omega)⟩
theorem fr_s.c {S : Nat} {X X' : xh_T} (h : fr_s S X X') (hS : S + 62 ≤ 206) : fr_c X X' := ⟨h.1, fun k hk => h.2.1 k (by omega)⟩
theorem fr_q.c {q : Nat} {X X' : xh_T} (h : fr_q q X X') (hq : q < 205) : fr_c X X' := ⟨by rw [h.1], fun k hk => h.2 k (by omega) (by omega)⟩
theorem sl2 : sp_len (1 + 1) = 120 := by decide +kernel
theorem sl4 : sp_len (3 + 1) = 120 := by decide +kernel
theorem sl6 : 32 ≤ sp_len (5 + 1) := by decide +kernel
theorem sb1 : sp_bs 1 = true := by decide +kernel
theorem sb3 : sp_bs 3 = true := by decide +kernel
theorem sb5 : sp_bs 5 = true := by decide +kernel
theorem cp_R.k {X X' : xh_T} {a b : it_T} {t : tb_T} {st : st_T} {d : Nat} (h : cp_R X a b t st d) (h1 : ∀ k, k ≠ 0 → k < 206 → k ≠ 138 → X'.1 k = X.1 k) (h2 : X'.2.1 = X.2.1) (h3 : X'.1 138 6 = X.1 138 6) : cp_R X' a b t st d := by
  obtain ⟨c1, c2, c3, c4, ⟨r1, r2, r3, ⟨s, r4⟩, r5⟩, k, c5⟩ := h
  exact ⟨c1.keep (h1 1 (by decide) (by decide) (by decide)) (h1 2 (by decide) (by decide) (by decide)), c2.keep (h1 3 (by decide) (by decide) (by decide)) (h1 4 (by decide) (by decide) (by decide)), c3, c4,
    ⟨r1.keep (by rw [h2]) (fun k a1 a2 => h1 k (by omega) (by omega) (by omega)), r2, r3.keep (h1 7 (by decide) (by decide) (by decide)) (h1 8 (by decide) (by decide) (by decide)) (h1 9 (by decide) (by decide) (by decide)), ⟨s, r4.keep (by rw [h2]) (fun k a1 a2 => h1 k (by omega) (by omega) (by omega))⟩, h3.trans r5⟩,
    k, c5.keep (by rw [h2]) (fun k a1 a2 => h1 k (by omega) (by omega) (by omega))⟩
theorem cp_R.i0 {X : xh_T} {a b : it_T} {t : tb_T} {st : st_T} {d : Nat} (h : cp_R X a b t st d) (j : Nat) (v : Int32) : cp_R (xh_i X 0 j v) a b t st d := h.k (fun k h0 _ _ => hi_k _ _ _ h0) rfl (by rw [hi_k _ _ _ (by decide)])
theorem cp_R.run {X X' : xh_T} {a b : it_T} {t : tb_T} {st : st_T} {d : Nat} {q : Int32 × Nat × rs_T} {r : Int32} (h : cp_R X a b t st d) (hq : mc_Q t X q r X') : cp_R X' a b t q.2.2.1 q.2.2.2.2.2.2 ∧ X'.1 0 = X.1 0 ∧ fr_c X X' := by
  obtain ⟨c1, c2, c3, c4, ⟨r1, r2, r3, r4, r5⟩, k, c5⟩ := h
  obtain ⟨m1, m2, m3, m4, m5⟩ := hq
  refine ⟨⟨m4.bs (by decide) c1, m4.bs (by decide) c2, c3, c4, ⟨m2.1.1, m3.1, m2.1.2.2.1, ⟨_, m2.1.2.1⟩, m2.2.2.2.2⟩, k, ?_⟩, m4.2.1 0 (by omega) (by omega) (by omega) (by omega) (by omega), m4.c⟩
  exact c5.keep (m4.2.2 75 (by decide) (by decide)) (fun k a1 a2 => m4.2.1 k (by omega) (by omega) (by omega) (by omega) (by omega))
theorem cl_true {X : xh_T} {a b : it_T} {t : tb_T} {st : st_T} {d : Nat} (h : cp_R X a b t st d) : fx_SS_truthFault X = some (tf st, X) := by
  have hq := h.2.2.2.2.1.1
  obtain ⟨q, e1, e2⟩ := is_itemn hq (k := 0) (by decide)
  unfold fx_SS_truthFault tf
  have e0 : fx_IS_item 10 0 X = some (q, X) := e1
  rw [e0, xb_, bs_isTrue e2, xb_]
  by_cases g : it_t (st_i st 0) = 0
  · rw [if_pos g, if_pos g]
  · rw [if_neg g, if_neg g]
theorem cl_fin {X : xh_T} {a b : it_T} {t : tb_T} {st : st_T} {d : Nat} {e : Int32} {p : Nat} (h : cp_R X a b t st d) (he : X.1 0 8 = e) (hp : X.1 138 5 = nI p) (f : Int32) : pw (fx_SS_spend_b109 f X) (fun r X' => r = f ∧ cl_R X' (a, b, t, st, f, e, if f = 0 then -1 else nI p, d) ∧ fr_c X X') := by
  unfold fx_SS_spend_b109
  rw [xn_]
  have m := h.i0 7 f
  by_cases g : f = 0
  · rw [if_pos g, xn_]
    refine pw_some ⟨rfl, ⟨m.i0 9 _, ?_, ?_, ?_⟩, (fr_c.i (by decide)).tr (fr_c.i (by decide))⟩
    · rw [hi_j _ _ _ (by decide : 7 ≠ 9), hi_s]
    · rw [hi_j _ _ _ (by decide : 8 ≠ 9), hi_j _ _ _ (by decide : 8 ≠ 7)]; exact he
    · show _ = if f = 0 then -1 else nI p
      rw [hi_s, if_pos g]
  · rw [if_neg g]
    unfold fx_MC_place
    rw [xb_, xn_]
    refine pw_some ⟨rfl, ⟨m.i0 9 _, ?_, ?_, ?_⟩, (fr_c.i (by decide)).tr (fr_c.i (by decide))⟩
    · rw [hi_j _ _ _ (by decide : 7 ≠ 9), hi_s]
    · rw [hi_j _ _ _ (by decide : 8 ≠ 9), hi_j _ _ _ (by decide : 8 ≠ 7)]; exact he
    · show _ = if f = 0 then -1 else nI p
      rw [hi_s, if_neg g, hi_k _ _ _ (by decide : 138 ≠ 0)]; exact hp
theorem cl_lock {X : xh_T} {a b : it_T} {t : tb_T} {st : st_T} {d : Nat} (h : cp_R X a b t st d) : fx_SS_locksByDigest X = some (b_i (lk b), X) := by
  have hb := h.2.1
  have hl := hb.lt
  unfold fx_SS_locksByDigest
  rw [bs_size hb, xb_]
  have hn : ¬ (b.1 = 7 ∧ b.2 0 = 169 ∧ b.2 1 = 4 ∧ b.2 6 = 135) → some ((0 : Int32), X) = some (b_i (lk b), X) := fun g => by
    unfold lk
    rw [decide_eq_false g]
    rfl
  by_cases g1 : b.1 = 7
  · rw [if_pos (show nI b.1 = 7 by rw [g1]; rfl), bs_byteAt hb, xb_, n0, it_at_n (by omega) hl]
    by_cases g2 : b.2 0 = 169
    · rw [if_pos g2, bs_byteAt hb, xb_, n1, it_at_n (by omega) hl]
      by_cases g3 : b.2 1 = 4
      · rw [if_pos g3, bs_byteAt hb, xb_, (show (6 : Int32) = nI 6 from rfl), it_at_n (by omega) hl]
        by_cases g4 : b.2 6 = 135
        · rw [if_pos g4]
          unfold lk
          rw [decide_eq_true ⟨g1, g2, g3, g4⟩]
          rfl
        · rw [if_neg g4]; exact hn (fun z => g4 z.2.2.2)
      · rw [if_neg g3]; exact hn (fun z => g3 z.2.2.1)
    · rw [if_neg g2]; exact hn (fun z => g2 z.2.1)
  · rw [if_neg (show ¬ nI b.1 = 7 from fun z => g1 ((nI_eq (b := 7) hl (by decide)).mp z))]; exact hn (fun z => g1 z.1)

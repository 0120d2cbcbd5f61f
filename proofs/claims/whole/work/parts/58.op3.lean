/-! The class's operations: judge, answers -/
theorem is_row {X X' : xh_T} {S i q : Nat} {a : st_T} {x : it_T} (h : is_R X S a) (hi : i < a.1) (eq : q = X.2.1 (S + 1) i) (hf : fr_q q X X') (hx : bs_R X' q x) : is_R X' S (a.1, va_up a.2 i x) ∧ fr_s S X X' := by
  subst eq
  have h5 := h.2.2.1
  obtain ⟨j, hj, ej⟩ := h.2.2.2.1.1 i (by omega)
  have hfs : fr_s S X X' := fr_s.q hf hj ej
  have hr : X'.2 = X.2 := hf.1
  refine ⟨⟨h.1, ?_, h5, ⟨fun i hi => by rw [hr]; exact h.2.2.2.1.1 i hi, fun i j hi hj => by rw [hr]; exact h.2.2.2.1.2 i j hi hj⟩, fun k hk => ?_, ?_⟩, hfs⟩
  · rw [hf.2 S (by omega) (by omega)]; exact h.2.1
  · have hk : k < a.1 := hk
    rw [hr]
    show bs_R X' (X.2.1 (S + 1) k) (va_up a.2 i x k)
    by_cases e : k = i
    · rw [e, va_up_self]; exact hx
    · rw [va_up_ne _ _ e]
      have hne : X.2.1 (S + 1) k ≠ X.2.1 (S + 1) i := fun g => e (h.2.2.2.1.2 k i (by omega) (by omega) g)
      exact (h.2.2.2.2.1 k hk).off hf (h.bsr (by omega)).1 hne
  · rw [hfs.2.1 (S + 62) (by omega)]; exact h.2.2.2.2.2
theorem b_il (b : Bool) : (b_i b).toInt64 = b_l b := by cases b <;> decide +kernel
theorem b_i_01 (b : Bool) : b_i b = 0 ∨ b_i b = 1 := by cases b <;> decide
theorem op_oneIf {X : xh_T} (b : Bool) : fx_OP_oneIf (b_i b) X = some (b_i b, X) := by
  unfold fx_OP_oneIf
  cases b
  · rw [if_pos (by decide)]; rfl
  · rw [if_neg (by decide)]; rfl
theorem op_answer {X : xh_T} {t : tb_T} {a s : st_T} (h : op_R X t a s) {c : Nat} (hc : c ≤ a.1) (h1 : 1 ≤ c) (b : Bool) : pw (fx_OP_answer (nI c) (b_i b) X) (fun _ X' => op_R X' t (st_push (st_pop a c) (it_e (b_l b))) s ∧ fr_o X X') := by
  have h7 := h.2.2.2
  unfold fx_OP_answer
  refine pw_b (pw_m (op_drop h hc) (fun _ X1 g => ?_))
  obtain ⟨g, gf⟩ := g
  have hn : (st_pop a c).1 < 30 := by show a.1 - c < 30; omega
  have hq := g.1.bsr (i := (st_pop a c).1) hn
  rw [is_push g.1 hn, xb_, op_oneIf, xb_, b_il]
  refine pw_b (pw_m (bs_num hq.1 (by omega) _) (fun _ X' g1 => pw_some ?_))
  obtain ⟨g2, g3⟩ := is_pushed g.1 hn g1.2 g1.1
  have := g.st g2 g3 (by show a.1 - c + 1 + s.1 ≤ 30; omega)
  exact ⟨this.1, gf.tr this.2⟩
/-- a judging operation that nothing verifies -/
theorem op_J0 {X : xh_T} {t : tb_T} {a s a' s' : st_T} {c : Int32} {k : Nat} (h : op_R X t a s) (hk : k < 4) (h1 : fx_OP_itemsNamed c X = some (nI k, X)) (h2 : fx_OP_isVerified c X = some (1, X)) (h3 : fx_OP_itemsMore c X = some (nI 0, X)) (hc : fx_OP_operate c X = xh_b (fx_OP_itemsFault c X) (fun r5 X2 => xh_n r5 (fun v9 => if v9 = 0 then fx_OP_operate_b135 c v9 X2 else fx_OP_operate_b135 c v9 X2))) (ha : k ≤ a.1 → pw (fx_OP_judge c X) (fun _ X' => op_R X' t a' s' ∧ fr_o X X')) (e : op_sp t c a s = if a.1 < k then (11, a, s) else (0, a', s')) : pw (fx_OP_operate c X) (op_P t X (op_sp t c a s)) := by
  have := op_goJ (a' := a') (s' := s') h hk (m := 0) (by decide) h1 (fun _ => h2) (fun _ => h3) hc (fun g _ _ => ha g)
  rw [if_neg (show ¬ (1 : Int32) = 0 by decide), if_neg (show ¬ 30 < a.1 + s.1 + 0 by have := h.2.2.2; omega)] at this
  rw [e]
  exact this
theorem op_jd {X : xh_T} {t : tb_T} {a s : st_T} (h : op_R X t a s) (c : Int32) : ∃ q0 q1, bs_R X q0 (st_i a 0) ∧ bs_R X q1 (st_i a 1) ∧ (0 < a.1 → q0 = X.2.1 11 (a.1 - 1)) ∧ (1 < a.1 → sp_len (q1 + 1) = 32) ∧ fx_OP_judge c X = (if c = 130 then
  xh_b (fx_BS_size q0 X) (fun (r15 : Int32) (X4 : xh_T) =>
  xh_b (fx_OP_pushNumber ((r15 : Int32).toInt64) X4) (fun (_ : Unit) (X5 : xh_T) =>
  some ((), X5)))
  else if c = 135 then
  xh_b (fx_BS_sameBytesAs q0 q1 X) (fun (r24 : Int32) (X6 : xh_T) =>
  xh_b (fx_OP_answer 2 r24 X6) (fun (_ : Unit) (X7 : xh_T) =>
  some ((), X7)))
  else if c = 169 then
  xh_b (fx_BS_size q0 X) (fun (r31 : Int32) (X8 : xh_T) =>
  xh_b (fx_BS_hash q0 0 r31 X8) (fun (r35 : Int32) (X9 : xh_T) =>
  xh_b (fx_BS_becomeDigest q0 r35 X9) (fun (_ : Unit) (X10 : xh_T) =>
  some ((), X10))))
  else if c = 172 then
  xh_b (fx_ST_isValid q1 q0 X) (fun (r44 : Int32) (X11 : xh_T) =>
  xh_b (fx_OP_answer 2 r44 X11) (fun (_ : Unit) (X12 : xh_T) =>
  some ((), X12)))
  else xh_b (fx_IS_drop 10 2 X) (fun (_ : Unit) (X3 : xh_T) =>
  some ((), X3))) := by
  have h5 := h.1.2.2.1
  obtain ⟨q0, e0, r0⟩ := op_top h (k := 0) (by decide)
  obtain ⟨q1, e1, r1⟩ := op_top h (k := 1) (by decide)
  refine ⟨q0, q1, r0, r1, fun g => ?_, fun g => ?_, ?_⟩
  · rw [is_item h.1 (k := 0) g] at e0
    exact (Prod.mk.inj (Option.some.inj e0)).1.symm
  · rw [is_item h.1 (k := 1) g] at e1
    rw [← (Prod.mk.inj (Option.some.inj e1)).1]
    exact (h.1.bsr (by omega)).2
  · unfold fx_OP_judge
    rw [n0, e0, xb_, xn_, n1, e1, xb_, xn_]
theorem op_130 {X : xh_T} {t : tb_T} {a s : st_T} (h : op_R X t a s) : pw (fx_OP_operate 130 X) (op_P t X (op_sp t 130 a s)) := by
  obtain ⟨q0, q1, r0, r1, -, -, ej⟩ := op_jd h 130
  have := op_goJ (a' := st_push a (it_e ((nI (st_i a 0).1).toInt64))) (s' := s) (c := 130) (v := 1) (k := 1) (m := 1) h (by decide) (by decide) rfl (fun _ => rfl) (fun _ => rfl) rfl (fun g _ g2 => by
    rw [ej, if_pos rfl, bs_size r0, xb_]
    exact pw_b (pw_m (op_pn h g2 _) (fun _ X' h1 => pw_some h1)))
  rw [if_neg (show ¬ (1 : Int32) = 0 by decide)] at this
  exact this
theorem op_135 {X : xh_T} {t : tb_T} {a s : st_T} (h : op_R X t a s) : pw (fx_OP_operate 135 X) (op_P t X (op_sp t 135 a s)) := by
  obtain ⟨q0, q1, r0, r1, -, -, ej⟩ := op_jd h 135
  refine op_J0 (k := 2) (a' := st_push (st_pop a 2) (it_e (b_l (it_s (st_i a 0) (st_i a 1))))) (s' := s) h (by decide) rfl rfl rfl rfl (fun g => ?_) rfl
  rw [ej, if_neg (by decide), if_pos rfl, bs_same r0 r1, xb_]
  exact pw_b (pw_m (op_answer h g (by decide) (it_s (st_i a 0) (st_i a 1))) (fun _ X' h1 => pw_some h1))
theorem op_172 {X : xh_T} {t : tb_T} {a s : st_T} (h : op_R X t a s) : pw (fx_OP_operate 172 X) (op_P t X (op_sp t 172 a s)) := by
  obtain ⟨q0, q1, r0, r1, -, l1, ej⟩ := op_jd h 172
  refine op_J0 (k := 2) (a' := st_push (st_pop a 2) (it_e (b_l (tb_ok t (st_i a 1) (st_i a 0))))) (s' := s) h (by decide) rfl rfl rfl rfl (fun g => ?_) rfl
  rw [ej, if_neg (by decide), if_neg (by decide), if_neg (by decide), if_pos rfl, tb_valid h.2.2.1 r1 r0 (l1 (by omega)), xb_]
  exact pw_b (pw_m (op_answer h g (by decide) (tb_ok t (st_i a 1) (st_i a 0))) (fun _ X' h1 => pw_some h1))
theorem op_169 {X : xh_T} {t : tb_T} {a s : st_T} (h : op_R X t a s) : pw (fx_OP_operate 169 X) (op_P t X (op_sp t 169 a s)) := by
  have h5 := h.1.2.2.1
  obtain ⟨q0, q1, r0, r1, e0, -, ej⟩ := op_jd h 169
  refine op_J0 (k := 1) (a' := (a.1, va_up a.2 (a.1 - 1) (it_d (it_h (st_i a 0).2 0 (st_i a 0).1)))) (s' := s) h (by decide) rfl rfl rfl rfl (fun g => ?_) rfl
  have hl : sp_len (q0 + 1) = 32 := by rw [e0 (by omega)]; exact (h.1.bsr (by omega)).2
  rw [ej, if_neg (by decide), if_neg (by decide), if_pos rfl, bs_size r0, xb_, n0, bs_hash r0 (f := 0) (c := (st_i a 0).1) (by omega), xb_]
  refine pw_b (pw_m (bs_digest r0.1 (by omega) _) (fun _ X' h1 => pw_some ?_))
  obtain ⟨g2, g3⟩ := is_row h.1 (i := a.1 - 1) (by omega) (e0 (by omega)) h1.2 h1.1
  exact h.st g2 g3 h.2.2.2
theorem op_ver {X : xh_T} {t : tb_T} {a s : st_T} {c : Int32} {b : Bool} (h : op_R X t a s) (h1 : fx_OP_itemsNamed c X = some (nI 2, X)) (h2 : 2 ≤ a.1 → fx_OP_isVerified c X = some (b_i b, X)) (h3 : fx_OP_itemsMore c X = some (nI 0, X)) (hc : fx_OP_operate c X = xh_b (fx_OP_itemsFault c X) (fun r5 X2 => xh_n r5 (fun v9 => if v9 = 0 then fx_OP_operate_b135 c v9 X2 else fx_OP_operate_b135 c v9 X2))) (hj : ¬ c = 130 ∧ ¬ c = 135 ∧ ¬ c = 169 ∧ ¬ c = 172) (e : op_sp t c a s = if a.1 < 2 then (11, a, s) else if b = true then (0, st_pop a 2, s) else (9, a, s)) : pw (fx_OP_operate c X) (op_P t X (op_sp t c a s)) := by
  obtain ⟨q0, q1, r0, r1, -, -, ej⟩ := op_jd h c
  have := op_goJ (a' := st_pop a 2) (s' := s) (k := 2) (m := 0) h (by decide) (by decide) h1 h2 (fun _ => h3) hc (fun g _ _ => by
    rw [ej, if_neg hj.1, if_neg hj.2.1, if_neg hj.2.2.1, if_neg hj.2.2.2]
    exact pw_b (pw_m (op_drop h (c := 2) g) (fun _ X' h1 => pw_some h1)))
  rw [if_neg (show ¬ 30 < a.1 + s.1 + 0 by have := h.2.2.2; omega)] at this
  rw [e]
  cases b
  · rw [if_pos (show b_i false = 0 by decide)] at this
    rw [if_neg (show ¬ false = true by decide)]
    exact this
  · rw [if_neg (show ¬ b_i true = 0 by decide)] at this
    rw [if_pos rfl]
    exact this
theorem op_136 {X : xh_T} {t : tb_T} {a s : st_T} (h : op_R X t a s) : pw (fx_OP_operate 136 X) (op_P t X (op_sp t 136 a s)) := by
  refine op_ver (b := it_s (st_i a 0) (st_i a 1)) h rfl (fun g => ?_) rfl rfl (by decide) rfl
  obtain ⟨q0, e0, r0⟩ := op_top h (k := 0) (by decide)
  obtain ⟨q1, e1, r1⟩ := op_top h (k := 1) (by decide)
  rw [show fx_OP_isVerified 136 X = xh_b (fx_IS_item 10 (nI 0) X) (fun (q12 : Nat) (X3 : xh_T) => xh_b (fx_IS_item 10 (nI 1) X3) (fun (q16 : Nat) (X4 : xh_T) => xh_b (fx_BS_sameBytesAs q12 q16 X4) (fun (r18 : Int32) (X5 : xh_T) => xh_z r18 (some (r18, X5))))) from rfl, e0, xb_, e1, xb_, bs_same r0 r1, xb_]
  exact xz_ (b_i_01 _)
theorem op_173 {X : xh_T} {t : tb_T} {a s : st_T} (h : op_R X t a s) : pw (fx_OP_operate 173 X) (op_P t X (op_sp t 173 a s)) := by
  refine op_ver (b := tb_ok t (st_i a 1) (st_i a 0)) h rfl (fun g => ?_) rfl rfl (by decide) rfl
  obtain ⟨q0, e0, r0⟩ := op_top h (k := 0) (by decide)
  obtain ⟨q1, e1, r1, l1, -⟩ := is_itemk h.1 (k := 1) (by omega)
  rw [← st_i_t (a := a) (k := 1) (by omega)] at r1
  rw [show fx_OP_isVerified 173 X = xh_b (fx_IS_item 10 (nI 1) X) (fun (q24 : Nat) (X6 : xh_T) => xh_b (fx_IS_item 10 (nI 0) X6) (fun (q28 : Nat) (X7 : xh_T) => xh_b (fx_ST_isValid q24 q28 X7) (fun (r30 : Int32) (X8 : xh_T) => xh_z r30 (some (r30, X8))))) from rfl, e1, xb_, e0, xb_, tb_valid h.2.2.1 r1 r0 l1, xb_]
  exact xz_ (b_i_01 _)

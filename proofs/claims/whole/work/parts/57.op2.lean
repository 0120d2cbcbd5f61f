/-! The class's operations: arrange and judge -/
theorem op_fi {A B : Prop} {dA : Decidable A} {dB : Decidable B} {v : Int32} {a s : st_T} {R : op_T} : (if (if A then (11 : Int32) else if v = 0 then 9 else if B then 14 else 0) = 0 then R else ((if A then (11 : Int32) else if v = 0 then 9 else if B then 14 else 0), a, s)) = (if A then (11, a, s) else if v = 0 then (9, a, s) else if B then (14, a, s) else R) := by
  by_cases h1 : A
  · simp only [if_pos h1]; rfl
  · simp only [if_neg h1]
    by_cases h2 : v = 0
    · simp only [if_pos h2]; rfl
    · simp only [if_neg h2]
      by_cases h3 : B
      · simp only [if_pos h3]; rfl
      · simp only [if_neg h3]; rfl
theorem op_ok {A B : Prop} {dA : Decidable A} {dB : Decidable B} {v : Int32} (g : (if A then (11 : Int32) else if v = 0 then 9 else if B then 14 else 0) = 0) : ¬ A ∧ ¬ v = 0 ∧ ¬ B := by
  by_cases h1 : A
  · rw [if_pos h1] at g; exact absurd g (by decide)
  · rw [if_neg h1] at g
    by_cases h2 : v = 0
    · rw [if_pos h2] at g; exact absurd g (by decide)
    · rw [if_neg h2] at g
      by_cases h3 : B
      · rw [if_pos h3] at g; exact absurd g (by decide)
      · exact ⟨h1, h2, h3⟩
theorem op_goA {X : xh_T} {t : tb_T} {a s a' s' : st_T} {c v : Int32} {k m : Nat} (h : op_R X t a s) (hk : k < 4) (hm : m < 4) (h1 : fx_OP_itemsNamed c X = some (nI k, X)) (h2 : k ≤ a.1 → fx_OP_isVerified c X = some (v, X)) (h3 : k ≤ a.1 → fx_OP_itemsMore c X = some (nI m, X)) (hc : fx_OP_operate c X = xh_b (fx_OP_itemsFault c X) (fun r5 X2 => xh_n r5 (fun v9 => if v9 = 0 then xh_b (fx_OP_arrange c X2) (fun _ X3 => some (v9, X3)) else fx_OP_operate_b135 c v9 X2))) (ha : k ≤ a.1 → ¬ v = 0 → a.1 + s.1 + m ≤ 30 → pw (fx_OP_arrange c X) (fun _ X' => op_R X' t a' s' ∧ fr_o X X')) : pw (fx_OP_operate c X) (op_P t X (if a.1 < k then (11, a, s) else if v = 0 then (9, a, s) else if 30 < a.1 + s.1 + m then (14, a, s) else (0, a', s'))) := by
  have := op_ar (a' := a') (s' := s') h hc (op_if h hk hm h1 h2 h3) (fun g => by
    obtain ⟨g1, g2, g3⟩ := op_ok g
    exact ha (by omega) g2 (by omega))
  rw [op_fi] at this
  exact this
theorem op_goJ {X : xh_T} {t : tb_T} {a s a' s' : st_T} {c v : Int32} {k m : Nat} (h : op_R X t a s) (hk : k < 4) (hm : m < 4) (h1 : fx_OP_itemsNamed c X = some (nI k, X)) (h2 : k ≤ a.1 → fx_OP_isVerified c X = some (v, X)) (h3 : k ≤ a.1 → fx_OP_itemsMore c X = some (nI m, X)) (hc : fx_OP_operate c X = xh_b (fx_OP_itemsFault c X) (fun r5 X2 => xh_n r5 (fun v9 => if v9 = 0 then fx_OP_operate_b135 c v9 X2 else fx_OP_operate_b135 c v9 X2))) (ha : k ≤ a.1 → ¬ v = 0 → a.1 + s.1 + m ≤ 30 → pw (fx_OP_judge c X) (fun _ X' => op_R X' t a' s' ∧ fr_o X X')) : pw (fx_OP_operate c X) (op_P t X (if a.1 < k then (11, a, s) else if v = 0 then (9, a, s) else if 30 < a.1 + s.1 + m then (14, a, s) else (0, a', s'))) := by
  have := op_ju (a' := a') (s' := s') h hc (op_if h hk hm h1 h2 h3) (fun g => by
    obtain ⟨g1, g2, g3⟩ := op_ok g
    exact ha (by omega) g2 (by omega))
  rw [op_fi] at this
  exact this
/-- an arranging operation that nothing verifies and that does not grow -/
theorem op_A0 {X : xh_T} {t : tb_T} {a s a' s' : st_T} {c : Int32} {k : Nat} (h : op_R X t a s) (hk : k < 4) (h1 : fx_OP_itemsNamed c X = some (nI k, X)) (h2 : fx_OP_isVerified c X = some (1, X)) (h3 : fx_OP_itemsMore c X = some (nI 0, X)) (hc : fx_OP_operate c X = xh_b (fx_OP_itemsFault c X) (fun r5 X2 => xh_n r5 (fun v9 => if v9 = 0 then xh_b (fx_OP_arrange c X2) (fun _ X3 => some (v9, X3)) else fx_OP_operate_b135 c v9 X2))) (ha : k ≤ a.1 → pw (fx_OP_arrange c X) (fun _ X' => op_R X' t a' s' ∧ fr_o X X')) (e : op_sp t c a s = if a.1 < k then (11, a, s) else (0, a', s')) : pw (fx_OP_operate c X) (op_P t X (op_sp t c a s)) := by
  have := op_goA (a' := a') (s' := s') h hk (m := 0) (by decide) h1 (fun _ => h2) (fun _ => h3) hc (fun g _ _ => ha g)
  rw [if_neg (show ¬ (1 : Int32) = 0 by decide), if_neg (show ¬ 30 < a.1 + s.1 + 0 by have := h.2.2.2; omega)] at this
  rw [e]
  exact this
/-- .. one that grows -/
theorem op_A1 {X : xh_T} {t : tb_T} {a s a' s' : st_T} {c : Int32} {k m : Nat} (h : op_R X t a s) (hk : k < 4) (hm : m < 4) (h1 : fx_OP_itemsNamed c X = some (nI k, X)) (h2 : fx_OP_isVerified c X = some (1, X)) (h3 : fx_OP_itemsMore c X = some (nI m, X)) (hc : fx_OP_operate c X = xh_b (fx_OP_itemsFault c X) (fun r5 X2 => xh_n r5 (fun v9 => if v9 = 0 then xh_b (fx_OP_arrange c X2) (fun _ X3 => some (v9, X3)) else fx_OP_operate_b135 c v9 X2))) (ha : k ≤ a.1 → a.1 + s.1 + m ≤ 30 → pw (fx_OP_arrange c X) (fun _ X' => op_R X' t a' s' ∧ fr_o X X')) (e : op_sp t c a s = if a.1 < k then (11, a, s) else if 30 < a.1 + s.1 + m then (14, a, s) else (0, a', s')) : pw (fx_OP_operate c X) (op_P t X (op_sp t c a s)) := by
  have := op_goA (a' := a') (s' := s') h hk hm h1 (fun _ => h2) (fun _ => h3) hc (fun g _ g2 => ha g g2)
  rw [if_neg (show ¬ (1 : Int32) = 0 by decide)] at this
  rw [e]
  exact this
theorem op_107 {X : xh_T} {t : tb_T} {a s : st_T} (h : op_R X t a s) : pw (fx_OP_operate 107 X) (op_P t X (op_sp t 107 a s)) := by
  refine op_A0 (k := 1) (a' := st_pop a 1) (s' := st_push s (st_i a 0)) h (by decide) rfl rfl rfl rfl (fun g => ?_) rfl
  have h7 := h.2.2.2
  have hn : s.1 < 30 := by omega
  have hq := h.2.1.bsr (i := s.1) hn
  rw [show fx_OP_arrange 107 X = xh_b (fx_IS_push 139 X) (fun (q8 : Nat) (X2 : xh_T) => xh_b (fx_IS_item 10 0 X2) (fun (q12 : Nat) (X3 : xh_T) => xh_b (fx_BS_becomeCopyOf q8 q12 X3) (fun (_ : Unit) (X4 : xh_T) => xh_b (fx_IS_drop 10 1 X4) (fun (_ : Unit) (X5 : xh_T) => some ((), X5))))) from rfl, is_push h.2.1 hn, xb_]
  have ha1 : is_R (xh_i X 139 2 (nI (s.1 + 1))) 10 a := h.1.off fr_s.i h.2.1.1 (by decide)
  rw [n0, is_item ha1 (k := 0) (by omega), xb_]
  obtain ⟨j, hj, ej⟩ := h.1.2.2.2.1.1 (a.1 - 1 - 0) (by have := h.1.2.2.1; omega)
  obtain ⟨j2, hj2, ej2⟩ := h.2.1.2.2.2.1.1 s.1 hn
  refine pw_b (pw_m (bs_copy hq.1 (ha1.2.2.2.2.1 (a.1 - 1 - 0) (by omega)) (by show X.2.1 140 s.1 ≠ X.2.1 11 (a.1 - 1 - 0); rw [show X.2.1 140 s.1 = _ from ej2, show X.2.1 11 (a.1 - 1 - 0) = _ from ej]; omega) (by rw [hq.2]; exact h.le (by omega))) (fun _ X' h1 => ?_))
  obtain ⟨g1, g2⟩ := is_pushed h.2.1 hn h1.2 h1.1
  rw [← st_i_t (a := a) (k := 0) (by omega)] at g1
  have h8 : op_R X' t (st_pop a 0) (st_push s (st_i a 0)) ∨ True := Or.inr trivial
  have hA : is_R X' 10 a := h.1.off g2 h.2.1.1 (by decide)
  have ht : tb_R X' t := g2.o2.tb h.2.2.1
  refine pw_b (pw_m (is_drop hA (c := 1) (by omega)) (fun _ X2 h2 => pw_some ⟨⟨h2.1, g1.off h2.2 h.1.1 (by decide), h2.2.o.tb ht, ?_⟩, g2.o2.tr h2.2.o⟩))
  show a.1 - 1 + (s.1 + 1) ≤ 30
  omega
theorem op_109 {X : xh_T} {t : tb_T} {a s : st_T} (h : op_R X t a s) : pw (fx_OP_operate 109 X) (op_P t X (op_sp t 109 a s)) := by
  refine op_A0 (k := 2) (a' := st_pop a 2) (s' := s) h (by decide) rfl rfl rfl rfl (fun g => ?_) rfl
  rw [show fx_OP_arrange 109 X = xh_b (fx_IS_drop 10 2 X) (fun (_ : Unit) (X7 : xh_T) => some ((), X7)) from rfl]
  exact pw_b (pw_m (op_drop h g) (fun _ X' h1 => pw_some h1))
theorem op_110 {X : xh_T} {t : tb_T} {a s : st_T} (h : op_R X t a s) : pw (fx_OP_operate 110 X) (op_P t X (op_sp t 110 a s)) := by
  refine op_A1 (k := 2) (m := 2) (a' := st_push (st_push a (st_i a 1)) (st_i a 0)) (s' := s) h (by decide) (by decide) rfl rfl rfl rfl (fun g g2 => ?_) rfl
  rw [show fx_OP_arrange 110 X = xh_b (fx_IS_pushCopy 10 1 X) (fun (_ : Unit) (X8 : xh_T) => xh_b (fx_IS_pushCopy 10 1 X8) (fun (_ : Unit) (X9 : xh_T) => some ((), X9))) from rfl]
  refine pw_b (pw_m (op_pc h (k := 1) (by omega) (by omega)) (fun _ X1 h1 => ?_))
  have e : st_i (st_push a (st_i a 1)) 1 = st_i a 0 := by
    rw [st_i_t (show 1 < (st_push a (st_i a 1)).1 by show 1 < a.1 + 1; omega), st_i_t (show 0 < a.1 by omega)]
    show va_up a.2 a.1 _ (a.1 + 1 - 1 - 1) = _
    rw [va_up_ne _ _ (by omega), show a.1 + 1 - 1 - 1 = a.1 - 1 - 0 by omega]
  have := op_pc h1.1 (k := 1) (by show 1 < a.1 + 1; omega) (by show a.1 + 1 + s.1 + 1 ≤ 30; omega)
  rw [e] at this
  exact pw_b (pw_m this (fun _ X2 h2 => pw_some ⟨h2.1, h1.2.tr h2.2⟩))
theorem op_117 {X : xh_T} {t : tb_T} {a s : st_T} (h : op_R X t a s) : pw (fx_OP_operate 117 X) (op_P t X (op_sp t 117 a s)) := by
  refine op_A0 (k := 1) (a' := st_pop a 1) (s' := s) h (by decide) rfl rfl rfl rfl (fun g => ?_) rfl
  rw [show fx_OP_arrange 117 X = xh_b (fx_IS_drop 10 1 X) (fun (_ : Unit) (X7 : xh_T) => some ((), X7)) from rfl]
  exact pw_b (pw_m (op_drop h g) (fun _ X' h1 => pw_some h1))
theorem op_116 {X : xh_T} {t : tb_T} {a s : st_T} (h : op_R X t a s) : pw (fx_OP_operate 116 X) (op_P t X (op_sp t 116 a s)) := by
  have e : op_sp t 116 a s = if a.1 < 0 then (11, a, s) else if 30 < a.1 + s.1 + 1 then (14, a, s) else (0, st_push a (it_e ((nI a.1).toInt64)), s) := by
    rw [if_neg (Nat.not_lt_zero _)]; rfl
  refine op_A1 (k := 0) (m := 1) h (by decide) (by decide) rfl rfl rfl rfl (fun g g2 => ?_) e
  rw [show fx_OP_arrange 116 X = xh_b (fx_IS_size 10 X) (fun (r65 : Int32) (X17 : xh_T) => xh_b (fx_OP_pushNumber ((r65 : Int32).toInt64) X17) (fun (_ : Unit) (X18 : xh_T) => some ((), X18))) from rfl, is_size h.1, xb_]
  exact pw_b (pw_m (op_pn h g2 _) (fun _ X' h1 => pw_some h1))
theorem op_118 {X : xh_T} {t : tb_T} {a s : st_T} (h : op_R X t a s) : pw (fx_OP_operate 118 X) (op_P t X (op_sp t 118 a s)) := by
  refine op_A1 (k := 1) (m := 1) (a' := st_push a (st_i a 0)) (s' := s) h (by decide) (by decide) rfl rfl rfl rfl (fun g g2 => ?_) rfl
  rw [show fx_OP_arrange 118 X = xh_b (fx_IS_pushCopy 10 0 X) (fun (_ : Unit) (X20 : xh_T) => some ((), X20)) from rfl]
  exact pw_b (pw_m (op_pc h (k := 0) (by omega) (by omega)) (fun _ X' h1 => pw_some h1))
theorem op_119 {X : xh_T} {t : tb_T} {a s : st_T} (h : op_R X t a s) : pw (fx_OP_operate 119 X) (op_P t X (op_sp t 119 a s)) := by
  refine op_A0 (k := 2) (a' := st_pop (st_raise a 1) 1) (s' := s) h (by decide) rfl rfl rfl rfl (fun g => ?_) rfl
  rw [show fx_OP_arrange 119 X = xh_b (fx_IS_raise 10 1 X) (fun (_ : Unit) (X21 : xh_T) => xh_b (fx_IS_drop 10 1 X21) (fun (_ : Unit) (X22 : xh_T) => some ((), X22))) from rfl]
  refine pw_b (pw_m (op_raise h (k := 1) (by omega)) (fun _ X1 h1 => ?_))
  exact pw_b (pw_m (op_drop h1.1 (c := 1) (by show 1 ≤ a.1; omega)) (fun _ X' h2 => pw_some ⟨h2.1, h1.2.tr h2.2⟩))
theorem op_120 {X : xh_T} {t : tb_T} {a s : st_T} (h : op_R X t a s) : pw (fx_OP_operate 120 X) (op_P t X (op_sp t 120 a s)) := by
  refine op_A1 (k := 2) (m := 1) (a' := st_push a (st_i a 1)) (s' := s) h (by decide) (by decide) rfl rfl rfl rfl (fun g g2 => ?_) rfl
  rw [show fx_OP_arrange 120 X = xh_b (fx_IS_pushCopy 10 1 X) (fun (_ : Unit) (X20 : xh_T) => some ((), X20)) from rfl]
  exact pw_b (pw_m (op_pc h (k := 1) (by omega) (by omega)) (fun _ X' h1 => pw_some h1))
theorem op_123 {X : xh_T} {t : tb_T} {a s : st_T} (h : op_R X t a s) : pw (fx_OP_operate 123 X) (op_P t X (op_sp t 123 a s)) := by
  refine op_A0 (k := 3) (a' := st_raise a 2) (s' := s) h (by decide) rfl rfl rfl rfl (fun g => ?_) rfl
  rw [show fx_OP_arrange 123 X = xh_b (fx_IS_raise 10 2 X) (fun (_ : Unit) (X26 : xh_T) => some ((), X26)) from rfl]
  exact pw_b (pw_m (op_raise h (k := 2) (by omega)) (fun _ X1 h1 => pw_some h1))
theorem op_124 {X : xh_T} {t : tb_T} {a s : st_T} (h : op_R X t a s) : pw (fx_OP_operate 124 X) (op_P t X (op_sp t 124 a s)) := by
  refine op_A0 (k := 2) (a' := st_raise a 1) (s' := s) h (by decide) rfl rfl rfl rfl (fun g => ?_) rfl
  rw [show fx_OP_arrange 124 X = xh_b (fx_IS_raise 10 1 X) (fun (_ : Unit) (X26 : xh_T) => some ((), X26)) from rfl]
  exact pw_b (pw_m (op_raise h (k := 1) (by omega)) (fun _ X1 h1 => pw_some h1))
theorem op_125 {X : xh_T} {t : tb_T} {a s : st_T} (h : op_R X t a s) : pw (fx_OP_operate 125 X) (op_P t X (op_sp t 125 a s)) := by
  refine op_A1 (k := 2) (m := 1) (a' := st_sink (st_push a (st_i a 0)) 2) (s' := s) h (by decide) (by decide) rfl rfl rfl rfl (fun g g2 => ?_) rfl
  rw [show fx_OP_arrange 125 X = xh_b (fx_IS_pushCopy 10 0 X) (fun (_ : Unit) (X28 : xh_T) => xh_b (fx_IS_sinkTop 10 2 X28) (fun (_ : Unit) (X29 : xh_T) => some ((), X29))) from rfl]
  refine pw_b (pw_m (op_pc h (k := 0) (by omega) (by omega)) (fun _ X1 h1 => ?_))
  exact pw_b (pw_m (op_sink h1.1 (k := 2) (by show 2 < a.1 + 1; omega)) (fun _ X' h2 => pw_some ⟨h2.1, h1.2.tr h2.2⟩))
theorem op_115 {X : xh_T} {t : tb_T} {a s : st_T} (h : op_R X t a s) : pw (fx_OP_operate 115 X) (op_P t X (op_sp t 115 a s)) := by
  have h7 := h.2.2.2
  obtain ⟨q, h1, h2⟩ := op_true h
  have hm : fx_OP_itemsMore 115 X = some (it_t (st_i a 0), X) := by
    rw [show fx_OP_itemsMore 115 X = xh_b (fx_IS_item 10 0 X) (fun (q4 : Nat) (X1 : xh_T) => xh_b (fx_BS_isTrue q4 X1) (fun (r6 : Int32) (X2 : xh_T) => xh_b (fx_OP_oneIf r6 X2) (fun (r9 : Int32) (X3 : xh_T) => some (r9, X3)))) from rfl, h1, xb_, h2, xb_]
    rcases it_t_01 (st_i a 0) with e | e <;> rw [e] <;> rfl
  have har : fx_OP_arrange 115 X = if it_t (st_i a 0) = 0 then some ((), X) else xh_b (fx_IS_pushCopy 10 0 X) (fun (_ : Unit) (X16 : xh_T) => some ((), X16)) := by
    rw [show fx_OP_arrange 115 X = xh_b (fx_IS_item 10 0 X) (fun (q56 : Nat) (X14 : xh_T) => xh_b (fx_BS_isTrue q56 X14) (fun (r58 : Int32) (X15 : xh_T) => if r58 = 0 then some ((), X15) else xh_b (fx_IS_pushCopy 10 0 X15) (fun (_ : Unit) (X16 : xh_T) => some ((), X16)))) from rfl, h1, xb_, h2, xb_]
  rw [show op_sp t 115 a s = (if a.1 < 1 then (11, a, s) else if it_t (st_i a 0) = 0 then (0, a, s) else if 30 < a.1 + s.1 + 1 then (14, a, s) else (0, st_push a (st_i a 0), s)) from rfl]
  rcases it_t_01 (st_i a 0) with e | e
  · rw [e] at hm har ⊢
    have := op_goA (a' := a) (s' := s) (c := 115) (v := 1) (k := 1) (m := 0) h (by decide) (by decide) rfl (fun _ => rfl) (fun _ => hm) rfl (fun g _ _ => by rw [har]; exact pw_some ⟨h, fr_o.rf⟩)
    rw [if_neg (show ¬ (1 : Int32) = 0 by decide), if_neg (show ¬ 30 < a.1 + s.1 + 0 by omega)] at this
    exact this
  · rw [e] at hm har ⊢
    have := op_goA (a' := st_push a (st_i a 0)) (s' := s) (c := 115) (v := 1) (k := 1) (m := 1) h (by decide) (by decide) rfl (fun _ => rfl) (fun _ => hm) rfl (fun g _ g2 => by
      rw [har, if_neg (show ¬ (1 : Int32) = 0 by decide)]
      exact pw_b (pw_m (op_pc h (k := 0) (by omega) (by omega)) (fun _ X' h1 => pw_some h1)))
    rw [if_neg (show ¬ (1 : Int32) = 0 by decide)] at this
    exact this
theorem op_108 {X : xh_T} {t : tb_T} {a s : st_T} (h : op_R X t a s) : pw (fx_OP_operate 108 X) (op_P t X (op_sp t 108 a s)) := by
  have h7 := h.2.2.2
  rw [show op_sp t 108 a s = (if s.1 < 1 then (11, a, s) else (0, st_push a (st_i s 0), st_pop s 1)) from rfl, show fx_OP_operate 108 X = xh_b (fx_OP_fetchFromSecond X) (fun (r14 : Int32) (X4 : xh_T) => some (r14, X4)) from rfl]
  unfold fx_OP_fetchFromSecond
  rw [n0, is_has_n h.2.1 (by decide), xb_]
  by_cases g : 0 < s.1
  · rw [if_pos g, if_neg (by decide), if_neg (by omega)]
    have hn : a.1 < 30 := by omega
    have hq := h.1.bsr (i := a.1) hn
    rw [is_push h.1 hn, xb_]
    have hs1 : is_R (xh_i X 10 2 (nI (a.1 + 1))) 139 s := h.2.1.off fr_s.i h.1.1 (by decide)
    rw [is_item hs1 (k := 0) g, xb_]
    obtain ⟨j, hj, ej⟩ := h.2.1.2.2.2.1.1 (s.1 - 1 - 0) (by have := h.2.1.2.2.1; omega)
    obtain ⟨j2, hj2, ej2⟩ := h.1.2.2.2.1.1 a.1 hn
    have hl : (s.2 (s.1 - 1 - 0)).1 ≤ 32 := by
      rw [← (h.2.1.bsr (i := s.1 - 1 - 0) (by omega)).2]
      exact (h.2.1.2.2.2.2.1 _ (by omega)).2.2.1
    refine pw_b (pw_b (pw_m (bs_copy hq.1 (hs1.2.2.2.2.1 (s.1 - 1 - 0) (by omega)) (by show X.2.1 11 a.1 ≠ X.2.1 140 (s.1 - 1 - 0); rw [show X.2.1 11 a.1 = _ from ej2, show X.2.1 140 (s.1 - 1 - 0) = _ from ej]; omega) (by rw [hq.2]; exact hl)) (fun _ X' h1 => ?_)))
    obtain ⟨g1, g2⟩ := is_pushed h.1 hn h1.2 h1.1
    rw [← st_i_t (a := s) (k := 0) g] at g1
    have hA : is_R X' 139 s := h.2.1.off g2 h.1.1 (by decide)
    have ht : tb_R X' t := g2.o.tb h.2.2.1
    refine pw_b (pw_m (is_drop hA (c := 1) (by omega)) (fun _ X2 h2 => pw_some (pw_some ⟨rfl, ⟨g1.off h2.2 h.2.1.1 (by decide), h2.1, h2.2.o2.tb ht, ?_⟩, g2.o.tr h2.2.o2⟩)))
    show a.1 + 1 + (s.1 - 1) ≤ 30
    omega
  · rw [if_neg g, if_pos (by decide), if_pos (by omega)]
    exact pw_b (pw_some (pw_some (op_rf h rfl)))

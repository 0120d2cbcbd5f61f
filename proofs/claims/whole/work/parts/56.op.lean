/-! The class's operations, the simple ones -/
def op_R (X : xh_T) (t : tb_T) (a s : st_T) : Prop := is_R X 10 a ∧ is_R X 139 s ∧ tb_R X t ∧ a.1 + s.1 ≤ 30
def fr_o (X X' : xh_T) : Prop := X'.2.2 = X.2.2 ∧ (∀ k, ¬ (10 ≤ k ∧ k < 72) → ¬ (139 ≤ k ∧ k < 201) → X'.1 k = X.1 k) ∧ ∀ k, k ≠ 11 → k ≠ 140 → X'.2.1 k = X.2.1 k
def op_P (t : tb_T) (X : xh_T) (q : op_T) : Int32 → xh_T → Prop := fun r X' => r = q.1 ∧ op_R X' t q.2.1 q.2.2 ∧ fr_o X X'
theorem fr_o.rf {X : xh_T} : fr_o X X := ⟨rfl, fun _ _ _ => rfl, fun _ _ _ => rfl⟩
theorem fr_o.tr {X X' X'' : xh_T} (h : fr_o X X') (h' : fr_o X' X'') : fr_o X X'' := ⟨h'.1.trans h.1, fun k h1 h2 => (h'.2.1 k h1 h2).trans (h.2.1 k h1 h2), fun k h1 h2 => (h'.2.2 k h1 h2).trans (h.2.2 k h1 h2)⟩
theorem fr_s.o {X X' : xh_T} (h : fr_s 10 X X') : fr_o X X' := ⟨h.1, fun k h1 _ => h.2.1 k h1, fun k h1 _ => h.2.2 k h1⟩
theorem fr_s.o2 {X X' : xh_T} (h : fr_s 139 X X') : fr_o X X' := ⟨h.1, fun k _ h2 => h.2.1 k h2, fun k _ h2 => h.2.2 k h2⟩
theorem fr_o.tb {X X' : xh_T} {t : tb_T} (h : fr_o X X') (ht : tb_R X t) : tb_R X' t := ht.keep (h.2.1 7 (by omega) (by omega)) (h.2.1 8 (by omega) (by omega)) (h.2.1 9 (by omega) (by omega))
theorem op_R.st {X X' : xh_T} {t : tb_T} {a a' s : st_T} (h : op_R X t a s) (h1 : is_R X' 10 a') (h2 : fr_s 10 X X') (h3 : a'.1 + s.1 ≤ 30) : op_R X' t a' s ∧ fr_o X X' := ⟨⟨h1, h.2.1.off h2 h.1.1 (by decide), h2.o.tb h.2.2.1, h3⟩, h2.o⟩
theorem op_R.s2 {X X' : xh_T} {t : tb_T} {a s s' : st_T} (h : op_R X t a s) (h1 : is_R X' 139 s') (h2 : fr_s 139 X X') (h3 : a.1 + s'.1 ≤ 30) : op_R X' t a s' ∧ fr_o X X' := ⟨⟨h.1.off h2 h.2.1.1 (by decide), h1, h2.o2.tb h.2.2.1, h3⟩, h2.o2⟩
theorem op_rf {X : xh_T} {t : tb_T} {a s : st_T} {r f : Int32} (h : op_R X t a s) (e : r = f) : op_P t X (f, a, s) r X := ⟨e, h, fr_o.rf⟩
/-- an item's length -/
theorem op_R.le {X : xh_T} {t : tb_T} {a s : st_T} (h : op_R X t a s) {k : Nat} (hk : k < a.1) : (a.2 (a.1 - 1 - k)).1 ≤ 32 := by
  have h5 := h.1.2.2.1
  have h1 := h.1.2.2.2.2.1 (a.1 - 1 - k) (by omega)
  rw [← (h.1.bsr (i := a.1 - 1 - k) (by omega)).2]
  exact h1.2.2.1
theorem st_i_t {a : st_T} {k : Nat} (hk : k < a.1) : st_i a k = a.2 (a.1 - 1 - k) := if_pos hk
/-- the faults that are looked for first -/
theorem op_if {X : xh_T} {t : tb_T} {a s : st_T} (h : op_R X t a s) {c v : Int32} {k m : Nat} (hk : k < 4) (hm : m < 4) (h1 : fx_OP_itemsNamed c X = some (nI k, X)) (h2 : k ≤ a.1 → fx_OP_isVerified c X = some (v, X)) (h3 : k ≤ a.1 → fx_OP_itemsMore c X = some (nI m, X)) : fx_OP_itemsFault c X = some (if a.1 < k then 11 else if v = 0 then 9 else if 30 < a.1 + s.1 + m then 14 else 0, X) := by
  have h5 := h.1.2.2.1
  have h6 := h.2.1.2.2.1
  unfold fx_OP_itemsFault
  rw [is_size h.1, xb_, h1, xb_]
  by_cases g : a.1 < k
  · rw [if_neg (nI_ge g (by omega)), if_pos g]
  · rw [if_pos (nI_le (by omega) (by omega)), if_neg g, h2 (by omega), xb_]
    by_cases g2 : v = 0
    · rw [if_pos g2, if_pos g2]
    · rw [if_neg g2, if_neg g2, is_size h.1, xb_, is_size h.2.1, xb_, h3 (by omega), xb_, nI_add, nI_add, n30]
      by_cases g3 : 30 < a.1 + s.1 + m
      · rw [if_pos (nI_lt g3 (by omega)), if_pos g3]; rfl
      · rw [if_neg (nI_nlt (by omega) (by decide)), if_neg g3]; rfl
theorem op_ar {X : xh_T} {t : tb_T} {a s a' s' : st_T} {c f : Int32} (h : op_R X t a s) (hc : fx_OP_operate c X = xh_b (fx_OP_itemsFault c X) (fun r5 X2 => xh_n r5 (fun v9 => if v9 = 0 then xh_b (fx_OP_arrange c X2) (fun _ X3 => some (v9, X3)) else fx_OP_operate_b135 c v9 X2))) (hf : fx_OP_itemsFault c X = some (f, X)) (ha : f = 0 → pw (fx_OP_arrange c X) (fun _ X' => op_R X' t a' s' ∧ fr_o X X')) : pw (fx_OP_operate c X) (op_P t X (if f = 0 then (0, a', s') else (f, a, s))) := by
  rw [hc, hf, xb_, xn_]
  by_cases g : f = 0
  · rw [if_pos g, if_pos g]
    exact pw_b (pw_m (ha g) (fun _ X' h1 => pw_some ⟨g, h1⟩))
  · rw [if_neg g, if_neg g]
    unfold fx_OP_operate_b135
    rw [if_neg g]
    exact pw_some (op_rf h rfl)
theorem op_ju {X : xh_T} {t : tb_T} {a s a' s' : st_T} {c f : Int32} (h : op_R X t a s) (hc : fx_OP_operate c X = xh_b (fx_OP_itemsFault c X) (fun r5 X2 => xh_n r5 (fun v9 => if v9 = 0 then fx_OP_operate_b135 c v9 X2 else fx_OP_operate_b135 c v9 X2))) (hf : fx_OP_itemsFault c X = some (f, X)) (ha : f = 0 → pw (fx_OP_judge c X) (fun _ X' => op_R X' t a' s' ∧ fr_o X X')) : pw (fx_OP_operate c X) (op_P t X (if f = 0 then (0, a', s') else (f, a, s))) := by
  rw [hc, hf, xb_, xn_]
  by_cases g : f = 0
  · rw [if_pos g, if_pos g]
    unfold fx_OP_operate_b135
    rw [if_pos g]
    exact pw_b (pw_m (ha g) (fun _ X' h1 => pw_some ⟨g, h1⟩))
  · rw [if_neg g, if_neg g]
    unfold fx_OP_operate_b135
    rw [if_neg g]
    exact pw_some (op_rf h rfl)
theorem op_97 {X : xh_T} {t : tb_T} {a s : st_T} (h : op_R X t a s) : pw (fx_OP_operate 97 X) (op_P t X (op_sp t 97 a s)) := by
  rw [show fx_OP_operate 97 X = some (0, X) from rfl]
  exact pw_some (op_rf h rfl)
theorem op_106 {X : xh_T} {t : tb_T} {a s : st_T} (h : op_R X t a s) : pw (fx_OP_operate 106 X) (op_P t X (op_sp t 106 a s)) := by
  rw [show fx_OP_operate 106 X = some (10, X) from rfl]
  exact pw_some (op_rf h rfl)
theorem op_drop {X : xh_T} {t : tb_T} {a s : st_T} (h : op_R X t a s) {c : Nat} (hc : c ≤ a.1) : pw (fx_IS_drop 10 (nI c) X) (fun _ X' => op_R X' t (st_pop a c) s ∧ fr_o X X') := pw_m (is_drop h.1 hc) (fun _ X' h1 => h.st h1.1 h1.2 (by have := h.2.2.2; show a.1 - c + s.1 ≤ 30; omega))
theorem op_pc {X : xh_T} {t : tb_T} {a s : st_T} (h : op_R X t a s) {k : Nat} (hk : k < a.1) (hr : a.1 + s.1 + 1 ≤ 30) : pw (fx_IS_pushCopy 10 (nI k) X) (fun _ X' => op_R X' t (st_push a (st_i a k)) s ∧ fr_o X X') := by
  rw [st_i_t hk]
  exact pw_m (is_pushCopy h.1 (by omega) hk (h.le hk)) (fun _ X' h1 => h.st h1.1 h1.2 (by show a.1 + 1 + s.1 ≤ 30; omega))
theorem op_raise {X : xh_T} {t : tb_T} {a s : st_T} (h : op_R X t a s) {k : Nat} (hk : k < a.1) : pw (fx_IS_raise 10 (nI k) X) (fun _ X' => op_R X' t (st_raise a k) s ∧ fr_o X X') := pw_m (is_raise h.1 hk) (fun _ X' h1 => h.st h1.1 h1.2 h.2.2.2)
theorem op_sink {X : xh_T} {t : tb_T} {a s : st_T} (h : op_R X t a s) {k : Nat} (hk : k < a.1) : pw (fx_IS_sinkTop 10 (nI k) X) (fun _ X' => op_R X' t (st_sink a k) s ∧ fr_o X X') := pw_m (is_sink h.1 hk) (fun _ X' h1 => h.st h1.1 h1.2 h.2.2.2)
theorem op_pn {X : xh_T} {t : tb_T} {a s : st_T} (h : op_R X t a s) (hr : a.1 + s.1 + 1 ≤ 30) (v : Int64) : pw (fx_OP_pushNumber v X) (fun _ X' => op_R X' t (st_push a (it_e v)) s ∧ fr_o X X') := by
  unfold fx_OP_pushNumber
  have hn : a.1 < 30 := by omega
  have hq := h.1.bsr (i := a.1) hn
  rw [is_push h.1 hn, xb_]
  refine pw_b (pw_m (bs_num hq.1 (by omega) v) (fun _ X' h1 => pw_some ?_))
  obtain ⟨g1, g2⟩ := is_pushed h.1 hn h1.2 h1.1
  exact h.st g1 g2 (by show a.1 + 1 + s.1 ≤ 30; omega)
theorem op_top {X : xh_T} {t : tb_T} {a s : st_T} (h : op_R X t a s) {k : Nat} (hk : k < 2 ^ 31) : ∃ q, fx_IS_item 10 (nI k) X = some (q, X) ∧ bs_R X q (st_i a k) := is_itemn h.1 hk
theorem op_true {X : xh_T} {t : tb_T} {a s : st_T} (h : op_R X t a s) : ∃ q, fx_IS_item 10 0 X = some (q, X) ∧ fx_BS_isTrue q X = some (it_t (st_i a 0), X) := by
  obtain ⟨q, h1, h2⟩ := op_top h (k := 0) (by decide)
  exact ⟨q, h1, bs_isTrue h2⟩
theorem it_t_01 (a : it_T) : it_t a = 0 ∨ it_t a = 1 := by
  unfold it_t
  split
  · exact Or.inl rfl
  · exact Or.inr rfl
theorem op_105 {X : xh_T} {t : tb_T} {a s : st_T} (h : op_R X t a s) : pw (fx_OP_operate 105 X) (op_P t X (op_sp t 105 a s)) := by
  obtain ⟨q, h1, h2⟩ := op_true h
  have hv : fx_OP_isVerified 105 X = some (it_t (st_i a 0), X) := by
    rw [show fx_OP_isVerified 105 X = xh_b (fx_IS_item 10 0 X) (fun (q4 : Nat) (X1 : xh_T) => xh_b (fx_BS_isTrue q4 X1) (fun (r6 : Int32) (X2 : xh_T) => xh_z r6 (some (r6, X2)))) from rfl, h1, xb_, h2, xb_, xz_ (it_t_01 _)]
  have h0 := op_if h (c := 105) (k := 1) (m := 0) (by decide) (by decide) rfl (fun _ => hv) (fun _ => rfl)
  have h7 := h.2.2.2
  refine pw_m (op_ar h rfl h0 (a' := st_pop a 1) (s' := s) (fun g => ?_)) (fun r X' h8 => ?_)
  · rw [show fx_OP_arrange 105 X = xh_b (fx_IS_drop 10 1 X) (fun (_ : Unit) (X1 : xh_T) => some ((), X1)) from rfl]
    have : 1 ≤ a.1 := by
      by_cases g2 : a.1 < 1
      · rw [if_pos g2] at g; exact absurd g (by decide)
      · omega
    exact pw_b (pw_m (op_drop h this) (fun _ X' h1 => pw_some h1))
  · rw [show op_sp t 105 a s = (if a.1 < 1 then (11, a, s) else if it_t (st_i a 0) = 0 then (9, a, s) else (0, st_pop a 1, s)) from rfl]
    by_cases g1 : a.1 < 1
    · rw [if_pos g1] at h8 ⊢; exact h8
    · rw [if_neg g1] at h8 ⊢
      by_cases g2 : it_t (st_i a 0) = 0
      · rw [if_pos g2] at h8 ⊢; exact h8
      · rw [if_neg g2] at h8 ⊢
        rw [if_neg (show ¬ 30 < a.1 + s.1 + 0 by omega)] at h8
        exact h8

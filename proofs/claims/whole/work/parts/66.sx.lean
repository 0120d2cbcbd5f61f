/-! The class: the other calls -/
def it_app (a : it_T) (v : Int32) : it_T := (a.1 + 1, va_up a.2 a.1 (v &&& 255))
theorem it_B_app {a : it_T} (h : it_B a) (v : Int32) : it_B (it_app a v) := fun i hi => by
  have hi : i < a.1 + 1 := hi
  show ∃ b, b < 256 ∧ va_up a.2 a.1 (v &&& 255) i = nI b
  by_cases e : i = a.1
  · rw [e, va_up_self]
    obtain ⟨j, hj, e⟩ := pk_andE v (m := 255) 8 (by decide)
    exact ⟨j, hj, e⟩
  · rw [va_up_ne _ _ e]; exact h i (by omega)
def ss_feed (w v : Int32) (σ : ss_T) : Int32 × ss_T := if w = 0 then (if σ.1.1 = 120 then (0, σ) else (1, it_app σ.1 v, σ.2)) else if w = 1 then (if σ.2.1.1 = 120 then (0, σ) else (1, σ.1, it_app σ.2.1 v, σ.2.2)) else (0, σ)
def ss_len (w : Int32) (σ : ss_T) : Int32 := if w = 0 then nI σ.1.1 else if w = 1 then nI σ.2.1.1 else -1
def ss_clear (w : Int32) (σ : ss_T) : Int32 × ss_T := if w = 0 then (1, it_0, σ.2) else if w = 1 then (1, σ.1, it_0, σ.2.2) else (0, σ)
def ss_conf (x y : Int32) (σ : ss_T) : Int32 × ss_T := if σ.2.2.1.1 < 8 then (1, σ.1, σ.2.1, tb_add σ.2.2.1 x y, σ.2.2.2) else (0, σ)
def it_g (a : it_T) (f c : Int32) : Int32 := if it_p a f c = 0 then 0 else it_h a.2 f.toNatClampNeg c.toNatClampNeg
def ss_dig (w f c : Int32) (σ : ss_T) : Int32 := if w = 0 then it_g σ.1 f c else if w = 1 then it_g σ.2.1 f c else 0
def ss_il (p : Int32) (σ : ss_T) : Int32 := if p < 0 then -1 else if nI σ.2.2.2.1.1 ≤ p then -1 else nI (st_ip σ.2.2.2.1 p).1
def ss_ib (p j : Int32) (σ : ss_T) : Int32 := it_at (st_ip σ.2.2.2.1 p) j
theorem cl_a {X X' : xh_T} {σ : ss_T} {a : it_T} (h : cl_R X σ) (ha : bs_R X' 1 a) (hB : it_B a) (hf : fr_q 1 X X') : cl_R X' (a, σ.2) ∧ fr_c X X' := by
  obtain ⟨⟨c1, c2, c3, c4, ⟨r1, r2, r3, ⟨s, r4⟩, r5⟩, k, c5⟩, d1, d2, d3⟩ := h
  have f : ∀ k, k ≠ 1 → k ≠ 2 → X'.1 k = X.1 k := hf.2
  refine ⟨⟨⟨ha, c2.keep (f 3 (by decide) (by decide)) (f 4 (by decide) (by decide)), hB, c4, ⟨r1.keep (by rw [hf.1]) (fun k a1 a2 => f k (by omega) (by omega)), r2, r3.keep (f 7 (by decide) (by decide)) (f 8 (by decide) (by decide)) (f 9 (by decide) (by decide)), ⟨s, r4.keep (by rw [hf.1]) (fun k a1 a2 => f k (by omega) (by omega))⟩, by rw [f 138 (by decide) (by decide)]; exact r5⟩, k, c5.keep (by rw [hf.1]) (fun k a1 a2 => f k (by omega) (by omega))⟩, ?_, ?_, ?_⟩, hf.c (by decide)⟩
  · rw [f 0 (by decide) (by decide)]; exact d1
  · rw [f 0 (by decide) (by decide)]; exact d2
  · rw [f 0 (by decide) (by decide)]; exact d3
theorem cl_b {X X' : xh_T} {σ : ss_T} {b : it_T} (h : cl_R X σ) (hb : bs_R X' 3 b) (hB : it_B b) (hf : fr_q 3 X X') : cl_R X' (σ.1, b, σ.2.2) ∧ fr_c X X' := by
  obtain ⟨⟨c1, c2, c3, c4, ⟨r1, r2, r3, ⟨s, r4⟩, r5⟩, k, c5⟩, d1, d2, d3⟩ := h
  have f : ∀ k, k ≠ 3 → k ≠ 4 → X'.1 k = X.1 k := hf.2
  refine ⟨⟨⟨c1.keep (f 1 (by decide) (by decide)) (f 2 (by decide) (by decide)), hb, c3, hB, ⟨r1.keep (by rw [hf.1]) (fun k a1 a2 => f k (by omega) (by omega)), r2, r3.keep (f 7 (by decide) (by decide)) (f 8 (by decide) (by decide)) (f 9 (by decide) (by decide)), ⟨s, r4.keep (by rw [hf.1]) (fun k a1 a2 => f k (by omega) (by omega))⟩, by rw [f 138 (by decide) (by decide)]; exact r5⟩, k, c5.keep (by rw [hf.1]) (fun k a1 a2 => f k (by omega) (by omega))⟩, ?_, ?_, ?_⟩, hf.c (by decide)⟩
  · rw [f 0 (by decide) (by decide)]; exact d1
  · rw [f 0 (by decide) (by decide)]; exact d2
  · rw [f 0 (by decide) (by decide)]; exact d3
theorem cl_t {X X' : xh_T} {σ : ss_T} {t : tb_T} (h : cl_R X σ) (ht : tb_R X' t) (h2 : X'.2 = X.2) (f : ∀ k, k ≠ 7 → k ≠ 8 → k ≠ 9 → X'.1 k = X.1 k) : cl_R X' (σ.1, σ.2.1, t, σ.2.2.2) ∧ fr_c X X' := by
  obtain ⟨⟨c1, c2, c3, c4, ⟨r1, r2, r3, ⟨s, r4⟩, r5⟩, k, c5⟩, d1, d2, d3⟩ := h
  refine ⟨⟨⟨c1.keep (f 1 (by decide) (by decide) (by decide)) (f 2 (by decide) (by decide) (by decide)), c2.keep (f 3 (by decide) (by decide) (by decide)) (f 4 (by decide) (by decide) (by decide)), c3, c4, ⟨r1.keep (by rw [h2]) (fun k a1 a2 => f k (by omega) (by omega) (by omega)), r2, ht, ⟨s, r4.keep (by rw [h2]) (fun k a1 a2 => f k (by omega) (by omega) (by omega))⟩, by rw [f 138 (by decide) (by decide) (by decide)]; exact r5⟩, k, c5.keep (by rw [h2]) (fun k a1 a2 => f k (by omega) (by omega) (by omega))⟩, ?_, ?_, ?_⟩, by rw [h2], fun k hk => f k (by omega) (by omega) (by omega)⟩
  · rw [f 0 (by decide) (by decide) (by decide)]; exact d1
  · rw [f 0 (by decide) (by decide) (by decide)]; exact d2
  · rw [f 0 (by decide) (by decide) (by decide)]; exact d3
theorem cl_fed {X : xh_T} (w : Int32) : fx_SS_isFed w X = some (if w = 0 ∨ w = 1 then 1 else 0, X) := by
  unfold fx_SS_isFed fx_SS_isFed_b9
  by_cases g : w = 0
  · rw [if_pos g, if_pos (Or.inl g)]
  · rw [if_neg g]
    by_cases g2 : w = 1
    · rw [if_pos g2, if_pos (Or.inr g2)]
    · rw [if_neg g2, if_neg (fun z => z.elim g g2)]
def cl_P (X : xh_T) (q : Int32 × ss_T) : Int32 → xh_T → Prop := fun r X' => r = q.1 ∧ cl_R X' q.2 ∧ fr_c X X'
theorem cl_feed {X : xh_T} {σ : ss_T} (h : cl_R X σ) (w v : Int32) : pw (fx_SS_feed w v X) (cl_P X (ss_feed w v σ)) := by
  unfold fx_SS_feed ss_feed fx_SS_scriptAt
  rw [cl_fed, xb_]
  by_cases g : w = 0
  · rw [if_pos (Or.inl g), if_neg (by decide), if_pos g, if_pos g, xb_]
    by_cases g2 : σ.1.1 = 120
    · rw [if_pos g2, bs_append0 h.1.1 (by rw [sl2]; exact g2), xb_, if_pos rfl]
      exact pw_some ⟨rfl, h, fr_c.rf⟩
    · rw [if_neg g2]
      have hl := h.1.1.2.2.1
      rw [sl2] at hl
      refine pw_b (pw_m (bs_append h.1.1 (by rw [sl2]; omega) v) (fun r X' k => ?_))
      rw [k.1, if_neg (by decide)]
      exact pw_some ⟨rfl, cl_a h k.2.1 (it_B_app h.1.2.2.1 v) k.2.2⟩
  · by_cases g1 : w = 1
    · rw [if_pos (Or.inr g1), if_neg (by decide), if_neg g, if_neg g, if_pos g1, xb_]
      by_cases g2 : σ.2.1.1 = 120
      · rw [if_pos g2, bs_append0 h.1.2.1 (by rw [sl4]; exact g2), xb_, if_pos rfl]
        exact pw_some ⟨rfl, h, fr_c.rf⟩
      · rw [if_neg g2]
        have hl := h.1.2.1.2.2.1
        rw [sl4] at hl
        refine pw_b (pw_m (bs_append h.1.2.1 (by rw [sl4]; omega) v) (fun r X' k => ?_))
        rw [k.1, if_neg (by decide)]
        exact pw_some ⟨rfl, cl_b h k.2.1 (it_B_app h.1.2.2.2.1 v) k.2.2⟩
    · rw [if_neg (show ¬ (w = 0 ∨ w = 1) from fun z => z.elim g g1), if_pos rfl, if_neg g, if_neg g1]
      exact pw_some ⟨rfl, h, fr_c.rf⟩
theorem cl_clear {X : xh_T} {σ : ss_T} (h : cl_R X σ) (w : Int32) : pw (fx_SS_clear w X) (cl_P X (ss_clear w σ)) := by
  have z : it_B it_0 := fun i hi => absurd hi (Nat.not_lt_zero i)
  unfold fx_SS_clear ss_clear fx_SS_scriptAt
  rw [cl_fed, xb_]
  by_cases g : w = 0
  · rw [if_pos (Or.inl g), if_neg (by decide), if_pos g, if_pos g, xb_, bs_empty sb1, xb_]
    exact pw_some ⟨rfl, cl_a h (bs_R.zero sb1 _) z fr_q.i⟩
  · by_cases g1 : w = 1
    · rw [if_pos (Or.inr g1), if_neg (by decide), if_neg g, if_neg g, if_pos g1, xb_, bs_empty sb3, xb_]
      exact pw_some ⟨rfl, cl_b h (bs_R.zero sb3 _) z fr_q.i⟩
    · rw [if_neg (show ¬ (w = 0 ∨ w = 1) from fun z => z.elim g g1), if_pos rfl, if_neg g, if_neg g1]
      exact pw_some ⟨rfl, h, fr_c.rf⟩
theorem cl_len {X : xh_T} {σ : ss_T} (h : cl_R X σ) (w : Int32) : fx_SS_length w X = some (ss_len w σ, X) := by
  unfold fx_SS_length ss_len fx_SS_scriptAt
  rw [cl_fed, xb_]
  by_cases g : w = 0
  · rw [if_pos (Or.inl g), if_neg (by decide), if_pos g, if_pos g, xb_, bs_size h.1.1, xb_]
  · by_cases g1 : w = 1
    · rw [if_pos (Or.inr g1), if_neg (by decide), if_neg g, if_neg g, if_pos g1, xb_, bs_size h.1.2.1, xb_]
    · rw [if_neg (show ¬ (w = 0 ∨ w = 1) from fun z => z.elim g g1), if_pos rfl, if_neg g, if_neg g1]
theorem cl_conf {X : xh_T} {σ : ss_T} (h : cl_R X σ) (x y : Int32) : pw (fx_SS_confirm x y X) (cl_P X (ss_conf x y σ)) := by
  unfold fx_SS_confirm ss_conf
  refine pw_b (pw_m (tb_addR h.1.2.2.2.2.1.2.2.1 x y) (fun r X' k => ?_))
  by_cases g : σ.2.2.1.1 < 8
  · rw [if_pos g] at k ⊢
    rw [if_pos g] at k
    rw [k.1, xz_ (Or.inr rfl)]
    exact pw_some ⟨rfl, cl_t h k.2.1 k.2.2.1 k.2.2.2⟩
  · rw [if_neg g] at k ⊢
    rw [if_neg g] at k
    rw [k.1, xz_ (Or.inl rfl)]
    exact pw_some ⟨rfl, cl_t h k.2.1 k.2.2.1 k.2.2.2⟩
theorem it_p_of {a : it_T} (ha : a.1 < 2 ^ 31) {f c : Int32} (h : ¬ it_p a f c = 0) : ∃ i j : Nat, f = nI i ∧ c = nI j ∧ i + j ≤ a.1 := by
  have hf : ¬ f < 0 := fun z => h (by unfold it_p; rw [if_pos z])
  have hc : ¬ c < 0 := fun z => h (by unfold it_p; rw [if_neg hf, if_pos z])
  obtain ⟨i, hi, e⟩ := nI_of hf
  obtain ⟨j, hj, e'⟩ := nI_of hc
  refine ⟨i, j, e, e', ?_⟩
  rw [e, e', it_p_n ha hi hj] at h
  refine Classical.byContradiction (fun z => h ?_)
  rw [if_neg z]
theorem cl_g {X : xh_T} {q : Nat} {a : it_T} (h : bs_R X q a) (f c : Int32) (K : Option (Int32 × xh_T)) (hK : ¬ it_p a f c = 0 → K = xh_b (fx_BS_hash q f c X) (fun r Y => some (r, Y))) : (if it_p a f c = 0 then some (0, X) else K) = some (it_g a f c, X) := by
  unfold it_g
  by_cases g : it_p a f c = 0
  · rw [if_pos g, if_pos g]
  · rw [if_neg g, if_neg g, hK g]
    obtain ⟨i, j, e1, e2, e3⟩ := it_p_of h.lt g
    have hl := h.lt
    rw [e1, e2, bs_hash h e3, xb_, nI_clamp (by omega), nI_clamp (by omega)]
theorem cl_dig {X : xh_T} {σ : ss_T} (h : cl_R X σ) (w f c : Int32) : fx_SS_digest w f c X = some (ss_dig w f c σ, X) := by
  unfold fx_SS_digest ss_dig fx_SS_scriptAt
  rw [cl_fed, xb_]
  by_cases g : w = 0
  · rw [if_pos (Or.inl g), if_neg (by decide), if_pos g, if_pos g, xb_, bs_hasPart h.1.1, xb_]
    exact cl_g h.1.1 f c _ (fun _ => by rw [if_pos g, xb_])
  · by_cases g1 : w = 1
    · rw [if_pos (Or.inr g1), if_neg (by decide), if_neg g, if_neg g, if_pos g1, xb_, bs_hasPart h.1.2.1, xb_]
      exact cl_g h.1.2.1 f c _ (fun _ => by rw [if_neg g, xb_])
    · rw [if_neg (show ¬ (w = 0 ∨ w = 1) from fun z => z.elim g g1), if_pos rfl, if_neg g, if_neg g1]
theorem cl_items {X : xh_T} {σ : ss_T} (h : cl_R X σ) : fx_SS_items X = some (nI σ.2.2.2.1.1, X) := by
  unfold fx_SS_items
  rw [is_size h.1.2.2.2.2.1.1, xb_]
theorem cl_il {X : xh_T} {σ : ss_T} (h : cl_R X σ) (p : Int32) : fx_SS_itemLength p X = some (ss_il p σ, X) := by
  obtain ⟨q, e1, e2⟩ := is_itemp h.1.2.2.2.2.1.1 p
  unfold fx_SS_itemLength ss_il
  rw [is_has h.1.2.2.2.2.1.1, xb_]
  by_cases g : p < 0
  · rw [if_pos g, if_pos rfl, if_pos g]
  · rw [if_neg g, if_neg g]
    by_cases g2 : nI σ.2.2.2.1.1 ≤ p
    · rw [if_pos g2, if_pos rfl, if_pos g2]
    · rw [if_neg g2, if_neg (by decide), if_neg g2, e1, xb_, bs_size e2, xb_]
theorem cl_ib {X : xh_T} {σ : ss_T} (h : cl_R X σ) (p j : Int32) : fx_SS_itemByte p j X = some (ss_ib p j σ, X) := by
  obtain ⟨q, e1, e2⟩ := is_itemp h.1.2.2.2.2.1.1 p
  unfold fx_SS_itemByte ss_ib
  rw [e1, xb_, bs_byteAt e2, xb_]
theorem cl_done {X : xh_T} {σ : ss_T} (h : cl_R X σ) : fx_SS_done X = some (nI σ.2.2.2.2.2.2.2, X) := by
  unfold fx_SS_done fx_MC_doneCount
  rw [xb_, h.1.2.2.2.2.1.2.2.2.2]
theorem cl_res {X : xh_T} {σ : ss_T} (h : cl_R X σ) : fx_SS_result X = some (σ.2.2.2.2.1, X) := by
  unfold fx_SS_result
  rw [h.2.1]
theorem cl_end {X : xh_T} {σ : ss_T} (h : cl_R X σ) : fx_SS_ended X = some (σ.2.2.2.2.2.1, X) := by
  unfold fx_SS_ended
  rw [h.2.2.1]
theorem cl_at {X : xh_T} {σ : ss_T} (h : cl_R X σ) : fx_SS_faultAt X = some (σ.2.2.2.2.2.2.1, X) := by
  unfold fx_SS_faultAt
  rw [h.2.2.2]

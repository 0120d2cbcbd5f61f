/-! Copies of stacks, the table of pairs, the branches -/
theorem is_copy_b {X : xh_T} {S o : Nat} {a b : st_T} (h : is_R X S a) (h' : is_R X o b) (hne : S ≠ o) : ∀ (m i fuel : Nat) (Y : xh_T), i + m = b.1 → m < fuel → Y.2 = X.2 → Y.1 S 2 = nI b.1 → (∀ k, ¬ (S ≤ k ∧ k < S + 62) → Y.1 k = X.1 k) → (∀ j, j < i → bs_R Y (X.2.1 (S + 1) j) (b.2 j)) →
    pw (fx_IS_becomeCopyOf_b10 S o fuel (nI i) Y) (fun _ Z => is_R Z S b ∧ fr_s S X Z) := by
  have h5 := h'.2.2.1
  have g1 := of_decide_eq_true h.1
  have g2 := of_decide_eq_true h'.1
  intro m
  induction m with
  | zero =>
    intro i fuel Y hi hf y1 y2 y3 y4
    obtain ⟨fuel, rfl⟩ : ∃ k, fuel = k + 1 := ⟨fuel - 1, by omega⟩
    rw [fx_IS_becomeCopyOf_b10, y2, if_pos (nI_le (by omega) (by omega))]
    refine pw_some ⟨⟨h.1, y2, h5, ⟨fun i hi => by rw [y1]; exact h.2.2.2.1.1 i hi, fun i j hi hj => by rw [y1]; exact h.2.2.2.1.2 i j hi hj⟩, fun j hj => by rw [y1]; exact y4 j (by omega), by rw [y3 _ (by omega)]; exact h.2.2.2.2.2⟩, by rw [y1], y3, fun k _ => by rw [y1]⟩
  | succ m ih =>
    intro i fuel Y hi hf y1 y2 y3 y4
    obtain ⟨fuel, rfl⟩ : ∃ k, fuel = k + 1 := ⟨fuel - 1, by omega⟩
    obtain ⟨j1, hj1, e1⟩ := h.2.2.2.1.1 i (by omega)
    obtain ⟨j2, hj2, e2⟩ := h'.2.2.2.1.1 i (by omega)
    rw [fx_IS_becomeCopyOf_b10, y2, if_neg (nI_ge (by omega) (by omega)), xo_ (by omega) (by decide), xo_ (by omega) (by decide), nI_clamp (by omega), y1]
    have hq := h.bsr (i := i) (by omega)
    have ho := h'.2.2.2.2.1 i (by omega)
    have ho' : bs_R Y (X.2.1 (o + 1) i) (b.2 i) := ho.keep (y3 _ (by omega)) (y3 _ (by omega))
    have hl := (h'.bsr (i := i) (by omega)).2
    refine pw_b (pw_m (bs_copy hq.1 ho' (by omega) (by rw [hq.2, ← hl]; exact ho.2.2.1)) (fun _ Z hz => ?_))
    rw [xn_, nI_1]
    refine ih (i + 1) fuel Z (by omega) (by omega) (hz.2.1.trans y1) (by rw [hz.2.2 S (by omega) (by omega)]; exact y2) (fun k hk => by rw [hz.2.2 k (by omega) (by omega)]; exact y3 k hk) (fun j hj => ?_)
    by_cases e : j = i
    · rw [e]; exact hz.1
    · obtain ⟨j3, hj3, e3⟩ := h.2.2.2.1.1 j (by omega)
      have hn : X.2.1 (S + 1) j ≠ X.2.1 (S + 1) i := fun k => e (h.2.2.2.1.2 j i (by omega) (by omega) k)
      exact (y4 j (by omega)).off hz.2 hq.1 hn
theorem is_copy {X : xh_T} {S o : Nat} {a b : st_T} (h : is_R X S a) (h' : is_R X o b) (hne : S ≠ o) : pw (fx_IS_becomeCopyOf S o X) (fun _ Z => is_R Z S b ∧ fr_s S X Z) := by
  have h5 := h'.2.2.1
  have h4 := fu_
  unfold fx_IS_becomeCopyOf
  rw [xk_ h.1, xk_ h'.1, xn_, xn_, h'.2.1]
  exact is_copy_b h h' hne b.1 0 sp_fuel _ (by omega) (by omega) rfl (hi_s _ _ _ _) (fun k hk => hi_k _ _ _ (by omega)) (fun j hj => absurd hj (by omega))
/-- an item that is there: with its room -/
theorem is_itemk {X : xh_T} {S : Nat} {a : st_T} (h : is_R X S a) {k : Nat} (hk : k < a.1) : ∃ q, fx_IS_item S (nI k) X = some (q, X) ∧ bs_R X q (a.2 (a.1 - 1 - k)) ∧ sp_len (q + 1) = 32 ∧ ∃ j, j < 30 ∧ q = S + 2 + 2 * j := by
  have h5 := h.2.2.1
  exact ⟨_, is_item h hk, h.2.2.2.2.1 _ (by omega), (h.bsr (by omega)).2, h.2.2.2.1.1 _ (by omega)⟩
abbrev tb_T : Type := Nat × (Nat → Int32) × (Nat → Int32)
def tb_R (X : xh_T) (t : tb_T) : Prop := X.1 7 2 = nI t.1 ∧ t.1 ≤ 8 ∧ ∀ i, i < t.1 → X.1 8 i = t.2.1 i ∧ X.1 9 i = t.2.2 i
theorem tb_R.keep {X X' : xh_T} {t : tb_T} (h : tb_R X t) (h7 : X'.1 7 = X.1 7) (h8 : X'.1 8 = X.1 8) (h9 : X'.1 9 = X.1 9) : tb_R X' t := ⟨by rw [h7]; exact h.1, h.2.1, fun i hi => by rw [h8, h9]; exact h.2.2 i hi⟩
def tb_add (t : tb_T) (x y : Int32) : tb_T := (t.1 + 1, va_up t.2.1 t.1 x, va_up t.2.2 t.1 y)
theorem tb_addR {X : xh_T} {t : tb_T} (h : tb_R X t) (x y : Int32) : pw (fx_ST_add x y X) (fun r X' => r = (if t.1 < 8 then 1 else 0) ∧ tb_R X' (if t.1 < 8 then tb_add t x y else t) ∧ X'.2 = X.2 ∧ ∀ k, k ≠ 7 → k ≠ 8 → k ≠ 9 → X'.1 k = X.1 k) := by
  have h5 := h.2.1
  unfold fx_ST_add
  rw [h.1, n8]
  by_cases g : t.1 < 8
  · rw [if_pos (nI_lt g (by decide)), if_pos g, if_pos g, xo_ g (by decide), xn_, nI_clamp (by omega), hi_k _ _ _ (by decide : 7 ≠ 8), h.1, xo_ g (by decide), xn_, nI_clamp (by omega), hi_k _ _ _ (by decide : 7 ≠ 9), hi_k _ _ _ (by decide : 7 ≠ 8), h.1, nI_1, xn_]
    refine pw_some ⟨rfl, ⟨hi_s _ _ _ _, g, fun i hi => ?_⟩, rfl, fun k h1 h2 h3 => by rw [hi_k _ _ _ h1, hi_k _ _ _ h3, hi_k _ _ _ h2]⟩
    have hi : i < t.1 + 1 := hi
    rw [hi_k _ _ _ (by decide : 8 ≠ 7), hi_k _ _ _ (by decide : 8 ≠ 9), hi_k _ _ _ (by decide : 9 ≠ 7)]
    by_cases e : i = t.1
    · rw [e, hi_s, hi_s]; exact ⟨(va_up_self _ _ _).symm, (va_up_self _ _ _).symm⟩
    · rw [hi_j _ _ _ e, hi_j _ _ _ e, hi_k _ _ _ (by decide : 9 ≠ 8), (h.2.2 i (by omega)).1, (h.2.2 i (by omega)).2]
      exact ⟨(va_up_ne _ _ e).symm, (va_up_ne _ _ e).symm⟩
  · rw [if_neg (nI_nlt (by omega) (by omega)), if_neg g, if_neg g]
    exact pw_some ⟨rfl, h, rfl, fun _ _ _ _ => rfl⟩
def tb_v (t : tb_T) (x y : Int32) : Bool := (List.range t.1).any (fun i => decide (t.2.1 i = x ∧ t.2.2 i = y))
theorem tb_v_iff {t : tb_T} {x y : Int32} : tb_v t x y = true ↔ ∃ i, i < t.1 ∧ t.2.1 i = x ∧ t.2.2 i = y := by
  unfold tb_v
  rw [List.any_eq_true]
  exact ⟨fun ⟨i, h1, h2⟩ => ⟨i, List.mem_range.mp h1, of_decide_eq_true h2⟩, fun ⟨i, h1, h2⟩ => ⟨i, List.mem_range.mpr h1, decide_eq_true h2⟩⟩
def tb_ok (t : tb_T) (a b : it_T) : Bool := it_w a && tb_v t (it_h a.2 0 a.1) (it_h b.2 0 b.1)
def b_i (b : Bool) : Int32 := if b = true then 1 else 0
theorem tb_valid_b {X : xh_T} {t : tb_T} (h : tb_R X t) (o1 o2 : Nat) (x y : Int32) : ∀ (m i fuel : Nat), i + m = t.1 → m < fuel → (∀ j, j < i → ¬ (t.2.1 j = x ∧ t.2.2 j = y)) → fx_ST_isValid_b33 o1 o2 fuel x y (nI i) X = some (b_i (tb_v t x y), X) := by
  have h5 := h.2.1
  intro m
  induction m with
  | zero =>
    intro i fuel hi hf hj
    obtain ⟨fuel, rfl⟩ : ∃ k, fuel = k + 1 := ⟨fuel - 1, by omega⟩
    rw [fx_ST_isValid_b33, h.1, if_pos (nI_le (by omega) (by omega))]
    unfold b_i
    rw [if_neg]
    intro k
    obtain ⟨j, h1, h2⟩ := tb_v_iff.mp k
    exact hj j (by omega) h2
  | succ m ih =>
    intro i fuel hi hf hj
    obtain ⟨fuel, rfl⟩ : ∃ k, fuel = k + 1 := ⟨fuel - 1, by omega⟩
    have hnx : ¬ (t.2.1 i = x ∧ t.2.2 i = y) → fx_ST_isValid_b33 o1 o2 fuel x y (nI i + 1) X = some (b_i (tb_v t x y), X) := fun g => by
      rw [nI_1]
      refine ih (i + 1) fuel (by omega) (by omega) (fun j h1 => ?_)
      by_cases e : j = i
      · rw [e]; exact g
      · exact hj j (by omega)
    rw [fx_ST_isValid_b33, h.1, if_neg (nI_ge (by omega) (by omega)), xo_ (by omega) (by decide), nI_clamp (by omega), (h.2.2 i (by omega)).1, (h.2.2 i (by omega)).2, xo_ (by omega) (by decide), xn_]
    by_cases g1 : t.2.1 i = x
    · rw [if_pos g1]
      by_cases g2 : t.2.2 i = y
      · rw [if_pos g2]
        unfold b_i
        rw [if_pos (tb_v_iff.mpr ⟨i, by omega, g1, g2⟩)]
      · rw [if_neg g2]; exact hnx (fun k => g2 k.2)
    · rw [if_neg g1]; exact hnx (fun k => g1 k.1)
theorem tb_valid {X : xh_T} {t : tb_T} {o1 o2 : Nat} {a b : it_T} (h : tb_R X t) (h1 : bs_R X o1 a) (h2 : bs_R X o2 b) (h32 : sp_len (o1 + 1) = 32) : fx_ST_isValid o1 o2 X = some (b_i (tb_ok t a b), X) := by
  have h5 := h.2.1
  have h4 := fu_
  unfold fx_ST_isValid tb_ok
  rw [xk_ h1.1, xk_ h2.1, bs_wf h1 (by omega), xb_]
  by_cases g : it_w a = true
  · rw [if_pos g, if_neg (by decide), bs_size h1, xb_, n0, bs_hash h1 (by omega), xb_, xn_, bs_size h2, xb_, bs_hash h2 (by omega), xb_, xn_, xn_, tb_valid_b h o1 o2 _ _ t.1 0 sp_fuel (by omega) (by omega) (fun j hj => absurd hj (by omega)), g, Bool.true_and]
  · rw [if_neg g, if_pos rfl]
    have g' : it_w a = false := by
      cases hw : it_w a
      · rfl
      · exact absurd hw g
    rw [g', Bool.false_and]
    rfl
abbrev br_T : Type := Nat × (Nat → Bool)
def br_R (X : xh_T) (b : br_T) : Prop := X.1 203 1 = nI b.1 ∧ b.1 ≤ 8 ∧ ∀ i, i < b.1 → X.1 204 i = b_i (b.2 i)
theorem br_R.keep {X X' : xh_T} {b : br_T} (h : br_R X b) (h1 : X'.1 203 = X.1 203) (h2 : X'.1 204 = X.1 204) : br_R X' b := ⟨by rw [h1]; exact h.1, h.2.1, fun i hi => by rw [h2]; exact h.2.2 i hi⟩
def fr_b (X X' : xh_T) : Prop := X'.2 = X.2 ∧ ∀ k, k ≠ 203 → k ≠ 204 → X'.1 k = X.1 k
def br_all (b : br_T) : Bool := (List.range b.1).all b.2
theorem br_all_iff {b : br_T} : br_all b = true ↔ ∀ i, i < b.1 → b.2 i = true := by
  unfold br_all
  rw [List.all_eq_true]
  exact ⟨fun h i hi => h i (List.mem_range.mpr hi), fun h i hi => h i (List.mem_range.mp hi)⟩
theorem br_close {X : xh_T} (f : Nat → Bool) : pw (fx_BR_closeAll X) (fun _ X' => br_R X' (0, f) ∧ fr_b X X') := by
  unfold fx_BR_closeAll
  rw [xn_]
  exact pw_some ⟨⟨hi_s _ _ _ _, by omega, fun i hi => absurd hi (Nat.not_lt_zero i)⟩, rfl, fun k h1 _ => hi_k _ _ _ h1⟩
theorem br_any {X : xh_T} {b : br_T} (h : br_R X b) : fx_BR_anyOpen X = some (if b.1 = 0 then 0 else 1, X) := by
  have h5 := h.2.1
  unfold fx_BR_anyOpen
  rw [h.1]
  by_cases g : b.1 = 0
  · rw [g, if_pos (by decide), if_pos rfl]
  · rw [if_neg (nI_nle (by omega) (by omega)), if_neg g]
theorem br_may {X : xh_T} {b : br_T} (h : br_R X b) : fx_BR_mayOpen X = some (if b.1 = 8 then 0 else 1, X) := by
  have h5 := h.2.1
  unfold fx_BR_mayOpen
  rw [h.1, n8]
  by_cases g : b.1 = 8
  · rw [if_pos (nI_le (by omega) (by omega)), if_pos g]
  · rw [if_neg (nI_ge (by omega) (by omega)), if_neg g]
theorem br_active_b {X : xh_T} {b : br_T} (h : br_R X b) : ∀ (m i fuel : Nat), i + m = b.1 → m < fuel → (∀ j, j < i → b.2 j = true) → fx_BR_allActive_b2 fuel (nI i) X = some (b_i (br_all b), X) := by
  have h5 := h.2.1
  intro m
  induction m with
  | zero =>
    intro i fuel hi hf hj
    obtain ⟨fuel, rfl⟩ : ∃ k, fuel = k + 1 := ⟨fuel - 1, by omega⟩
    rw [fx_BR_allActive_b2, h.1, if_pos (nI_le (by omega) (by omega))]
    unfold b_i
    rw [if_pos (br_all_iff.mpr (fun j h1 => hj j (by omega)))]
  | succ m ih =>
    intro i fuel hi hf hj
    obtain ⟨fuel, rfl⟩ : ∃ k, fuel = k + 1 := ⟨fuel - 1, by omega⟩
    rw [fx_BR_allActive_b2, h.1, if_neg (nI_ge (by omega) (by omega)), xo_ (by omega) (by decide), nI_clamp (by omega), h.2.2 i (by omega)]
    cases g : b.2 i
    · rw [if_pos (by decide)]
      unfold b_i
      rw [if_neg]
      intro k
      have := br_all_iff.mp k i (by omega)
      rw [g] at this
      cases this
    · rw [if_neg (by decide), xn_, nI_1]
      refine ih (i + 1) fuel (by omega) (by omega) (fun j h1 => ?_)
      by_cases e : j = i
      · rw [e]; exact g
      · exact hj j (by omega)
theorem br_active {X : xh_T} {b : br_T} (h : br_R X b) : fx_BR_allActive X = some (b_i (br_all b), X) := by
  have h5 := h.2.1
  have h4 := fu_
  unfold fx_BR_allActive
  rw [xn_]
  exact br_active_b h b.1 0 sp_fuel (by omega) (by omega) (fun j hj => absurd hj (by omega))
theorem br_nar (c : Bool) : vp_nar .boolean (b_i c) = b_i c := by cases c <;> decide +kernel
def br_open (b : br_T) (c : Bool) : br_T := (b.1 + 1, va_up b.2 b.1 c)
theorem br_openR {X : xh_T} {b : br_T} (h : br_R X b) (hn : b.1 < 8) (c : Bool) : pw (fx_BR_openOne (b_i c) X) (fun _ X' => br_R X' (br_open b c) ∧ fr_b X X') := by
  unfold fx_BR_openOne
  rw [br_may h, if_neg (by omega), xb_, if_neg (by decide), h.1, xo_ hn (by decide), xn_, xn_, nI_clamp (by omega), hi_k _ _ _ (by decide : 203 ≠ 204), h.1, nI_1, br_nar]
  refine pw_some ⟨⟨hi_s _ _ _ _, hn, fun i hi => ?_⟩, rfl, fun k h1 h2 => by rw [hi_k _ _ _ h1, hi_k _ _ _ h2]⟩
  have hi : i < b.1 + 1 := hi
  rw [hi_k _ _ _ (by decide : 204 ≠ 203)]
  show _ = b_i (va_up b.2 b.1 c i)
  by_cases e : i = b.1
  · rw [e, hi_s, va_up_self]
  · rw [hi_j _ _ _ e, va_up_ne _ _ e]; exact h.2.2 i (by omega)
def br_flip (b : br_T) : br_T := (b.1, va_up b.2 (b.1 - 1) (!b.2 (b.1 - 1)))
theorem br_flipR {X : xh_T} {b : br_T} (h : br_R X b) (hn : 0 < b.1) : pw (fx_BR_flipLast X) (fun _ X' => br_R X' (br_flip b) ∧ fr_b X X') := by
  have h5 := h.2.1
  have key : ∀ c : Bool, c = (!b.2 (b.1 - 1)) → pw (some ((), xh_i X 204 (b.1 - 1) (vp_nar .boolean (b_i c)))) (fun _ X' => br_R X' (br_flip b) ∧ fr_b X X') := fun c hc => by
    rw [br_nar]
    refine pw_some ⟨⟨by rw [hi_k _ _ _ (by decide : 203 ≠ 204)]; exact h.1, h5, fun i hi => ?_⟩, rfl, fun k h1 h2 => by rw [hi_k _ _ _ h2]⟩
    show _ = b_i (va_up b.2 (b.1 - 1) (!b.2 (b.1 - 1)) i)
    by_cases e : i = b.1 - 1
    · rw [e, hi_s, va_up_self, hc]
    · rw [hi_j _ _ _ e, va_up_ne _ _ e]; exact h.2.2 i hi
  unfold fx_BR_flipLast
  rw [br_any h, if_neg (by omega), xb_, if_neg (by decide), h.1, n1, pk_sub (by omega), xo_ (by omega) (by decide), nI_clamp (by omega), h.2.2 _ (by omega), xo_ (by omega) (by decide), xn_, xo_ (by omega) (by decide), xn_]
  cases g : b.2 (b.1 - 1)
  · rw [if_pos (by decide)]
    exact key true (by rw [g]; rfl)
  · rw [if_neg (by decide)]
    exact key false (by rw [g]; rfl)
def br_shut (b : br_T) : br_T := (b.1 - 1, b.2)
theorem br_shutR {X : xh_T} {b : br_T} (h : br_R X b) (hn : 0 < b.1) : pw (fx_BR_closeLast X) (fun _ X' => br_R X' (br_shut b) ∧ fr_b X X') := by
  have h5 := h.2.1
  unfold fx_BR_closeLast
  rw [br_any h, if_neg (by omega), xb_, if_neg (by decide), h.1, n1, pk_sub (by omega), xn_]
  refine pw_some ⟨⟨hi_s _ _ _ _, by show b.1 - 1 ≤ 8; omega, fun i hi => ?_⟩, rfl, fun k h1 _ => hi_k _ _ _ h1⟩
  have hi : i < b.1 - 1 := hi
  rw [hi_k _ _ _ (by decide : 204 ≠ 203)]
  exact h.2.2 i (by omega)

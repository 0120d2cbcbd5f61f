/-! The other side: its rows of 33 ints -/
theorem nm_ (a b : Nat) : nI a * nI b = nI (a * b) := (Int32.ofNat_mul a b).symm
def iM (X : xh_T) (L j : Nat) (x : it_T) : Prop := X.1 L (33 * j) = nI x.1 ∧ x.1 ≤ 32 ∧ ∀ i, i < x.1 → X.1 L (33 * j + 1 + i) = x.2 i
theorem iM.to {X : xh_T} {L j : Nat} {x y : it_T} (h : iM X L j x) (e : it_eq x y) : iM X L j y := ⟨by rw [← e.1]; exact h.1, by rw [← e.1]; exact h.2.1, fun i hi => by rw [← e.2 i (by rw [e.1]; exact hi)]; exact h.2.2 i (by rw [e.1]; exact hi)⟩
theorem iM.cp {X X' : xh_T} {L L' j j' : Nat} {x : it_T} (h : iM X L j x) (e : ∀ k, k < 33 → X'.1 L' (33 * j' + k) = X.1 L (33 * j + k)) : iM X' L' j' x := by
  have h2 := h.2.1
  refine ⟨(e 0 (by decide)).trans h.1, h2, fun i hi => ?_⟩
  rw [Nat.add_assoc, e (1 + i) (by omega), ← Nat.add_assoc]
  exact h.2.2 i hi
/-- the stack's rows -/
def mS (X : xh_T) (a : st_T) : Prop := X.1 206 5 = nI a.1 ∧ a.1 ≤ 32 ∧ ∀ j, j < a.1 → iM X 209 j (a.2 j)
theorem mS.keep {X X' : xh_T} {a : st_T} (h : mS X a) (h5 : X'.1 206 5 = X.1 206 5) (h9 : X'.1 209 = X.1 209) : mS X' a := ⟨h5.trans h.1, h.2.1, fun j hj => (h.2.2 j hj).cp (fun k _ => by rw [h9])⟩
theorem mS.i {X : xh_T} {a : st_T} {k : Nat} (h : mS X a) (hk : k < a.1) : iM X 209 (a.1 - 1 - k) (st_i a k) := by
  unfold st_i
  rw [if_pos hk]
  exact h.2.2 _ (by omega)
theorem md_row {X : xh_T} {a : st_T} {k : Nat} (h : mS X a) (hk : k < a.1) : fx_MD_row (nI k) X = some (nI (33 * (a.1 - 1 - k)), X) := by
  unfold fx_MD_row
  rw [h.1, n1, pk_sub (by omega), pk_sub (by omega), n33, nm_]
theorem md_size {X : xh_T} {a : st_T} {k : Nat} (h : mS X a) (hk : k < a.1) : fx_MD_size (nI k) X = some (nI (st_i a k).1, X) := by
  have h2 := h.2.1
  unfold fx_MD_size
  rw [md_row h hk, xb_, xo_ (by omega) (by decide), nI_clamp (by omega), (h.i hk).1]
theorem md_at {X : xh_T} {a : st_T} {k i : Nat} (h : mS X a) (hk : k < a.1) (hi : i < (st_i a k).1) : fx_MD_at (nI k) (nI i) X = some ((st_i a k).2 i, X) := by
  have h2 := h.2.1
  have h3 := (h.i hk).2.1
  unfold fx_MD_at
  rw [md_row h hk, xb_, n1, nI_add, nI_add, xo_ (by omega) (by decide), nI_clamp (by omega), (h.i hk).2.2 i hi]
theorem md_true_b {X : xh_T} {a : st_T} {k : Nat} (h : mS X a) (hk : k < a.1) : ∀ (m i fuel : Nat), i + m = (st_i a k).1 → m < fuel → (∀ j, j < i → ((st_i a k).2 j = 0 ∨ (j + 1 = (st_i a k).1 ∧ (st_i a k).2 j = 128))) → fx_MD_isTrue_b2 fuel (nI k) (nI i) X = some (it_t (st_i a k), X) := by
  have h3 := (h.i hk).2.1
  intro m
  induction m with
  | zero =>
    intro i fuel hi hf hj
    obtain ⟨fuel, rfl⟩ : ∃ k, fuel = k + 1 := ⟨fuel - 1, by omega⟩
    rw [fx_MD_isTrue_b2, md_size h hk, xb_, if_pos (nI_le (by omega) (by omega))]
    unfold it_t
    rw [if_pos (it_F_iff.mpr (fun j h1 => hj j (by omega)))]
  | succ m ih =>
    intro i fuel hi hf hj
    obtain ⟨fuel, rfl⟩ : ∃ k, fuel = k + 1 := ⟨fuel - 1, by omega⟩
    have nx : ((st_i a k).2 i = 0 ∨ (i + 1 = (st_i a k).1 ∧ (st_i a k).2 i = 128)) → fx_MD_isTrue_b2 fuel (nI k) (nI i + 1) X = some (it_t (st_i a k), X) := fun g => by
      rw [nI_1]
      refine ih (i + 1) fuel (by omega) (by omega) (fun j h1 => ?_)
      by_cases e : j = i
      · rw [e]; exact g
      · exact hj j (by omega)
    have no : ¬ ((st_i a k).2 i = 0 ∨ (i + 1 = (st_i a k).1 ∧ (st_i a k).2 i = 128)) → some ((1 : Int32), X) = some (it_t (st_i a k), X) := fun g => by
      unfold it_t
      rw [if_neg (fun z => g (it_F_iff.mp z i (by omega)))]
    rw [fx_MD_isTrue_b2, md_size h hk, xb_, if_neg (nI_ge (by omega) (by omega)), md_at h hk (by omega), xb_]
    by_cases g1 : (st_i a k).2 i = 0
    · rw [if_pos g1, xn_]; exact nx (Or.inl g1)
    · rw [if_neg g1, md_size h hk, xb_, n1, pk_sub (by omega)]
      by_cases g2 : i < (st_i a k).1 - 1
      · rw [if_pos (nI_lt g2 (by omega))]; exact no (fun z => z.elim g1 (fun z => by have := z.1; omega))
      · rw [if_neg (nI_nlt (by omega) (by omega)), md_at h hk (by omega), xb_]
        by_cases g3 : (st_i a k).2 i = 128
        · rw [if_pos g3, xn_, ← n1]; exact nx (Or.inr ⟨by omega, g3⟩)
        · rw [if_neg g3]; exact no (fun z => z.elim g1 (fun z => g3 z.2))
theorem md_true {X : xh_T} {a : st_T} {k : Nat} (h : mS X a) (hk : k < a.1) : fx_MD_isTrue (nI k) X = some (it_t (st_i a k), X) := by
  have h3 := (h.i hk).2.1
  have h4 := fu_
  unfold fx_MD_isTrue
  rw [xn_]
  exact md_true_b h hk (st_i a k).1 0 sp_fuel (by omega) (by omega) (fun j hj => absurd hj (by omega))
theorem md_same_b {X : xh_T} {a : st_T} {k l : Nat} (h : mS X a) (hk : k < a.1) (hl : l < a.1) (e : (st_i a k).1 = (st_i a l).1) : ∀ (m i fuel : Nat), i + m = (st_i a k).1 → m < fuel → (∀ j, j < i → (st_i a k).2 j = (st_i a l).2 j) → fx_MD_same_b17 fuel (nI k) (nI l) (nI i) X = some (b_i (it_s (st_i a k) (st_i a l)), X) := by
  have h3 := (h.i hk).2.1
  intro m
  induction m with
  | zero =>
    intro i fuel hi hf hj
    obtain ⟨fuel, rfl⟩ : ∃ k, fuel = k + 1 := ⟨fuel - 1, by omega⟩
    rw [fx_MD_same_b17, md_size h hk, xb_, if_pos (nI_le (by omega) (by omega)), it_s_iff.mpr ⟨e, fun j h1 => hj j (by omega)⟩]
    rfl
  | succ m ih =>
    intro i fuel hi hf hj
    obtain ⟨fuel, rfl⟩ : ∃ k, fuel = k + 1 := ⟨fuel - 1, by omega⟩
    rw [fx_MD_same_b17, md_size h hk, xb_, if_neg (nI_ge (by omega) (by omega)), md_at h hk (by omega), xb_, md_at h hl (by omega), xb_]
    by_cases g : (st_i a k).2 i = (st_i a l).2 i
    · rw [if_pos g, xn_, nI_1]
      refine ih (i + 1) fuel (by omega) (by omega) (fun j h1 => ?_)
      by_cases e : j = i
      · rw [e]; exact g
      · exact hj j (by omega)
    · rw [if_neg g]
      cases g2 : it_s (st_i a k) (st_i a l)
      · rfl
      · exact absurd ((it_s_iff.mp g2).2 i (by omega)) g
theorem md_same {X : xh_T} {a : st_T} {k l : Nat} (h : mS X a) (hk : k < a.1) (hl : l < a.1) : fx_MD_same (nI k) (nI l) X = some (b_i (it_s (st_i a k) (st_i a l)), X) := by
  have h3 := (h.i hk).2.1
  have h5 := (h.i hl).2.1
  have h4 := fu_
  unfold fx_MD_same
  rw [md_size h hk, xb_, md_size h hl, xb_]
  by_cases g : (st_i a k).1 = (st_i a l).1
  · rw [if_pos (by rw [g]), xn_]
    exact md_same_b h hk hl g (st_i a k).1 0 sp_fuel (by omega) (by omega) (fun j hj => absurd hj (by omega))
  · rw [if_neg (fun z => g ((nI_eq (by omega) (by omega)).mp z))]
    cases g2 : it_s (st_i a k) (st_i a l)
    · rfl
    · exact absurd (it_s_iff.mp g2).1 g
theorem md_hash_b {X : xh_T} {a : st_T} {k : Nat} (h : mS X a) (hk : k < a.1) : ∀ (m i fuel : Nat), i + m = (st_i a k).1 → m < fuel → fx_MD_hash_b5 fuel (nI k) (it_h (st_i a k).2 0 i) (nI i) X = some (it_h (st_i a k).2 0 (st_i a k).1, X) := by
  have h3 := (h.i hk).2.1
  intro m
  induction m with
  | zero =>
    intro i fuel hi hf
    obtain ⟨fuel, rfl⟩ : ∃ k, fuel = k + 1 := ⟨fuel - 1, by omega⟩
    rw [fx_MD_hash_b5, md_size h hk, xb_, if_pos (nI_le (by omega) (by omega)), ← hi, Nat.add_zero]
  | succ m ih =>
    intro i fuel hi hf
    obtain ⟨fuel, rfl⟩ : ∃ k, fuel = k + 1 := ⟨fuel - 1, by omega⟩
    rw [fx_MD_hash_b5, md_size h hk, xb_, if_neg (nI_ge (by omega) (by omega)), md_at h hk (by omega), xb_, xn_, xn_, nI_1]
    have e : it_h (st_i a k).2 0 i * 31 + (st_i a k).2 i = it_h (st_i a k).2 0 (i + 1) := by
      show _ = it_h (st_i a k).2 0 i * 31 + (st_i a k).2 (0 + i)
      rw [Nat.zero_add]
    rw [e]
    exact ih (i + 1) fuel (by omega) (by omega)
theorem md_hash {X : xh_T} {a : st_T} {k : Nat} (h : mS X a) (hk : k < a.1) : fx_MD_hash (nI k) X = some (it_h (st_i a k).2 0 (st_i a k).1, X) := by
  have h3 := (h.i hk).2.1
  have h4 := fu_
  unfold fx_MD_hash
  rw [xn_, xn_]
  exact md_hash_b h hk (st_i a k).1 0 sp_fuel (by omega) (by omega)
-- signatures
theorem md_wf {X : xh_T} {a : st_T} {k : Nat} (h : mS X a) (hk : k < a.1) (hB : it_B (st_i a k)) : fx_MD_wellFormed (nI k) X = some (b_i (it_w (st_i a k)), X) := by
  have h3 := (h.i hk).2.1
  generalize hx : st_i a k = x at *
  have at_ : ∀ i, i < x.1 → fx_MD_at (nI k) (nI i) X = some (x.2 i, X) := fun i hi => by rw [md_at h hk (by rw [hx]; exact hi), hx]
  have sz : fx_MD_size (nI k) X = some (nI x.1, X) := by rw [md_size h hk, hx]
  have hn : ¬ (6 ≤ x.1 ∧ x.1 ≤ 32 ∧ x.2 0 = 48 ∧ x.2 1 = nI (x.1 - 3) ∧ x.2 2 = 2 ∧ x.2 3 = nI (x.1 - 5) ∧ ((x.2 4 = 0 ∧ 7 ≤ x.1 ∧ ¬ x.2 5 < 128) ∨ (¬ x.2 4 = 0 ∧ ¬ 127 < x.2 4))) → some ((0 : Int32), X) = some (b_i (it_w x), X) := fun g => by
    unfold it_w
    rw [decide_eq_false g]
    rfl
  have hy : (6 ≤ x.1 ∧ x.1 ≤ 32 ∧ x.2 0 = 48 ∧ x.2 1 = nI (x.1 - 3) ∧ x.2 2 = 2 ∧ x.2 3 = nI (x.1 - 5) ∧ ((x.2 4 = 0 ∧ 7 ≤ x.1 ∧ ¬ x.2 5 < 128) ∨ (¬ x.2 4 = 0 ∧ ¬ 127 < x.2 4))) → some ((1 : Int32), X) = some (b_i (it_w x), X) := fun g => by
    unfold it_w
    rw [decide_eq_true g]
    rfl
  unfold fx_MD_wellFormed fx_MD_wellFormed_b98
  rw [sz, xb_, xn_, n6]
  by_cases g0 : x.1 < 6
  · rw [if_pos (nI_lt g0 (by decide))]; exact hn (fun z => by have := z.1; omega)
  rw [if_neg (nI_nlt (by omega) (by omega)), show fx_MD_at (nI k) 0 X = _ from at_ 0 (by omega), xb_]
  by_cases g1 : x.2 0 = 48
  rotate_left
  · rw [if_neg g1]; exact hn (fun z => g1 z.2.2.1)
  rw [if_pos g1, show fx_MD_at (nI k) 1 X = _ from at_ 1 (by omega), xb_, n3, pk_sub (by omega)]
  by_cases g2 : x.2 1 = nI (x.1 - 3)
  rotate_left
  · rw [if_neg g2]; exact hn (fun z => g2 z.2.2.2.1)
  rw [if_pos g2, show fx_MD_at (nI k) 2 X = _ from at_ 2 (by omega), xb_]
  by_cases g3 : x.2 2 = 2
  rotate_left
  · rw [if_neg g3]; exact hn (fun z => g3 z.2.2.2.2.1)
  rw [if_pos g3, show fx_MD_at (nI k) (nI 3) X = _ from at_ 3 (by omega), xb_, n5, pk_sub (by omega)]
  by_cases g4 : x.2 3 = nI (x.1 - 5)
  rotate_left
  · rw [if_neg g4]; exact hn (fun z => g4 z.2.2.2.2.2.1)
  rw [if_pos g4, show fx_MD_at (nI k) 4 X = _ from at_ 4 (by omega), xb_, xn_]
  obtain ⟨b, hb, e⟩ := hB 4 (by omega)
  have e0 : x.2 4 = 0 ↔ b = 0 := by rw [e]; exact nI_eq (b := 0) (by omega) (by decide)
  have e1 : x.2 4 < 1 ↔ b < 1 := by rw [e]; exact nI_ltI (b := 1) (by omega) (by decide)
  have e2 : 127 < x.2 4 ↔ 127 < b := by rw [e]; exact nI_ltI (a := 127) (by decide) (by omega)
  have e3 : x.2 4 ≤ 127 ↔ b ≤ 127 := by rw [e]; exact nI_leI (b := 127) (by omega) (by decide)
  unfold fx_MD_wellFormed_b77 fx_MD_wellFormed_b98
  by_cases g5 : b = 0
  · rw [if_pos (e1.mpr (by omega)), if_pos (e0.mpr g5), n6]
    by_cases g6 : x.1 ≤ 6
    · rw [if_pos (nI_le g6 (by decide))]
      exact hn (fun z => z.2.2.2.2.2.2.elim (fun z => by have := z.2.1; omega) (fun z => z.1 (e0.mpr g5)))
    · rw [if_neg (nI_ge (by omega) (by omega)), show fx_MD_at (nI k) 5 X = _ from at_ 5 (by omega), xb_]
      obtain ⟨c, hc, f⟩ := hB 5 (by omega)
      have f1 : x.2 5 ≤ 127 ↔ c ≤ 127 := by rw [f]; exact nI_leI (b := 127) (by omega) (by decide)
      have f2 : x.2 5 < 128 ↔ c < 128 := by rw [f]; exact nI_ltI (b := 128) (by omega) (by decide)
      by_cases g7 : c ≤ 127
      · rw [if_pos (f1.mpr g7)]
        exact hn (fun z => z.2.2.2.2.2.2.elim (fun z => z.2.2 (f2.mpr (by omega))) (fun z => z.1 (e0.mpr g5)))
      · rw [if_neg (fun z => g7 (f1.mp z))]
        exact hy ⟨by omega, h3, g1, g2, g3, g4, Or.inl ⟨e0.mpr g5, by omega, fun z => g7 (by have := f2.mp z; omega)⟩⟩
  · rw [if_neg (fun z => g5 (by have := e1.mp z; omega))]
    by_cases g6 : b ≤ 127
    · rw [if_pos (e3.mpr g6)]
      exact hy ⟨by omega, h3, g1, g2, g3, g4, Or.inr ⟨fun z => g5 (e0.mp z), fun z => by have := e2.mp z; omega⟩⟩
    · rw [if_neg (fun z => g6 (e3.mp z)), if_neg (fun z => g5 (e0.mp z))]
      exact hn (fun z => z.2.2.2.2.2.2.elim (fun z => g5 (e0.mp z.1)) (fun z => z.2 (e2.mpr (by omega))))
/-- the table of the other side -/
def mT (X : xh_T) (t : tb_T) : Prop := X.1 206 13 = nI t.1 ∧ t.1 ≤ 8 ∧ ∀ i, i < t.1 → X.1 213 i = t.2.1 i ∧ X.1 214 i = t.2.2 i
theorem mT.keep {X X' : xh_T} {t : tb_T} (h : mT X t) (h1 : X'.1 206 13 = X.1 206 13) (h2 : X'.1 213 = X.1 213) (h3 : X'.1 214 = X.1 214) : mT X' t := ⟨h1.trans h.1, h.2.1, fun i hi => by rw [h2, h3]; exact h.2.2 i hi⟩
theorem md_valid_b {X : xh_T} {a : st_T} {t : tb_T} {k l : Nat} (h : mS X a) (ht : mT X t) (hk : k < a.1) (hl : l < a.1) : ∀ (m i fuel : Nat), i + m = t.1 → m < fuel → (∀ j, j < i → ¬ (t.2.1 j = it_h (st_i a k).2 0 (st_i a k).1 ∧ t.2.2 j = it_h (st_i a l).2 0 (st_i a l).1)) → fx_MD_valid_b12 fuel (nI k) (nI l) (nI i) X = some (b_i (tb_v t (it_h (st_i a k).2 0 (st_i a k).1) (it_h (st_i a l).2 0 (st_i a l).1)), X) := by
  have h5 := ht.2.1
  intro m
  induction m with
  | zero =>
    intro i fuel hi hf hj
    obtain ⟨fuel, rfl⟩ : ∃ k, fuel = k + 1 := ⟨fuel - 1, by omega⟩
    rw [fx_MD_valid_b12, ht.1, if_pos (nI_le (by omega) (by omega))]
    unfold b_i
    rw [if_neg]
    intro k
    obtain ⟨j, h1, h2⟩ := tb_v_iff.mp k
    exact hj j (by omega) h2
  | succ m ih =>
    intro i fuel hi hf hj
    obtain ⟨fuel, rfl⟩ : ∃ k, fuel = k + 1 := ⟨fuel - 1, by omega⟩
    have hnx : ¬ (t.2.1 i = it_h (st_i a k).2 0 (st_i a k).1 ∧ t.2.2 i = it_h (st_i a l).2 0 (st_i a l).1) → fx_MD_valid_b12 fuel (nI k) (nI l) (nI i + 1) X = some (b_i (tb_v t (it_h (st_i a k).2 0 (st_i a k).1) (it_h (st_i a l).2 0 (st_i a l).1)), X) := fun g => by
      rw [nI_1]
      refine ih (i + 1) fuel (by omega) (by omega) (fun j h1 => ?_)
      by_cases e : j = i
      · rw [e]; exact g
      · exact hj j (by omega)
    rw [fx_MD_valid_b12, ht.1, if_neg (nI_ge (by omega) (by omega)), xo_ (by omega) (by decide), md_hash h hk, xb_, nI_clamp (by omega), (ht.2.2 i (by omega)).1, (ht.2.2 i (by omega)).2, xn_]
    by_cases g1 : t.2.1 i = it_h (st_i a k).2 0 (st_i a k).1
    · rw [if_pos g1, xo_ (by omega) (by decide), md_hash h hl, xb_, xn_]
      by_cases g2 : t.2.2 i = it_h (st_i a l).2 0 (st_i a l).1
      · rw [if_pos g2]
        unfold b_i
        rw [if_pos (tb_v_iff.mpr ⟨i, by omega, g1, g2⟩)]
      · rw [if_neg g2]; exact hnx (fun k => g2 k.2)
    · rw [if_neg g1]; exact hnx (fun k => g1 k.1)
theorem md_valid {X : xh_T} {a : st_T} {t : tb_T} {k l : Nat} (h : mS X a) (ht : mT X t) (hk : k < a.1) (hl : l < a.1) (hB : it_B (st_i a k)) : fx_MD_valid (nI k) (nI l) X = some (b_i (tb_ok t (st_i a k) (st_i a l)), X) := by
  have h5 := ht.2.1
  have h4 := fu_
  unfold fx_MD_valid tb_ok
  rw [md_wf h hk hB, xb_]
  cases g : it_w (st_i a k)
  · rw [if_pos (by decide)]; rfl
  · rw [if_neg (by decide), xn_, Bool.true_and]
    exact md_valid_b h ht hk hl t.1 0 sp_fuel (by omega) (by omega) (fun j hj => absurd hj (by omega))

/-! ByteString: what its pure programs answer -/
theorem sp_len_le (k : Nat) : sp_len k ≤ 1089 := by
  by_cases h : k < 216
  · have h1 : (List.range 216).all (fun k => decide (sp_len k ≤ 1089)) = true := by decide +kernel
    exact of_decide_eq_true (List.all_eq_true.mp h1 k (List.mem_range.mpr h))
  · have h1 : sp_lay k = .inl (9, 0) := by
      unfold sp_lay
      have h2 : sp_ll.length = 216 := by decide +kernel
      rw [List.getD_eq_getElem?_getD, List.getElem?_eq_none (by omega)]
      rfl
    unfold sp_len
    rw [h1]
    exact Nat.zero_le _
theorem sp_len_lt (k : Nat) : sp_len k < 2 ^ 31 := Nat.lt_of_le_of_lt (sp_len_le k) (by decide)
theorem bs_ne {q o : Nat} (h : sp_bs q = true) (h' : sp_bs o = true) : q ≠ o + 1 := fun e => by
  have h1 := (sp_bs_of h).2.1
  have h2 := (sp_bs_of h').2.2
  rw [e] at h1
  rw [h1] at h2
  cases h2
def bs_R (X : xh_T) (q : Nat) (a : it_T) : Prop := sp_bs q = true ∧ X.1 q 1 = nI a.1 ∧ a.1 ≤ sp_len (q + 1) ∧ ∀ i, i < a.1 → X.1 (q + 1) i = a.2 i
/-- only the ByteString q has changed -/
def fr_q (q : Nat) (X X' : xh_T) : Prop := X'.2 = X.2 ∧ ∀ k, k ≠ q → k ≠ q + 1 → X'.1 k = X.1 k
theorem bs_R.lt {X : xh_T} {q : Nat} {a : it_T} (h : bs_R X q a) : a.1 < 2 ^ 31 := Nat.lt_of_le_of_lt h.2.2.1 (sp_len_lt _)
theorem bs_R.keep {X X' : xh_T} {q : Nat} {a : it_T} (h : bs_R X q a) (h1 : X'.1 q = X.1 q) (h2 : X'.1 (q + 1) = X.1 (q + 1)) : bs_R X' q a := ⟨h.1, by rw [h1]; exact h.2.1, h.2.2.1, fun i hi => by rw [h2]; exact h.2.2.2 i hi⟩
theorem bs_R.to {X : xh_T} {q : Nat} {a b : it_T} (h : bs_R X q a) (e : it_eq a b) : bs_R X q b := ⟨h.1, by rw [← e.1]; exact h.2.1, by rw [← e.1]; exact h.2.2.1, fun i hi => by rw [← e.2 i (by rw [e.1]; exact hi)]; exact h.2.2.2 i (by rw [e.1]; exact hi)⟩
theorem bs_size {X : xh_T} {q : Nat} {a : it_T} (h : bs_R X q a) : fx_BS_size q X = some (nI a.1, X) := by
  unfold fx_BS_size
  rw [xk_ h.1, h.2.1]
def it_at (a : it_T) (p : Int32) : Int32 := if p < 0 then -1 else if nI a.1 ≤ p then -1 else a.2 p.toNatClampNeg
theorem it_at_n {a : it_T} {i : Nat} (h : i < a.1) (ha : a.1 < 2 ^ 31) : it_at a (nI i) = a.2 i := by
  unfold it_at
  rw [if_neg (nI_pos (by omega)), if_neg (nI_ge h ha), nI_clamp (by omega)]
theorem it_at_o {a : it_T} {i : Nat} (h : a.1 ≤ i) (hi : i < 2 ^ 31) : it_at a (nI i) = -1 := by
  unfold it_at
  rw [if_neg (nI_pos hi), if_pos (nI_le h hi)]
theorem bs_byteAt {X : xh_T} {q : Nat} {a : it_T} (h : bs_R X q a) (p : Int32) : fx_BS_byteAt q p X = some (it_at a p, X) := by
  unfold fx_BS_byteAt it_at
  rw [xk_ h.1, h.2.1]
  by_cases h1 : p < 0
  · rw [if_pos h1, if_pos h1]
  · rw [if_neg h1, if_neg h1]
    by_cases h2 : nI a.1 ≤ p
    · rw [if_pos h2, if_pos h2]
    · rw [if_neg h2, if_neg h2]
      rcases pk_ix p h.lt with g | g | ⟨j, hj, rfl⟩
      · exact absurd g h1
      · exact absurd g h2
      · rw [xo_ (Nat.lt_of_lt_of_le hj h.2.2.1) (sp_len_lt _), nI_clamp (Nat.lt_trans hj h.lt), h.2.2.2 j hj]
theorem bs_hash_b {X : xh_T} {q : Nat} {a : it_T} (h : bs_R X q a) {f c : Nat} (hfc : f + c ≤ a.1) : ∀ (m i fuel : Nat), i + m = a.1 → m < fuel → fx_BS_hash_b6 q fuel (nI f) (nI c) (it_h a.2 f (min (i - f) c)) (nI i) X = some (it_h a.2 f c, X) := by
  have hlt := h.lt
  intro m
  induction m with
  | zero =>
    intro i fuel hi hf
    obtain ⟨fuel, rfl⟩ : ∃ k, fuel = k + 1 := ⟨fuel - 1, by omega⟩
    rw [fx_BS_hash_b6, h.2.1, if_pos (nI_le (by omega) (by omega)), show min (i - f) c = c by omega]
  | succ m ih =>
    intro i fuel hi hf
    obtain ⟨fuel, rfl⟩ : ∃ k, fuel = k + 1 := ⟨fuel - 1, by omega⟩
    rw [fx_BS_hash_b6, h.2.1, if_neg (nI_ge (by omega) (by omega)), nI_1]
    by_cases h1 : i < f
    · rw [if_pos (nI_lt h1 (by omega)), xn_]
      have := ih (i + 1) fuel (by omega) (by omega)
      rw [show min (i + 1 - f) c = min (i - f) c by omega] at this
      exact this
    · rw [if_neg (nI_nlt (by omega) (by omega)), pk_sub (by omega)]
      by_cases h2 : c ≤ i - f
      · rw [if_pos (nI_le h2 (by omega)), xn_]
        have := ih (i + 1) fuel (by omega) (by omega)
        rw [show min (i + 1 - f) c = min (i - f) c by omega] at this
        exact this
      · rw [if_neg (nI_ge (by omega) (by omega)), xo_ (by have := h.2.2.1; omega) (sp_len_lt _), xn_, xn_, nI_clamp (by omega), h.2.2.2 i (by omega)]
        have := ih (i + 1) fuel (by omega) (by omega)
        rw [show min (i + 1 - f) c = (i - f) + 1 by omega] at this
        rw [show min (i - f) c = i - f by omega]
        rw [it_h, show f + (i - f) = i by omega] at this
        exact this
theorem bs_hash {X : xh_T} {q : Nat} {a : it_T} (h : bs_R X q a) {f c : Nat} (hfc : f + c ≤ a.1) : fx_BS_hash q (nI f) (nI c) X = some (it_h a.2 f c, X) := by
  unfold fx_BS_hash
  rw [xk_ h.1, xn_, xn_]
  have h2 := h.2.2.1
  have h3 := sp_len_le (q + 1)
  have h4 := fu_
  have := bs_hash_b h hfc a.1 0 sp_fuel (by omega) (by omega)
  rw [show min (0 - f) c = 0 by omega] at this
  exact this
theorem bs_isTrue_b {X : xh_T} {q : Nat} {a : it_T} (h : bs_R X q a) : ∀ (m i fuel : Nat), i + m = a.1 → m < fuel → (∀ j, j < i → (a.2 j = 0 ∨ (j + 1 = a.1 ∧ a.2 j = 128))) → fx_BS_isTrue_b2 q fuel (nI i) X = some (it_t a, X) := by
  have hlt := h.lt
  intro m
  induction m with
  | zero =>
    intro i fuel hi hf hj
    obtain ⟨fuel, rfl⟩ : ∃ k, fuel = k + 1 := ⟨fuel - 1, by omega⟩
    rw [fx_BS_isTrue_b2, h.2.1, if_pos (nI_le (by omega) (by omega))]
    unfold it_t
    rw [if_pos (it_F_iff.mpr (fun j h1 => hj j (by omega)))]
  | succ m ih =>
    intro i fuel hi hf hj
    obtain ⟨fuel, rfl⟩ : ∃ k, fuel = k + 1 := ⟨fuel - 1, by omega⟩
    have hi1 : i < sp_len (q + 1) := by have := h.2.2.1; omega
    have hb := h.2.2.2 i (by omega)
    have nx : (a.2 i = 0 ∨ (i + 1 = a.1 ∧ a.2 i = 128)) → fx_BS_isTrue_b2 q fuel (nI i + 1) X = some (it_t a, X) := fun g => by
      rw [nI_1]
      refine ih (i + 1) fuel (by omega) (by omega) (fun j h1 => ?_)
      by_cases e : j = i
      · rw [e]; exact g
      · exact hj j (by omega)
    have one : ¬ (a.2 i = 0 ∨ (i + 1 = a.1 ∧ a.2 i = 128)) → it_t a = 1 := fun g => by
      unfold it_t
      rw [if_neg]
      intro g2
      exact g (it_F_iff.mp g2 i (by omega))
    have tail : ∀ s : Int32, (s = 0 ↔ ¬ (i + 1 = a.1 ∧ a.2 i = 128)) → fx_BS_isTrue_b37 q (fun z0 Z => fx_BS_isTrue_b2 q fuel z0 Z) (nI i) s X = some (it_t a, X) := fun s hs => by
      unfold fx_BS_isTrue_b37
      rw [xn_, xo_ hi1 (sp_len_lt _), nI_clamp (by omega), hb]
      by_cases g1 : a.2 i = 0
      · rw [if_pos g1, xn_]; exact nx (Or.inl g1)
      · rw [if_neg g1]
        by_cases g2 : s = 0
        · rw [if_pos g2, one (fun g => g.elim g1 (hs.mp g2))]
        · rw [if_neg g2, xn_]
          exact nx (Or.inr (Classical.not_not.mp (fun g => g2 (hs.mpr g))))
    rw [fx_BS_isTrue_b2, h.2.1, if_neg (nI_ge (by omega) (by omega)), n1, pk_sub (by omega)]
    by_cases e : i = a.1 - 1
    · rw [if_pos (by rw [e]), xo_ hi1 (sp_len_lt _), nI_clamp (by omega), hb]
      by_cases g : a.2 i = 128
      · rw [if_pos g]
        exact tail 1 ⟨fun k => absurd k (by decide), fun k => absurd ⟨by omega, g⟩ k⟩
      · rw [if_neg g]
        unfold fx_BS_isTrue_b36
        exact tail 0 ⟨fun _ k => g k.2, fun _ => rfl⟩
    · rw [if_neg (fun k => e ((nI_eq (by omega) (by omega)).mp k))]
      unfold fx_BS_isTrue_b36
      exact tail 0 ⟨fun _ k => e (by omega), fun _ => rfl⟩
theorem bs_isTrue {X : xh_T} {q : Nat} {a : it_T} (h : bs_R X q a) : fx_BS_isTrue q X = some (it_t a, X) := by
  unfold fx_BS_isTrue
  rw [xk_ h.1, xn_]
  have h2 := h.2.2.1
  have h3 := sp_len_le (q + 1)
  have h4 := fu_
  exact bs_isTrue_b h a.1 0 sp_fuel (by omega) (by omega) (fun j hj => absurd hj (by omega))
theorem bs_same_b {X : xh_T} {q o : Nat} {a b : it_T} (h : bs_R X q a) (h' : bs_R X o b) (hab : a.1 = b.1) : ∀ (m i fuel : Nat), i + m = a.1 → m < fuel → (∀ j, j < i → a.2 j = b.2 j) → fx_BS_sameBytesAs_b15 q o fuel (nI i) X = some (if it_s a b = true then 1 else 0, X) := by
  have hlt := h.lt
  intro m
  induction m with
  | zero =>
    intro i fuel hi hf hj
    obtain ⟨fuel, rfl⟩ : ∃ k, fuel = k + 1 := ⟨fuel - 1, by omega⟩
    rw [fx_BS_sameBytesAs_b15, h.2.1, if_pos (nI_le (by omega) (by omega)), if_pos (it_s_iff.mpr ⟨hab, fun j h1 => hj j (by omega)⟩)]
  | succ m ih =>
    intro i fuel hi hf hj
    obtain ⟨fuel, rfl⟩ : ∃ k, fuel = k + 1 := ⟨fuel - 1, by omega⟩
    rw [fx_BS_sameBytesAs_b15, h.2.1, if_neg (nI_ge (by omega) (by omega)), xo_ (by have := h.2.2.1; omega) (sp_len_lt _), xo_ (by have := h'.2.2.1; omega) (sp_len_lt _), nI_clamp (by omega), h.2.2.2 i (by omega), h'.2.2.2 i (by omega)]
    by_cases g : a.2 i = b.2 i
    · rw [if_pos g, xn_, nI_1]
      refine ih (i + 1) fuel (by omega) (by omega) (fun j h1 => ?_)
      by_cases e : j = i
      · rw [e]; exact g
      · exact hj j (by omega)
    · rw [if_neg g, if_neg (fun k => g ((it_s_iff.mp k).2 i (by omega)))]
theorem bs_same {X : xh_T} {q o : Nat} {a b : it_T} (h : bs_R X q a) (h' : bs_R X o b) : fx_BS_sameBytesAs q o X = some (if it_s a b = true then 1 else 0, X) := by
  unfold fx_BS_sameBytesAs
  rw [xk_ h.1, xk_ h'.1, h.2.1, h'.2.1]
  have h2 := h.2.2.1
  have h3 := sp_len_le (q + 1)
  have h4 := fu_
  by_cases e : a.1 = b.1
  · rw [if_pos (by rw [e]), xn_]
    exact bs_same_b h h' e a.1 0 sp_fuel (by omega) (by omega) (fun j hj => absurd hj (by omega))
  · rw [if_neg (fun k => e ((nI_eq h.lt h'.lt).mp k)), if_neg (fun k => e (it_s_iff.mp k).1)]
theorem bs_isNumber {X : xh_T} {q : Nat} {a : it_T} (h : bs_R X q a) : fx_BS_isNumber q X = some (if 4 < a.1 then 0 else 1, X) := by
  unfold fx_BS_isNumber
  rw [xk_ h.1, h.2.1, n4]
  by_cases g : 4 < a.1
  · rw [if_pos (nI_lt g h.lt), if_pos g]
  · rw [if_neg (nI_nlt (by omega) (by decide)), if_neg g]
theorem nI_m2 (n : Nat) : nI (n + 1) - 2 = nI n - 1 := by
  rw [← nI_1, Int32.sub_eq_add_neg, Int32.add_assoc, show (1 : Int32) + -2 = -1 by decide, ← Int32.sub_eq_add_neg]
theorem nI_p1 (x : Int32) : x + (-1) = x - 1 := by rw [Int32.sub_eq_add_neg]
theorem bs_number_b {X : xh_T} {q : Nat} {a : it_T} (h : bs_R X q a) (h0 : 0 < a.1) : ∀ (k : Nat) (v : Int64) (fuel : Nat), k < a.1 → k < fuel → fx_BS_number_b39 q fuel v (nI k - 1) X = some (if a.2 (a.1 - 1) < 128 then it_v a.2 k v else -(it_v a.2 k v), X) := by
  have hlt := h.lt
  intro k
  induction k with
  | zero =>
    intro v fuel hk hf
    obtain ⟨fuel, rfl⟩ : ∃ k, fuel = k + 1 := ⟨fuel - 1, by omega⟩
    rw [fx_BS_number_b39, if_pos (by decide), h.2.1, n1, pk_sub (by omega), xo_ (by have := h.2.2.1; omega) (sp_len_lt _), nI_clamp (by omega), h.2.2.2 _ (by omega)]
    by_cases g : a.2 (a.1 - 1) < 128
    · rw [if_pos g, if_pos g]; rfl
    · rw [if_neg g, if_neg g]; rfl
  | succ k ih =>
    intro v fuel hk hf
    obtain ⟨fuel, rfl⟩ : ∃ k, fuel = k + 1 := ⟨fuel - 1, by omega⟩
    rw [fx_BS_number_b39, nI_pred, if_neg (nI_pos (by omega)), xo_ (by have := h.2.2.1; omega) (sp_len_lt _), xn_, xn_, nI_clamp (by omega), h.2.2.2 k (by omega), nI_p1]
    exact ih _ fuel (by omega) (by omega)
theorem bs_number {X : xh_T} {q : Nat} {a : it_T} (h : bs_R X q a) : fx_BS_number q X = some (if 4 < a.1 then 0 else it_n a, X) := by
  have hlt := h.lt
  have h4 := fu_
  unfold fx_BS_number it_n
  rw [xk_ h.1, h.2.1, bs_isNumber h, xb_]
  by_cases g0 : a.1 = 0
  · rw [if_pos (show nI a.1 = 0 by rw [g0]; rfl), if_neg (show ¬ 4 < a.1 by omega), if_pos g0]
  · rw [if_neg (nI_ne0 (by omega) hlt), if_neg g0]
    by_cases g : 4 < a.1
    · rw [if_pos g, if_pos rfl, if_pos g]
    · rw [if_neg g, if_neg (by decide), if_neg g, h.2.1, n1, pk_sub (by omega), xo_ (by have := h.2.2.1; omega) (sp_len_lt _), xn_, xn_, nI_clamp (by omega), h.2.2.2 _ (by omega)]
      have h5 : nI a.1 - 2 = nI (a.1 - 1) - 1 := by
        obtain ⟨m, hm⟩ : ∃ m, a.1 = m + 1 := ⟨a.1 - 1, by omega⟩
        rw [hm, nI_m2]
        rfl
      rw [h5]
      exact bs_number_b h (by omega) (a.1 - 1) _ sp_fuel (by omega) (by omega)
theorem bs_wf {X : xh_T} {q : Nat} {a : it_T} (h : bs_R X q a) (h32 : 32 ≤ sp_len (q + 1)) : fx_BS_isWellFormedSignature q X = some (if it_w a = true then 1 else 0, X) := by
  have hlt := h.lt
  unfold fx_BS_isWellFormedSignature
  rw [xk_ h.1, h.2.1]
  have wf : ∀ {P : Prop} [Decidable P], it_w a = decide P → (if it_w a = true then (1 : Int32) else 0) = if P then 1 else 0 := fun e => by
    rw [e]; simp
  by_cases g1 : a.1 < 6
  · rw [n6, if_pos (nI_lt g1 (by decide)), if_neg (fun k => by have := of_decide_eq_true k; omega)]
  · rw [n6, if_neg (nI_nlt (by omega) hlt)]
    by_cases g2 : a.1 ≤ 32
    · rw [n32, if_pos (nI_le g2 (by decide)), n0, xo_ (by omega) (sp_len_lt _), nI_clamp (by decide), h.2.2.2 0 (by omega)]
      by_cases g3 : a.2 0 = 48
      · rw [if_pos g3, n1, xo_ (by omega) (sp_len_lt _), nI_clamp (by decide), h.2.2.2 1 (by omega), n3, pk_sub (by omega)]
        by_cases g4 : a.2 1 = nI (a.1 - 3)
        · rw [if_pos g4, n2, xo_ (by omega) (sp_len_lt _), nI_clamp (by decide), h.2.2.2 2 (by omega)]
          by_cases g5 : a.2 2 = nI 2
          · rw [if_pos g5, xo_ (by omega) (sp_len_lt _), nI_clamp (by decide), h.2.2.2 3 (by omega), n5, pk_sub (by omega)]
            by_cases g6 : a.2 3 = nI (a.1 - 5)
            · rw [if_pos g6, n4, xo_ (by omega) (sp_len_lt _), nI_clamp (by decide), h.2.2.2 4 (by omega)]
              by_cases g7 : a.2 4 = nI 0
              · rw [if_pos g7]
                by_cases g8 : a.1 ≤ 6
                · rw [if_pos (nI_le g8 (by decide)), if_neg (fun k => by
                    obtain ⟨-, -, -, -, -, -, k | k⟩ := of_decide_eq_true k
                    · omega
                    · exact k.1 g7)]
                · rw [if_neg (nI_ge (by omega) hlt), xo_ (by omega) (sp_len_lt _), nI_clamp (by decide), h.2.2.2 5 (by omega)]
                  by_cases g9 : a.2 5 < 128
                  · rw [if_pos g9, if_neg (fun k => by
                      obtain ⟨-, -, -, -, -, -, k | k⟩ := of_decide_eq_true k
                      · exact k.2.2 g9
                      · exact k.1 g7)]
                  · rw [if_neg g9, if_pos (show it_w a = true from decide_eq_true ⟨by omega, g2, g3, g4, g5, g6, Or.inl ⟨g7, by omega, g9⟩⟩)]
              · rw [if_neg g7, xo_ (by omega) (sp_len_lt _)]
                by_cases g8 : 127 < a.2 4
                · rw [if_pos g8, if_neg (fun k => by
                    obtain ⟨-, -, -, -, -, -, k | k⟩ := of_decide_eq_true k
                    · exact g7 k.1
                    · exact k.2 g8)]
                · rw [if_neg g8, if_pos (show it_w a = true from decide_eq_true ⟨by omega, g2, g3, g4, g5, g6, Or.inr ⟨g7, g8⟩⟩)]
            · rw [if_neg g6, if_neg (fun k => g6 (of_decide_eq_true k).2.2.2.2.2.1)]
          · rw [if_neg g5, if_neg (fun k => g5 (of_decide_eq_true k).2.2.2.2.1)]
        · rw [if_neg g4, if_neg (fun k => g4 (of_decide_eq_true k).2.2.2.1)]
      · rw [if_neg g3, if_neg (fun k => g3 (of_decide_eq_true k).2.2.1)]
    · rw [n32, if_neg (nI_ge (by omega) hlt), if_neg (fun k => g2 (of_decide_eq_true k).2.1)]

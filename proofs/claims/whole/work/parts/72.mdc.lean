/-! The other side: numbers read -/
theorem md_val_b {X : xh_T} {a : st_T} {k s : Nat} (h : mS X a) (hk : k < a.1) (hs : s < 3) (h0 : 0 < (st_i a k).1) : ∀ (j : Nat) (v : Int64) (fuel : Nat), j < (st_i a k).1 → j < fuel → fx_MD_valueInto_b22 fuel (nI k) (nI s) (nI (st_i a k).1) v (nI j - 1) X = some (0, xh_l X 215 s (if (st_i a k).2 ((st_i a k).1 - 1) < 128 then it_v (st_i a k).2 j v else -(it_v (st_i a k).2 j v))) := by
  have h3 := (h.i hk).2.1
  intro j
  induction j with
  | zero =>
    intro v fuel hj hf
    obtain ⟨fuel, rfl⟩ : ∃ k, fuel = k + 1 := ⟨fuel - 1, by omega⟩
    rw [fx_MD_valueInto_b22, if_pos (by decide), if_neg (nI_nle h0 (by omega)), show nI (st_i a k).1 - 1 = nI ((st_i a k).1 - 1) from pk_sub (a := (st_i a k).1) (b := 1) (by omega), md_at h hk (by omega), xb_, xo_ hs (by decide), xo_ hs (by decide), xn_, xn_, nI_clamp (by omega)]
    by_cases g : (st_i a k).2 ((st_i a k).1 - 1) < 128
    · rw [if_pos ((le127 _).mpr g), if_pos g]; rfl
    · rw [if_neg (fun z => g ((le127 _).mp z)), if_neg g]; rfl
  | succ j ih =>
    intro v fuel hj hf
    obtain ⟨fuel, rfl⟩ : ∃ k, fuel = k + 1 := ⟨fuel - 1, by omega⟩
    rw [fx_MD_valueInto_b22, nI_pred, if_neg (nI_pos (by omega)), show nI (st_i a k).1 - 1 = nI ((st_i a k).1 - 1) from pk_sub (a := (st_i a k).1) (b := 1) (by omega), if_neg (fun z => by have := (nI_eq (by omega) (by omega)).mp z; omega), md_at h hk (by omega), xb_, fx_MD_valueInto_b61, xn_, xn_, nI_p1]
    exact ih _ fuel (by omega) (by omega)
theorem md_val {X : xh_T} {a : st_T} {k s : Nat} (h : mS X a) (hk : k < a.1) (hs : s < 3) : fx_MD_valueInto (nI k) (nI s) X = if 4 < (st_i a k).1 then some (12, X) else some (0, xh_l X 215 s (it_n (st_i a k))) := by
  have h3 := (h.i hk).2.1
  have h4 := fu_
  unfold fx_MD_valueInto
  rw [md_size h hk, xb_, xn_, n4]
  by_cases g : 4 < (st_i a k).1
  · rw [if_neg (nI_ge g (by omega)), if_pos g]
  · rw [if_pos (nI_le (by omega) (by decide)), if_neg g, xn_, xn_]
    obtain ⟨f, hf⟩ : ∃ f, sp_fuel = f + 1 := ⟨sp_fuel - 1, by omega⟩
    rw [hf]
    unfold it_n
    by_cases g0 : (st_i a k).1 = 0
    · rw [if_pos g0, fx_MD_valueInto_b22, g0, if_pos (by decide), if_pos (by decide), xo_ hs (by decide), xn_, nI_clamp (by omega)]
    · rw [if_neg g0, fx_MD_valueInto_b22, show nI (st_i a k).1 - 1 = nI ((st_i a k).1 - 1) from pk_sub (a := (st_i a k).1) (b := 1) (by omega), if_neg (nI_pos (by omega)), if_pos rfl, md_at h hk (by omega), xb_, fx_MD_valueInto_b61, xn_, xn_, nI_p1, md_val_b h hk hs (by omega) _ _ _ (by omega) (by omega), Int64.zero_mul, Int64.zero_add]
theorem md_take {X : xh_T} {a : st_T} {k : Nat} (h : mS X a) (hk : k < 3) : fx_MD_take (nI k) X = some (nf a k, if nf a k = 0 then xh_l X 215 k (num a k) else X) := by
  have h2 := h.2.1
  unfold fx_MD_take nf
  rw [h.1]
  by_cases g : k < a.1
  · rw [if_pos (nI_lt g (by omega)), if_pos g, md_val h g hk]
    by_cases g2 : 4 < (st_i a k).1
    · rw [if_pos g2, xb_, if_pos g2, if_neg (by decide)]
    · unfold num
      rw [if_neg g2, xb_, if_neg g2, if_pos rfl, if_neg g2]
  · rw [if_neg (nI_nlt (by omega) (by omega)), if_neg g, if_neg (by decide)]
theorem nf_pos {a : st_T} {k : Nat} : ¬ nf a k = 0 → ¬ nf a k ≤ 0 := by
  unfold nf
  split
  · split
    · exact fun _ => by decide
    · exact fun h => absurd rfl h
  · exact fun _ => by decide
theorem mS.l {X : xh_T} {a : st_T} {k j : Nat} {v : Int64} (h : mS X a) : mS (xh_l X k j v) a := h
-- what is calculated
theorem b_lt {p : Prop} {hp : Decidable p} {X : xh_T} (h : p) : some (b_l (decide p), X) = some ((1 : Int64), X) := by rw [decide_eq_true h]; rfl
theorem b_lf {p : Prop} {hp : Decidable p} {X : xh_T} (h : ¬ p) : some (b_l (decide p), X) = some ((0 : Int64), X) := by rw [decide_eq_false h]; rfl
theorem v373 (X : xh_T) : fx_MD_value_b373 1 X = some (1, X) ∧ fx_MD_value_b373 0 X = some (0, X) := ⟨rfl, rfl⟩

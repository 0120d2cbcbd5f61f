/-! The class's operations: numbers -/
def st_B (a : st_T) : Prop := ∀ i, i < a.1 → it_B (a.2 i)
theorem op_nf {X : xh_T} {t : tb_T} {a s : st_T} (h : op_R X t a s) {k : Nat} (hk : k < 2 ^ 31) : fx_OP_numberFault (nI k) X = some (nf a k, X) := by
  obtain ⟨q, e, r⟩ := op_top h hk
  unfold fx_OP_numberFault nf
  rw [is_has_n h.1 hk, xb_]
  by_cases g : k < a.1
  · rw [if_pos g, if_neg (by decide), e, xb_, bs_isNumber r, xb_, if_pos g]
    by_cases g2 : 4 < (st_i a k).1
    · rw [if_pos g2, if_pos rfl, if_pos g2]
    · rw [if_neg g2, if_neg (by decide), if_neg g2]
  · rw [if_neg g, if_pos rfl, if_neg g]
theorem op_num {X : xh_T} {t : tb_T} {a s : st_T} (h : op_R X t a s) {k : Nat} (hk : k < 2 ^ 31) : ∃ q, fx_IS_item 10 (nI k) X = some (q, X) ∧ fx_BS_number q X = some (num a k, X) := by
  obtain ⟨q, e, r⟩ := op_top h hk
  exact ⟨q, e, bs_number r⟩
theorem cf_le {a : st_T} : ∀ {m k : Nat}, cf a m k = 0 → 0 < m → k + m ≤ a.1
  | 0, k, _, h => absurd h (by omega)
  | m + 1, k, e, _ => by
    unfold cf at e
    by_cases g : nf a k = 0
    · rw [if_pos g] at e
      have g1 : k < a.1 := by
        unfold nf at g
        by_cases g2 : k < a.1
        · exact g2
        · rw [if_neg g2] at g; exact absurd g (by decide)
      cases m with
      | zero => omega
      | succ m =>
        have := cf_le e (by omega)
        omega
    · rw [if_neg g] at e; exact absurd e g
theorem op_calc_b {X : xh_T} {t : tb_T} {a s : st_T} (h : op_R X t a s) (c : Int32) {n : Nat} (hn : n < 4) : ∀ (m k fuel : Nat), k + m = n → m < fuel → fx_OP_calculate_b26 fuel c (nI n) (nI k) X = if cf a m k = 0 then (if c = 157 then (if num a 0 = num a 1 then fx_OP_calculate_b107 c (nI n) (num a 0) (num a 1) (num a 2) X else some (9, X)) else fx_OP_calculate_b107 c (nI n) (num a 0) (num a 1) (num a 2) X) else some (cf a m k, X) := by
  intro m
  induction m with
  | zero =>
    intro k fuel hk hf
    obtain ⟨fuel, rfl⟩ : ∃ k, fuel = k + 1 := ⟨fuel - 1, by omega⟩
    obtain ⟨q0, e0, r0⟩ := op_num h (k := 0) (by decide)
    obtain ⟨q1, e1, r1⟩ := op_num h (k := 1) (by decide)
    obtain ⟨q2, e2, r2⟩ := op_num h (k := 2) (by decide)
    rw [fx_OP_calculate_b26, if_pos (nI_le (by omega) (by omega)), n0, e0, xb_, r0, xb_, xn_, n1, e1, xb_, r1, xb_, xn_, n2, e2, xb_, r2, xb_, xn_]
    show _ = if (0 : Int32) = 0 then _ else _
    rw [if_pos rfl]
    by_cases g : c = 157
    · rw [if_pos g, if_pos g]
      by_cases g2 : num a 0 = num a 1
      · rw [if_pos (show lg_cmp (num a 0) (num a 1) = nI 0 from lc_eq.mpr g2), if_pos g2]
      · rw [if_neg (show ¬ lg_cmp (num a 0) (num a 1) = nI 0 from fun k => g2 (lc_eq.mp k)), if_neg g2]
    · rw [if_neg g, if_neg g]
  | succ m ih =>
    intro k fuel hk hf
    obtain ⟨fuel, rfl⟩ : ∃ k, fuel = k + 1 := ⟨fuel - 1, by omega⟩
    rw [fx_OP_calculate_b26, if_neg (nI_ge (by omega) (by omega)), op_nf h (by omega), xb_, xn_]
    unfold cf
    by_cases g : nf a k = 0
    · rw [if_pos g, if_pos g, xn_, nI_1]
      exact ih (k + 1) fuel (by omega) (by omega)
    · rw [if_neg g, if_neg g, if_neg g]
theorem oi_1 {X : xh_T} : fx_OP_oneIf 1 X = some (1, X) := rfl
theorem oi_0 {X : xh_T} : fx_OP_oneIf 0 X = some (0, X) := rfl
theorem bl_t : b_l true = 1 := rfl
theorem bl_f : b_l false = 0 := rfl
theorem il_1 : (1 : Int32).toInt64 = 1 := by decide
theorem il_0 : (0 : Int32).toInt64 = 0 := by decide
/-- the values of one and of two numbers -/
theorem cv_139 (x y z : Int64) : cv 139 x y z = x + 1 := by
  unfold cv
  repeat rw [if_neg (by decide)]
  rw [if_pos rfl]
theorem cv_140 (x y z : Int64) : cv 140 x y z = x - 1 := by
  unfold cv
  repeat rw [if_neg (by decide)]
  rw [if_pos rfl]
theorem cv_143 (x y z : Int64) : cv 143 x y z = -x := by
  unfold cv
  repeat rw [if_neg (by decide)]
  rw [if_pos rfl]
theorem cv_144 (x y z : Int64) : cv 144 x y z = (if x < 0 then -x else x) := by
  unfold cv
  repeat rw [if_neg (by decide)]
  rw [if_pos rfl]
theorem cv_145 (x y z : Int64) : cv 145 x y z = b_l (decide (x = 0)) := by
  unfold cv
  repeat rw [if_neg (by decide)]
  rw [if_pos rfl]
theorem cv_146 (x y z : Int64) : cv 146 x y z = b_l (decide (¬ x = 0)) := by
  unfold cv
  repeat rw [if_neg (by decide)]
  rw [if_pos rfl]
theorem cv_147 (x y z : Int64) : cv 147 x y z = y + x := by
  unfold cv
  repeat rw [if_neg (by decide)]
  rw [if_pos rfl]
theorem cv_148 (x y z : Int64) : cv 148 x y z = y - x := by
  unfold cv
  repeat rw [if_neg (by decide)]
  rw [if_pos rfl]
theorem cv_154 (x y z : Int64) : cv 154 x y z = b_l (decide (¬ y = 0 ∧ ¬ x = 0)) := by
  unfold cv
  repeat rw [if_neg (by decide)]
  rw [if_pos rfl]
theorem cv_155 (x y z : Int64) : cv 155 x y z = b_l (decide (¬ y = 0 ∨ ¬ x = 0)) := by
  unfold cv
  repeat rw [if_neg (by decide)]
  rw [if_pos rfl]
theorem cv_156 (x y z : Int64) : cv 156 x y z = b_l (decide (y = x)) := by
  unfold cv
  repeat rw [if_neg (by decide)]
  rw [if_pos rfl]
theorem cv_158 (x y z : Int64) : cv 158 x y z = b_l (decide (¬ y = x)) := by
  unfold cv
  repeat rw [if_neg (by decide)]
  rw [if_pos rfl]
theorem cv_159 (x y z : Int64) : cv 159 x y z = b_l (decide (y < x)) := by
  unfold cv
  repeat rw [if_neg (by decide)]
  rw [if_pos rfl]
theorem cv_160 (x y z : Int64) : cv 160 x y z = b_l (decide (x < y)) := by
  unfold cv
  repeat rw [if_neg (by decide)]
  rw [if_pos rfl]
theorem cv_161 (x y z : Int64) : cv 161 x y z = b_l (decide (¬ x < y)) := by
  unfold cv
  repeat rw [if_neg (by decide)]
  rw [if_pos rfl]
theorem cv_162 (x y z : Int64) : cv 162 x y z = b_l (decide (¬ y < x)) := by
  unfold cv
  repeat rw [if_neg (by decide)]
  rw [if_pos rfl]
theorem cv_163 (x y z : Int64) : cv 163 x y z = (if y < x then y else x) := by
  unfold cv
  repeat rw [if_neg (by decide)]
  rw [if_pos rfl]
theorem cv_164 (x y z : Int64) : cv 164 x y z = (if y < x then x else y) := by
  unfold cv
  repeat rw [if_neg (by decide)]
  rw [if_pos rfl]
theorem cv_165 (x y z : Int64) : cv 165 x y z = b_l (decide (¬ z < y ∧ z < x)) := by
  unfold cv
  repeat rw [if_neg (by decide)]

theorem o2_147 (X : xh_T) (x y : Int64) : fx_OP_ofTwo 147 y x X = some ((y + x), X) := by
  unfold fx_OP_ofTwo
  repeat rw [if_neg (by decide)]
  rw [if_pos rfl]
theorem o2_148 (X : xh_T) (x y : Int64) : fx_OP_ofTwo 148 y x X = some ((y - x), X) := by
  unfold fx_OP_ofTwo
  repeat rw [if_neg (by decide)]
  rw [if_pos rfl]
theorem o2_154 (X : xh_T) (x y : Int64) : fx_OP_ofTwo 154 y x X = (if (lg_cmp y 0) = 0 then fx_OP_ofTwo_b108 X else if (lg_cmp x 0) = 0 then fx_OP_ofTwo_b108 X else fx_OP_ofTwo_b109 1 X) := by
  unfold fx_OP_ofTwo
  repeat rw [if_neg (by decide)]
  rw [if_pos rfl]
theorem o2_155 (X : xh_T) (x y : Int64) : fx_OP_ofTwo 155 y x X = (if (lg_cmp y 0) = 0 then (if (lg_cmp x 0) = 0 then fx_OP_ofTwo_b131 0 X else fx_OP_ofTwo_b126 X) else fx_OP_ofTwo_b126 X) := by
  unfold fx_OP_ofTwo
  repeat rw [if_neg (by decide)]
  rw [if_pos rfl]
theorem o2_156 (X : xh_T) (x y : Int64) : fx_OP_ofTwo 156 y x X = (if (lg_cmp y x) = 0 then fx_OP_ofTwo_b147 1 X else fx_OP_ofTwo_b147 0 X) := by
  unfold fx_OP_ofTwo
  repeat rw [if_neg (by decide)]
  rw [if_pos rfl]
theorem o2_158 (X : xh_T) (x y : Int64) : fx_OP_ofTwo 158 y x X = (if (lg_cmp y x) = 0 then fx_OP_ofTwo_b163 0 X else fx_OP_ofTwo_b163 1 X) := by
  unfold fx_OP_ofTwo
  repeat rw [if_neg (by decide)]
  rw [if_pos rfl]
theorem o2_159 (X : xh_T) (x y : Int64) : fx_OP_ofTwo 159 y x X = (if 0 ≤ (lg_cmp y x) then fx_OP_ofTwo_b179 0 X else fx_OP_ofTwo_b179 1 X) := by
  unfold fx_OP_ofTwo
  repeat rw [if_neg (by decide)]
  rw [if_pos rfl]
theorem o2_160 (X : xh_T) (x y : Int64) : fx_OP_ofTwo 160 y x X = (if (lg_cmp y x) ≤ 0 then fx_OP_ofTwo_b195 0 X else fx_OP_ofTwo_b195 1 X) := by
  unfold fx_OP_ofTwo
  repeat rw [if_neg (by decide)]
  rw [if_pos rfl]
theorem o2_161 (X : xh_T) (x y : Int64) : fx_OP_ofTwo 161 y x X = (if 0 < (lg_cmp y x) then fx_OP_ofTwo_b211 0 X else fx_OP_ofTwo_b211 1 X) := by
  unfold fx_OP_ofTwo
  repeat rw [if_neg (by decide)]
  rw [if_pos rfl]
theorem o2_162 (X : xh_T) (x y : Int64) : fx_OP_ofTwo 162 y x X = (if (lg_cmp y x) < 0 then fx_OP_ofTwo_b227 0 X else fx_OP_ofTwo_b227 1 X) := by
  unfold fx_OP_ofTwo
  repeat rw [if_neg (by decide)]
  rw [if_pos rfl]
theorem o2_163 (X : xh_T) (x y : Int64) : fx_OP_ofTwo 163 y x X = some ((if x < y then x else y), X) := by
  unfold fx_OP_ofTwo
  repeat rw [if_neg (by decide)]
  rw [if_pos rfl]
theorem o2_164 (X : xh_T) (x y : Int64) : fx_OP_ofTwo 164 y x X = some ((if x < y then y else x), X) := by
  unfold fx_OP_ofTwo
  repeat rw [if_neg (by decide)]

theorem o1_139 (X : xh_T) (x : Int64) : fx_OP_ofOne 139 x X = some ((x + 1), X) := by
  unfold fx_OP_ofOne
  repeat rw [if_neg (by decide)]
  rw [if_pos rfl]
theorem o1_140 (X : xh_T) (x : Int64) : fx_OP_ofOne 140 x X = some ((x - 1), X) := by
  unfold fx_OP_ofOne
  repeat rw [if_neg (by decide)]
  rw [if_pos rfl]
theorem o1_143 (X : xh_T) (x : Int64) : fx_OP_ofOne 143 x X = some ((-x), X) := by
  unfold fx_OP_ofOne
  repeat rw [if_neg (by decide)]
  rw [if_pos rfl]
theorem o1_144 (X : xh_T) (x : Int64) : fx_OP_ofOne 144 x X = some ((if 0 < x then x else -x), X) := by
  unfold fx_OP_ofOne
  repeat rw [if_neg (by decide)]
  rw [if_pos rfl]
theorem o1_145 (X : xh_T) (x : Int64) : fx_OP_ofOne 145 x X = (if (lg_cmp x 0) = 0 then fx_OP_ofOne_b71 1 X else fx_OP_ofOne_b71 0 X) := by
  unfold fx_OP_ofOne
  repeat rw [if_neg (by decide)]
  rw [if_pos rfl]
theorem o1_146 (X : xh_T) (x : Int64) : fx_OP_ofOne 146 x X = (if (lg_cmp x 0) = 0 then fx_OP_ofOne_b87 0 X else fx_OP_ofOne_b87 1 X) := by
  unfold fx_OP_ofOne
  repeat rw [if_neg (by decide)]

theorem op_of1 {X : xh_T} {c : Int32} (hc : c = 139 ∨ c = 140 ∨ c = 143 ∨ c = 144 ∨ c = 145 ∨ c = 146) (x y z : Int64) : fx_OP_ofOne c x X = some (cv c x y z, X) := by
  rcases hc with rfl | rfl | rfl | rfl | rfl | rfl
  · rw [o1_139, cv_139]
  · rw [o1_140, cv_140]
  · rw [o1_143, cv_143]
  · rw [o1_144, cv_144]
    by_cases g : 0 < x
    · rw [if_pos g, if_neg (fun k => Int64.lt_irrefl (Int64.lt_trans g k))]
    · rw [if_neg g]
      by_cases g2 : x < 0
      · rw [if_pos g2]
      · rw [if_neg g2]
        have : x = 0 := Int64.le_antisymm (Int64.not_lt.mp g) (Int64.not_lt.mp g2)
        rw [this]
        rfl
  · rw [o1_145, cv_145]
    by_cases g : x = 0
    · rw [if_pos (lc_eq.mpr g), decide_eq_true g]; rfl
    · rw [if_neg (fun k => g (lc_eq.mp k)), decide_eq_false g]; rfl
  · rw [o1_146, cv_146]
    by_cases g : x = 0
    · rw [if_pos (lc_eq.mpr g), decide_eq_false (fun k => k g)]; rfl
    · rw [if_neg (fun k => g (lc_eq.mp k)), decide_eq_true g]; rfl
theorem op_of2 {X : xh_T} {c : Int32} (hc : c = 147 ∨ c = 148 ∨ c = 154 ∨ c = 155 ∨ c = 156 ∨ c = 158 ∨ c = 159 ∨ c = 160 ∨ c = 161 ∨ c = 162 ∨ c = 163 ∨ c = 164) (x y z : Int64) : fx_OP_ofTwo c y x X = some (cv c x y z, X) := by
  rcases hc with rfl | rfl | rfl | rfl | rfl | rfl | rfl | rfl | rfl | rfl | rfl | rfl
  · rw [o2_147, cv_147]
  · rw [o2_148, cv_148]
  · rw [o2_154, cv_154]
    by_cases g : y = 0
    · rw [if_pos (lc_eq.mpr g), decide_eq_false (fun k => k.1 g)]; rfl
    · rw [if_neg (fun k => g (lc_eq.mp k))]
      by_cases g2 : x = 0
      · rw [if_pos (lc_eq.mpr g2), decide_eq_false (fun k => k.2 g2)]; rfl
      · rw [if_neg (fun k => g2 (lc_eq.mp k)), decide_eq_true ⟨g, g2⟩]; rfl
  · rw [o2_155, cv_155]
    by_cases g : y = 0
    · rw [if_pos (lc_eq.mpr g)]
      by_cases g2 : x = 0
      · rw [if_pos (lc_eq.mpr g2), decide_eq_false (fun k => k.elim (fun k => k g) (fun k => k g2))]; rfl
      · rw [if_neg (fun k => g2 (lc_eq.mp k)), decide_eq_true (Or.inr g2)]; rfl
    · rw [if_neg (fun k => g (lc_eq.mp k)), decide_eq_true (Or.inl g)]; rfl
  · rw [o2_156, cv_156]
    by_cases g : y = x
    · rw [if_pos (lc_eq.mpr g), decide_eq_true g]; rfl
    · rw [if_neg (fun k => g (lc_eq.mp k)), decide_eq_false g]; rfl
  · rw [o2_158, cv_158]
    by_cases g : y = x
    · rw [if_pos (lc_eq.mpr g), decide_eq_false (fun k => k g)]; rfl
    · rw [if_neg (fun k => g (lc_eq.mp k)), decide_eq_true g]; rfl
  · rw [o2_159, cv_159]
    by_cases g : y < x
    · rw [if_neg (fun k => lc_ge.mp k g), decide_eq_true g]; rfl
    · rw [if_pos (lc_ge.mpr g), decide_eq_false g]; rfl
  · rw [o2_160, cv_160]
    by_cases g : x < y
    · rw [if_neg (fun k => lc_le.mp k g), decide_eq_true g]; rfl
    · rw [if_pos (lc_le.mpr g), decide_eq_false g]; rfl
  · rw [o2_161, cv_161]
    by_cases g : x < y
    · rw [if_pos (lc_gt.mpr g), decide_eq_false (fun k => k g)]; rfl
    · rw [if_neg (fun k => g (lc_gt.mp k)), decide_eq_true g]; rfl
  · rw [o2_162, cv_162]
    by_cases g : y < x
    · rw [if_pos (lc_lt.mpr g), decide_eq_false (fun k => k g)]; rfl
    · rw [if_neg (fun k => g (lc_lt.mp k)), decide_eq_true g]; rfl
  · rw [o2_163, cv_163]
    by_cases g : y < x
    · rw [if_pos g, if_neg (fun k => Int64.lt_irrefl (Int64.lt_trans g k))]
    · rw [if_neg g]
      by_cases g2 : x < y
      · rw [if_pos g2]
      · rw [if_neg g2, Int64.le_antisymm (Int64.not_lt.mp g) (Int64.not_lt.mp g2)]
  · rw [o2_164, cv_164]
    by_cases g : y < x
    · rw [if_pos g, if_neg (fun k => Int64.lt_irrefl (Int64.lt_trans g k))]
    · rw [if_neg g]
      by_cases g2 : x < y
      · rw [if_pos g2]
      · rw [if_neg g2, Int64.le_antisymm (Int64.not_lt.mp g) (Int64.not_lt.mp g2)]
/-- the calculating operations -/
theorem op_cal {X : xh_T} {t : tb_T} {a s : st_T} (h : op_R X t a s) {c : Int32} {n : Nat} (hn : n < 4) (h0 : 0 < n) (hc : fx_OP_operate c X = xh_b (fx_OP_calculate_b26 sp_fuel c (nI n) (nI 0) X) (fun r1 X1 => some (r1, X1))) (hs : op_sp t c a s = op_calc c n a s) (hw : n ≤ a.1 → pw (fx_OP_calculate_b107 c (nI n) (num a 0) (num a 1) (num a 2) X) (op_P t X (0, if c = 157 then st_pop a 2 else st_push (st_pop a n) (it_e (cv c (num a 0) (num a 1) (num a 2))), s))) : pw (fx_OP_operate c X) (op_P t X (op_sp t c a s)) := by
  have h4 := fu_
  rw [hc, hs, op_calc_b h c hn n 0 sp_fuel (by omega) (by omega)]
  unfold op_calc
  have id : ∀ {k : Option (Int32 × xh_T)} {P : Int32 → xh_T → Prop}, pw k P → pw (xh_b k (fun r1 X1 => some (r1, X1))) P := fun hk => pw_b (pw_m hk (fun r X' g => pw_some g))
  refine id ?_
  by_cases g : cf a n 0 = 0
  · have hle := cf_le g h0
    have hw := hw (by omega)
    rw [if_pos g, if_pos g]
    by_cases g1 : c = 157
    · rw [if_pos g1, if_pos g1]
      rw [if_pos g1] at hw
      by_cases g2 : num a 0 = num a 1
      · rw [if_pos g2, if_pos g2]
        exact hw
      · rw [if_neg g2, if_neg g2]
        exact pw_some (op_rf h rfl)
    · rw [if_neg g1, if_neg g1]
      rw [if_neg g1] at hw
      exact hw
  · rw [if_neg g, if_neg g]
    exact pw_some (op_rf h rfl)
theorem op_push {X Y : xh_T} {t : tb_T} {a s : st_T} (h : op_R Y t a s) (hf : fr_o X Y) (hr : a.1 + s.1 + 1 ≤ 30) (v : Int64) : pw (xh_b (fx_OP_pushNumber v Y) (fun (_ : Unit) (X12 : xh_T) => some ((0 : Int32), X12))) (op_P t X (0, st_push a (it_e v), s)) := pw_b (pw_m (op_pn h hr v) (fun _ Z g => pw_some ⟨rfl, g.1, hf.tr g.2⟩))
theorem op_w1 {X : xh_T} {t : tb_T} {a s : st_T} (h : op_R X t a s) {c : Int32} (hc : c = 139 ∨ c = 140 ∨ c = 143 ∨ c = 144 ∨ c = 145 ∨ c = 146) (g : 1 ≤ a.1) : pw (fx_OP_calculate_b107 c (nI 1) (num a 0) (num a 1) (num a 2) X) (op_P t X (0, if c = 157 then st_pop a 2 else st_push (st_pop a 1) (it_e (cv c (num a 0) (num a 1) (num a 2))), s)) := by
  have h7 := h.2.2.2
  rw [if_neg (show ¬ c = 157 by rcases hc with rfl | rfl | rfl | rfl | rfl | rfl <;> decide)]
  unfold fx_OP_calculate_b107
  refine pw_b (pw_m (op_drop h g) (fun _ Y hy => ?_))
  rw [if_pos (by decide), op_of1 hc (num a 0) (num a 1) (num a 2), xb_]
  exact op_push hy.1 hy.2 (by show a.1 - 1 + s.1 + 1 ≤ 30; omega) _
theorem op_w2 {X : xh_T} {t : tb_T} {a s : st_T} (h : op_R X t a s) {c : Int32} (hc : c = 147 ∨ c = 148 ∨ c = 154 ∨ c = 155 ∨ c = 156 ∨ c = 158 ∨ c = 159 ∨ c = 160 ∨ c = 161 ∨ c = 162 ∨ c = 163 ∨ c = 164) (g : 2 ≤ a.1) : pw (fx_OP_calculate_b107 c (nI 2) (num a 0) (num a 1) (num a 2) X) (op_P t X (0, if c = 157 then st_pop a 2 else st_push (st_pop a 2) (it_e (cv c (num a 0) (num a 1) (num a 2))), s)) := by
  have h7 := h.2.2.2
  have hne : ¬ c = 157 := by rcases hc with rfl | rfl | rfl | rfl | rfl | rfl | rfl | rfl | rfl | rfl | rfl | rfl <;> decide
  rw [if_neg hne]
  unfold fx_OP_calculate_b107
  refine pw_b (pw_m (op_drop h g) (fun _ Y hy => ?_))
  rw [if_neg (by decide), if_neg (by decide), if_neg hne, op_of2 hc (num a 0) (num a 1) (num a 2), xb_]
  exact op_push hy.1 hy.2 (by show a.1 - 2 + s.1 + 1 ≤ 30; omega) _
theorem op_w157 {X : xh_T} {t : tb_T} {a s : st_T} (h : op_R X t a s) (g : 2 ≤ a.1) : pw (fx_OP_calculate_b107 157 (nI 2) (num a 0) (num a 1) (num a 2) X) (op_P t X (0, if (157 : Int32) = 157 then st_pop a 2 else st_push (st_pop a 2) (it_e (cv 157 (num a 0) (num a 1) (num a 2))), s)) := by
  rw [if_pos rfl]
  unfold fx_OP_calculate_b107
  refine pw_b (pw_m (op_drop h g) (fun _ Y hy => ?_))
  rw [if_neg (by decide), if_neg (by decide), if_pos rfl]
  exact pw_some ⟨rfl, hy⟩
theorem op_w3 {X : xh_T} {t : tb_T} {a s : st_T} (h : op_R X t a s) (g : 3 ≤ a.1) : pw (fx_OP_calculate_b107 165 (nI 3) (num a 0) (num a 1) (num a 2) X) (op_P t X (0, if (165 : Int32) = 157 then st_pop a 2 else st_push (st_pop a 3) (it_e (cv 165 (num a 0) (num a 1) (num a 2))), s)) := by
  have h7 := h.2.2.2
  rw [if_neg (by decide)]
  unfold fx_OP_calculate_b107
  refine pw_b (pw_m (op_drop h g) (fun _ Y hy => ?_))
  rw [if_neg (by decide), if_pos (by decide), cv_165]
  have hr : (st_pop a 3).1 + s.1 + 1 ≤ 30 := by show a.1 - 3 + s.1 + 1 ≤ 30; omega
  by_cases g1 : num a 2 < num a 1
  · rw [if_pos (lc_gt.mpr g1), decide_eq_false (fun k => k.1 g1)]
    exact op_push hy.1 hy.2 hr _
  · rw [if_neg (fun k => g1 (lc_gt.mp k))]
    by_cases g2 : num a 2 < num a 0
    · rw [if_neg (fun k => lc_ge.mp k g2), decide_eq_true ⟨g1, g2⟩]
      exact op_push hy.1 hy.2 hr _
    · rw [if_pos (lc_ge.mpr g2), decide_eq_false (fun k => g2 k.2)]
      exact op_push hy.1 hy.2 hr _
theorem oc_139 (X : xh_T) : fx_OP_operate 139 X = xh_b (fx_OP_calculate_b26 sp_fuel 139 (nI 1) (nI 0) X) (fun r1 X1 => some (r1, X1)) := by
  unfold fx_OP_operate
  rw [if_neg (by decide), if_neg (by decide)]
  unfold fx_OP_calculate
  rw [if_neg (by decide)]
  unfold fx_OP_calculate_b23
  rw [xn_, xn_, ← n1, ← n0]
theorem os_139 (t : tb_T) (a s : st_T) : op_sp t 139 a s = op_calc 139 1 a s := by
  unfold op_sp
  repeat rw [if_neg (by decide)]
theorem op_139 {X : xh_T} {t : tb_T} {a s : st_T} (h : op_R X t a s) : pw (fx_OP_operate 139 X) (op_P t X (op_sp t 139 a s)) := op_cal (n := 1) h (by decide) (by decide) (oc_139 X) (os_139 t a s) (fun g => op_w1 h (by decide) g)
theorem oc_140 (X : xh_T) : fx_OP_operate 140 X = xh_b (fx_OP_calculate_b26 sp_fuel 140 (nI 1) (nI 0) X) (fun r1 X1 => some (r1, X1)) := by
  unfold fx_OP_operate
  rw [if_neg (by decide), if_neg (by decide)]
  unfold fx_OP_calculate
  rw [if_neg (by decide)]
  unfold fx_OP_calculate_b23
  rw [xn_, xn_, ← n1, ← n0]
theorem os_140 (t : tb_T) (a s : st_T) : op_sp t 140 a s = op_calc 140 1 a s := by
  unfold op_sp
  repeat rw [if_neg (by decide)]
theorem op_140 {X : xh_T} {t : tb_T} {a s : st_T} (h : op_R X t a s) : pw (fx_OP_operate 140 X) (op_P t X (op_sp t 140 a s)) := op_cal (n := 1) h (by decide) (by decide) (oc_140 X) (os_140 t a s) (fun g => op_w1 h (by decide) g)
theorem oc_143 (X : xh_T) : fx_OP_operate 143 X = xh_b (fx_OP_calculate_b26 sp_fuel 143 (nI 1) (nI 0) X) (fun r1 X1 => some (r1, X1)) := by
  unfold fx_OP_operate
  rw [if_neg (by decide), if_neg (by decide)]
  unfold fx_OP_calculate
  rw [if_neg (by decide)]
  unfold fx_OP_calculate_b23
  rw [xn_, xn_, ← n1, ← n0]
theorem os_143 (t : tb_T) (a s : st_T) : op_sp t 143 a s = op_calc 143 1 a s := by
  unfold op_sp
  repeat rw [if_neg (by decide)]
theorem op_143 {X : xh_T} {t : tb_T} {a s : st_T} (h : op_R X t a s) : pw (fx_OP_operate 143 X) (op_P t X (op_sp t 143 a s)) := op_cal (n := 1) h (by decide) (by decide) (oc_143 X) (os_143 t a s) (fun g => op_w1 h (by decide) g)
theorem oc_144 (X : xh_T) : fx_OP_operate 144 X = xh_b (fx_OP_calculate_b26 sp_fuel 144 (nI 1) (nI 0) X) (fun r1 X1 => some (r1, X1)) := by
  unfold fx_OP_operate
  rw [if_neg (by decide), if_neg (by decide)]
  unfold fx_OP_calculate
  rw [if_neg (by decide)]
  unfold fx_OP_calculate_b23
  rw [xn_, xn_, ← n1, ← n0]
theorem os_144 (t : tb_T) (a s : st_T) : op_sp t 144 a s = op_calc 144 1 a s := by
  unfold op_sp
  repeat rw [if_neg (by decide)]
theorem op_144 {X : xh_T} {t : tb_T} {a s : st_T} (h : op_R X t a s) : pw (fx_OP_operate 144 X) (op_P t X (op_sp t 144 a s)) := op_cal (n := 1) h (by decide) (by decide) (oc_144 X) (os_144 t a s) (fun g => op_w1 h (by decide) g)
theorem oc_145 (X : xh_T) : fx_OP_operate 145 X = xh_b (fx_OP_calculate_b26 sp_fuel 145 (nI 1) (nI 0) X) (fun r1 X1 => some (r1, X1)) := by
  unfold fx_OP_operate
  rw [if_neg (by decide), if_neg (by decide)]
  unfold fx_OP_calculate
  rw [if_neg (by decide)]
  unfold fx_OP_calculate_b23
  rw [xn_, xn_, ← n1, ← n0]
theorem os_145 (t : tb_T) (a s : st_T) : op_sp t 145 a s = op_calc 145 1 a s := by
  unfold op_sp
  repeat rw [if_neg (by decide)]
theorem op_145 {X : xh_T} {t : tb_T} {a s : st_T} (h : op_R X t a s) : pw (fx_OP_operate 145 X) (op_P t X (op_sp t 145 a s)) := op_cal (n := 1) h (by decide) (by decide) (oc_145 X) (os_145 t a s) (fun g => op_w1 h (by decide) g)
theorem oc_146 (X : xh_T) : fx_OP_operate 146 X = xh_b (fx_OP_calculate_b26 sp_fuel 146 (nI 1) (nI 0) X) (fun r1 X1 => some (r1, X1)) := by
  unfold fx_OP_operate
  rw [if_neg (by decide), if_neg (by decide)]
  unfold fx_OP_calculate
  rw [if_neg (by decide)]
  unfold fx_OP_calculate_b23
  rw [xn_, xn_, ← n1, ← n0]
theorem os_146 (t : tb_T) (a s : st_T) : op_sp t 146 a s = op_calc 146 1 a s := by
  unfold op_sp
  repeat rw [if_neg (by decide)]
theorem op_146 {X : xh_T} {t : tb_T} {a s : st_T} (h : op_R X t a s) : pw (fx_OP_operate 146 X) (op_P t X (op_sp t 146 a s)) := op_cal (n := 1) h (by decide) (by decide) (oc_146 X) (os_146 t a s) (fun g => op_w1 h (by decide) g)
theorem oc_147 (X : xh_T) : fx_OP_operate 147 X = xh_b (fx_OP_calculate_b26 sp_fuel 147 (nI 2) (nI 0) X) (fun r1 X1 => some (r1, X1)) := by
  unfold fx_OP_operate
  rw [if_neg (by decide), if_neg (by decide)]
  unfold fx_OP_calculate
  rw [if_pos (by decide), if_neg (by decide)]
  unfold fx_OP_calculate_b23
  rw [xn_, xn_, ← n2, ← n0]
theorem os_147 (t : tb_T) (a s : st_T) : op_sp t 147 a s = op_calc 147 2 a s := by
  unfold op_sp
  repeat rw [if_neg (by decide)]
  rw [if_pos (by decide), if_neg (by decide)]
theorem op_147 {X : xh_T} {t : tb_T} {a s : st_T} (h : op_R X t a s) : pw (fx_OP_operate 147 X) (op_P t X (op_sp t 147 a s)) := op_cal (n := 2) h (by decide) (by decide) (oc_147 X) (os_147 t a s) (fun g => op_w2 h (by decide) g)
theorem oc_148 (X : xh_T) : fx_OP_operate 148 X = xh_b (fx_OP_calculate_b26 sp_fuel 148 (nI 2) (nI 0) X) (fun r1 X1 => some (r1, X1)) := by
  unfold fx_OP_operate
  rw [if_neg (by decide), if_neg (by decide)]
  unfold fx_OP_calculate
  rw [if_pos (by decide), if_neg (by decide)]
  unfold fx_OP_calculate_b23
  rw [xn_, xn_, ← n2, ← n0]
theorem os_148 (t : tb_T) (a s : st_T) : op_sp t 148 a s = op_calc 148 2 a s := by
  unfold op_sp
  repeat rw [if_neg (by decide)]
  rw [if_pos (by decide), if_neg (by decide)]
theorem op_148 {X : xh_T} {t : tb_T} {a s : st_T} (h : op_R X t a s) : pw (fx_OP_operate 148 X) (op_P t X (op_sp t 148 a s)) := op_cal (n := 2) h (by decide) (by decide) (oc_148 X) (os_148 t a s) (fun g => op_w2 h (by decide) g)
theorem oc_154 (X : xh_T) : fx_OP_operate 154 X = xh_b (fx_OP_calculate_b26 sp_fuel 154 (nI 2) (nI 0) X) (fun r1 X1 => some (r1, X1)) := by
  unfold fx_OP_operate
  rw [if_neg (by decide), if_neg (by decide)]
  unfold fx_OP_calculate
  rw [if_pos (by decide), if_neg (by decide)]
  unfold fx_OP_calculate_b23
  rw [xn_, xn_, ← n2, ← n0]
theorem os_154 (t : tb_T) (a s : st_T) : op_sp t 154 a s = op_calc 154 2 a s := by
  unfold op_sp
  repeat rw [if_neg (by decide)]
  rw [if_pos (by decide), if_neg (by decide)]
theorem op_154 {X : xh_T} {t : tb_T} {a s : st_T} (h : op_R X t a s) : pw (fx_OP_operate 154 X) (op_P t X (op_sp t 154 a s)) := op_cal (n := 2) h (by decide) (by decide) (oc_154 X) (os_154 t a s) (fun g => op_w2 h (by decide) g)
theorem oc_155 (X : xh_T) : fx_OP_operate 155 X = xh_b (fx_OP_calculate_b26 sp_fuel 155 (nI 2) (nI 0) X) (fun r1 X1 => some (r1, X1)) := by
  unfold fx_OP_operate
  rw [if_neg (by decide), if_neg (by decide)]
  unfold fx_OP_calculate
  rw [if_pos (by decide), if_neg (by decide)]
  unfold fx_OP_calculate_b23
  rw [xn_, xn_, ← n2, ← n0]
theorem os_155 (t : tb_T) (a s : st_T) : op_sp t 155 a s = op_calc 155 2 a s := by
  unfold op_sp
  repeat rw [if_neg (by decide)]
  rw [if_pos (by decide), if_neg (by decide)]
theorem op_155 {X : xh_T} {t : tb_T} {a s : st_T} (h : op_R X t a s) : pw (fx_OP_operate 155 X) (op_P t X (op_sp t 155 a s)) := op_cal (n := 2) h (by decide) (by decide) (oc_155 X) (os_155 t a s) (fun g => op_w2 h (by decide) g)
theorem oc_156 (X : xh_T) : fx_OP_operate 156 X = xh_b (fx_OP_calculate_b26 sp_fuel 156 (nI 2) (nI 0) X) (fun r1 X1 => some (r1, X1)) := by
  unfold fx_OP_operate
  rw [if_neg (by decide), if_neg (by decide)]
  unfold fx_OP_calculate
  rw [if_pos (by decide), if_neg (by decide)]
  unfold fx_OP_calculate_b23
  rw [xn_, xn_, ← n2, ← n0]
theorem os_156 (t : tb_T) (a s : st_T) : op_sp t 156 a s = op_calc 156 2 a s := by
  unfold op_sp
  repeat rw [if_neg (by decide)]
  rw [if_pos (by decide), if_neg (by decide)]
theorem op_156 {X : xh_T} {t : tb_T} {a s : st_T} (h : op_R X t a s) : pw (fx_OP_operate 156 X) (op_P t X (op_sp t 156 a s)) := op_cal (n := 2) h (by decide) (by decide) (oc_156 X) (os_156 t a s) (fun g => op_w2 h (by decide) g)
theorem oc_158 (X : xh_T) : fx_OP_operate 158 X = xh_b (fx_OP_calculate_b26 sp_fuel 158 (nI 2) (nI 0) X) (fun r1 X1 => some (r1, X1)) := by
  unfold fx_OP_operate
  rw [if_neg (by decide), if_neg (by decide)]
  unfold fx_OP_calculate
  rw [if_pos (by decide), if_neg (by decide)]
  unfold fx_OP_calculate_b23
  rw [xn_, xn_, ← n2, ← n0]
theorem os_158 (t : tb_T) (a s : st_T) : op_sp t 158 a s = op_calc 158 2 a s := by
  unfold op_sp
  repeat rw [if_neg (by decide)]
  rw [if_pos (by decide), if_neg (by decide)]
theorem op_158 {X : xh_T} {t : tb_T} {a s : st_T} (h : op_R X t a s) : pw (fx_OP_operate 158 X) (op_P t X (op_sp t 158 a s)) := op_cal (n := 2) h (by decide) (by decide) (oc_158 X) (os_158 t a s) (fun g => op_w2 h (by decide) g)
theorem oc_159 (X : xh_T) : fx_OP_operate 159 X = xh_b (fx_OP_calculate_b26 sp_fuel 159 (nI 2) (nI 0) X) (fun r1 X1 => some (r1, X1)) := by
  unfold fx_OP_operate
  rw [if_neg (by decide), if_neg (by decide)]
  unfold fx_OP_calculate
  rw [if_pos (by decide), if_neg (by decide)]
  unfold fx_OP_calculate_b23
  rw [xn_, xn_, ← n2, ← n0]
theorem os_159 (t : tb_T) (a s : st_T) : op_sp t 159 a s = op_calc 159 2 a s := by
  unfold op_sp
  repeat rw [if_neg (by decide)]
  rw [if_pos (by decide), if_neg (by decide)]
theorem op_159 {X : xh_T} {t : tb_T} {a s : st_T} (h : op_R X t a s) : pw (fx_OP_operate 159 X) (op_P t X (op_sp t 159 a s)) := op_cal (n := 2) h (by decide) (by decide) (oc_159 X) (os_159 t a s) (fun g => op_w2 h (by decide) g)
theorem oc_160 (X : xh_T) : fx_OP_operate 160 X = xh_b (fx_OP_calculate_b26 sp_fuel 160 (nI 2) (nI 0) X) (fun r1 X1 => some (r1, X1)) := by
  unfold fx_OP_operate
  rw [if_neg (by decide), if_neg (by decide)]
  unfold fx_OP_calculate
  rw [if_pos (by decide), if_neg (by decide)]
  unfold fx_OP_calculate_b23
  rw [xn_, xn_, ← n2, ← n0]
theorem os_160 (t : tb_T) (a s : st_T) : op_sp t 160 a s = op_calc 160 2 a s := by
  unfold op_sp
  repeat rw [if_neg (by decide)]
  rw [if_pos (by decide), if_neg (by decide)]
theorem op_160 {X : xh_T} {t : tb_T} {a s : st_T} (h : op_R X t a s) : pw (fx_OP_operate 160 X) (op_P t X (op_sp t 160 a s)) := op_cal (n := 2) h (by decide) (by decide) (oc_160 X) (os_160 t a s) (fun g => op_w2 h (by decide) g)
theorem oc_161 (X : xh_T) : fx_OP_operate 161 X = xh_b (fx_OP_calculate_b26 sp_fuel 161 (nI 2) (nI 0) X) (fun r1 X1 => some (r1, X1)) := by
  unfold fx_OP_operate
  rw [if_neg (by decide), if_neg (by decide)]
  unfold fx_OP_calculate
  rw [if_pos (by decide), if_neg (by decide)]
  unfold fx_OP_calculate_b23
  rw [xn_, xn_, ← n2, ← n0]
theorem os_161 (t : tb_T) (a s : st_T) : op_sp t 161 a s = op_calc 161 2 a s := by
  unfold op_sp
  repeat rw [if_neg (by decide)]
  rw [if_pos (by decide), if_neg (by decide)]
theorem op_161 {X : xh_T} {t : tb_T} {a s : st_T} (h : op_R X t a s) : pw (fx_OP_operate 161 X) (op_P t X (op_sp t 161 a s)) := op_cal (n := 2) h (by decide) (by decide) (oc_161 X) (os_161 t a s) (fun g => op_w2 h (by decide) g)
theorem oc_162 (X : xh_T) : fx_OP_operate 162 X = xh_b (fx_OP_calculate_b26 sp_fuel 162 (nI 2) (nI 0) X) (fun r1 X1 => some (r1, X1)) := by
  unfold fx_OP_operate
  rw [if_neg (by decide), if_neg (by decide)]
  unfold fx_OP_calculate
  rw [if_pos (by decide), if_neg (by decide)]
  unfold fx_OP_calculate_b23
  rw [xn_, xn_, ← n2, ← n0]
theorem os_162 (t : tb_T) (a s : st_T) : op_sp t 162 a s = op_calc 162 2 a s := by
  unfold op_sp
  repeat rw [if_neg (by decide)]
  rw [if_pos (by decide), if_neg (by decide)]
theorem op_162 {X : xh_T} {t : tb_T} {a s : st_T} (h : op_R X t a s) : pw (fx_OP_operate 162 X) (op_P t X (op_sp t 162 a s)) := op_cal (n := 2) h (by decide) (by decide) (oc_162 X) (os_162 t a s) (fun g => op_w2 h (by decide) g)
theorem oc_163 (X : xh_T) : fx_OP_operate 163 X = xh_b (fx_OP_calculate_b26 sp_fuel 163 (nI 2) (nI 0) X) (fun r1 X1 => some (r1, X1)) := by
  unfold fx_OP_operate
  rw [if_neg (by decide), if_neg (by decide)]
  unfold fx_OP_calculate
  rw [if_pos (by decide), if_neg (by decide)]
  unfold fx_OP_calculate_b23
  rw [xn_, xn_, ← n2, ← n0]
theorem os_163 (t : tb_T) (a s : st_T) : op_sp t 163 a s = op_calc 163 2 a s := by
  unfold op_sp
  repeat rw [if_neg (by decide)]
  rw [if_pos (by decide), if_neg (by decide)]
theorem op_163 {X : xh_T} {t : tb_T} {a s : st_T} (h : op_R X t a s) : pw (fx_OP_operate 163 X) (op_P t X (op_sp t 163 a s)) := op_cal (n := 2) h (by decide) (by decide) (oc_163 X) (os_163 t a s) (fun g => op_w2 h (by decide) g)
theorem oc_164 (X : xh_T) : fx_OP_operate 164 X = xh_b (fx_OP_calculate_b26 sp_fuel 164 (nI 2) (nI 0) X) (fun r1 X1 => some (r1, X1)) := by
  unfold fx_OP_operate
  rw [if_neg (by decide), if_neg (by decide)]
  unfold fx_OP_calculate
  rw [if_pos (by decide), if_neg (by decide)]
  unfold fx_OP_calculate_b23
  rw [xn_, xn_, ← n2, ← n0]
theorem os_164 (t : tb_T) (a s : st_T) : op_sp t 164 a s = op_calc 164 2 a s := by
  unfold op_sp
  repeat rw [if_neg (by decide)]
  rw [if_pos (by decide), if_neg (by decide)]
theorem op_164 {X : xh_T} {t : tb_T} {a s : st_T} (h : op_R X t a s) : pw (fx_OP_operate 164 X) (op_P t X (op_sp t 164 a s)) := op_cal (n := 2) h (by decide) (by decide) (oc_164 X) (os_164 t a s) (fun g => op_w2 h (by decide) g)
theorem oc_157 (X : xh_T) : fx_OP_operate 157 X = xh_b (fx_OP_calculate_b26 sp_fuel 157 (nI 2) (nI 0) X) (fun r1 X1 => some (r1, X1)) := by
  unfold fx_OP_operate
  rw [if_neg (by decide), if_neg (by decide)]
  unfold fx_OP_calculate
  rw [if_pos (by decide), if_neg (by decide)]
  unfold fx_OP_calculate_b23
  rw [xn_, xn_, ← n2, ← n0]
theorem os_157 (t : tb_T) (a s : st_T) : op_sp t 157 a s = op_calc 157 2 a s := by
  unfold op_sp
  repeat rw [if_neg (by decide)]
  rw [if_pos (by decide), if_neg (by decide)]
theorem op_157 {X : xh_T} {t : tb_T} {a s : st_T} (h : op_R X t a s) : pw (fx_OP_operate 157 X) (op_P t X (op_sp t 157 a s)) := op_cal (n := 2) h (by decide) (by decide) (oc_157 X) (os_157 t a s) (fun g => op_w157 h g)
theorem oc_165 (X : xh_T) : fx_OP_operate 165 X = xh_b (fx_OP_calculate_b26 sp_fuel 165 (nI 3) (nI 0) X) (fun r1 X1 => some (r1, X1)) := by
  unfold fx_OP_operate
  rw [if_neg (by decide), if_neg (by decide)]
  unfold fx_OP_calculate
  rw [if_pos (by decide), if_pos (by decide)]
  unfold fx_OP_calculate_b23
  rw [xn_, xn_, ← n3, ← n0]
theorem os_165 (t : tb_T) (a s : st_T) : op_sp t 165 a s = op_calc 165 3 a s := by
  unfold op_sp
  repeat rw [if_neg (by decide)]
  rw [if_pos (by decide), if_pos (by decide)]
theorem op_165 {X : xh_T} {t : tb_T} {a s : st_T} (h : op_R X t a s) : pw (fx_OP_operate 165 X) (op_P t X (op_sp t 165 a s)) := op_cal (n := 3) h (by decide) (by decide) (oc_165 X) (os_165 t a s) (fun g => op_w3 h g)

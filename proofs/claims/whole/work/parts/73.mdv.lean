/-! The other side: what is calculated -/
theorem mv_139 (X : xh_T) (x y z : Int64) : fx_MD_value 139 x y z X = some ((x + 1), X) := by
  unfold fx_MD_value
  rw [xn_]
  repeat rw [if_neg (by decide)]
  rw [if_pos rfl]
theorem mv_140 (X : xh_T) (x y z : Int64) : fx_MD_value 140 x y z X = some ((x - 1), X) := by
  unfold fx_MD_value
  rw [xn_]
  repeat rw [if_neg (by decide)]
  rw [if_pos rfl]
theorem mv_143 (X : xh_T) (x y z : Int64) : fx_MD_value 143 x y z X = some ((-x), X) := by
  unfold fx_MD_value
  rw [xn_]
  repeat rw [if_neg (by decide)]
  rw [if_pos rfl]
theorem mv_144 (X : xh_T) (x y z : Int64) : fx_MD_value 144 x y z X = (if 0 ≤ (lg_cmp x 0) then some (x, X) else some ((-x), X)) := by
  unfold fx_MD_value
  rw [xn_]
  repeat rw [if_neg (by decide)]
  rw [if_pos rfl]
theorem mv_145 (X : xh_T) (x y z : Int64) : fx_MD_value 145 x y z X = (if (lg_cmp x 0) = 0 then fx_MD_value_b159 1 X else fx_MD_value_b159 0 X) := by
  unfold fx_MD_value
  rw [xn_]
  repeat rw [if_neg (by decide)]
  rw [if_pos rfl]
theorem mv_146 (X : xh_T) (x y z : Int64) : fx_MD_value 146 x y z X = (if (lg_cmp x 0) = 0 then fx_MD_value_b175 0 X else fx_MD_value_b175 1 X) := by
  unfold fx_MD_value
  rw [xn_]
  repeat rw [if_neg (by decide)]
  rw [if_pos rfl]
theorem mv_147 (X : xh_T) (x y z : Int64) : fx_MD_value 147 x y z X = some ((y + x), X) := by
  unfold fx_MD_value
  rw [xn_]
  repeat rw [if_neg (by decide)]
  rw [if_pos rfl]
theorem mv_148 (X : xh_T) (x y z : Int64) : fx_MD_value 148 x y z X = some ((y - x), X) := by
  unfold fx_MD_value
  rw [xn_]
  repeat rw [if_neg (by decide)]
  rw [if_pos rfl]
theorem mv_154 (X : xh_T) (x y z : Int64) : fx_MD_value 154 x y z X = (if (lg_cmp x 0) = 0 then fx_MD_value_b204 X else if (lg_cmp y 0) = 0 then fx_MD_value_b204 X else fx_MD_value_b205 1 X) := by
  unfold fx_MD_value
  rw [xn_]
  repeat rw [if_neg (by decide)]
  rw [if_pos rfl]
theorem mv_155 (X : xh_T) (x y z : Int64) : fx_MD_value 155 x y z X = (if (lg_cmp x 0) = 0 then (if (lg_cmp y 0) = 0 then fx_MD_value_b227 0 X else fx_MD_value_b222 X) else fx_MD_value_b222 X) := by
  unfold fx_MD_value
  rw [xn_]
  repeat rw [if_neg (by decide)]
  rw [if_pos rfl]
theorem mv_156 (X : xh_T) (x y z : Int64) : fx_MD_value 156 x y z X = (if (lg_cmp y x) = 0 then fx_MD_value_b243 1 X else fx_MD_value_b243 0 X) := by
  unfold fx_MD_value
  rw [xn_]
  repeat rw [if_neg (by decide)]
  rw [if_pos rfl]
theorem mv_158 (X : xh_T) (x y z : Int64) : fx_MD_value 158 x y z X = (if (lg_cmp y x) = 0 then fx_MD_value_b259 0 X else fx_MD_value_b259 1 X) := by
  unfold fx_MD_value
  rw [xn_]
  repeat rw [if_neg (by decide)]
  rw [if_pos rfl]
theorem mv_159 (X : xh_T) (x y z : Int64) : fx_MD_value 159 x y z X = (if 0 ≤ (lg_cmp y x) then fx_MD_value_b275 0 X else fx_MD_value_b275 1 X) := by
  unfold fx_MD_value
  rw [xn_]
  repeat rw [if_neg (by decide)]
  rw [if_pos rfl]
theorem mv_160 (X : xh_T) (x y z : Int64) : fx_MD_value 160 x y z X = (if (lg_cmp y x) ≤ 0 then fx_MD_value_b291 0 X else fx_MD_value_b291 1 X) := by
  unfold fx_MD_value
  rw [xn_]
  repeat rw [if_neg (by decide)]
  rw [if_pos rfl]
theorem mv_161 (X : xh_T) (x y z : Int64) : fx_MD_value 161 x y z X = (if 0 < (lg_cmp y x) then fx_MD_value_b307 0 X else fx_MD_value_b307 1 X) := by
  unfold fx_MD_value
  rw [xn_]
  repeat rw [if_neg (by decide)]
  rw [if_pos rfl]
theorem mv_162 (X : xh_T) (x y z : Int64) : fx_MD_value 162 x y z X = (if (lg_cmp y x) < 0 then fx_MD_value_b323 0 X else fx_MD_value_b323 1 X) := by
  unfold fx_MD_value
  rw [xn_]
  repeat rw [if_neg (by decide)]
  rw [if_pos rfl]
theorem mv_163 (X : xh_T) (x y z : Int64) : fx_MD_value 163 x y z X = (if 0 ≤ (lg_cmp y x) then some (x, X) else some (y, X)) := by
  unfold fx_MD_value
  rw [xn_]
  repeat rw [if_neg (by decide)]
  rw [if_pos rfl]
theorem mv_164 (X : xh_T) (x y z : Int64) : fx_MD_value 164 x y z X = (if 0 ≤ (lg_cmp y x) then some (y, X) else some (x, X)) := by
  unfold fx_MD_value
  rw [xn_]
  repeat rw [if_neg (by decide)]
  rw [if_pos rfl]
theorem mv_165 (X : xh_T) (x y z : Int64) : fx_MD_value 165 x y z X = (if 0 < (lg_cmp y z) then fx_MD_value_b370 X else if 0 ≤ (lg_cmp z x) then fx_MD_value_b370 X else fx_MD_value_b371 1 X) := by
  unfold fx_MD_value
  rw [xn_]
  repeat rw [if_neg (by decide)]
theorem md_cv {X : xh_T} {c : Int32} (hc : c = 139 ∨ c = 140 ∨ c = 143 ∨ c = 144 ∨ c = 145 ∨ c = 146 ∨ c = 147 ∨ c = 148 ∨ c = 154 ∨ c = 155 ∨ c = 156 ∨ c = 158 ∨ c = 159 ∨ c = 160 ∨ c = 161 ∨ c = 162 ∨ c = 163 ∨ c = 164 ∨ c = 165) (x y z : Int64) : fx_MD_value c x y z X = some (cv c x y z, X) := by
  rcases hc with rfl | rfl | rfl | rfl | rfl | rfl | rfl | rfl | rfl | rfl | rfl | rfl | rfl | rfl | rfl | rfl | rfl | rfl | rfl
  · rw [mv_139, cv_139]
  · rw [mv_140, cv_140]
  · rw [mv_143, cv_143]
  · rw [mv_144, cv_144]
    by_cases g : x < 0
    · rw [if_neg (fun k => lc_ge.mp k g), if_pos g]
    · rw [if_pos (lc_ge.mpr g), if_neg g]
  · rw [mv_145, cv_145]
    by_cases g : x = 0
    · rw [if_pos (lc_eq.mpr g), decide_eq_true g]; rfl
    · rw [if_neg (fun k => g (lc_eq.mp k)), decide_eq_false g]; rfl
  · rw [mv_146, cv_146]
    by_cases g : x = 0
    · rw [if_pos (lc_eq.mpr g), decide_eq_false (fun k => k g)]; rfl
    · rw [if_neg (fun k => g (lc_eq.mp k)), decide_eq_true g]; rfl
  · rw [mv_147, cv_147]
  · rw [mv_148, cv_148]
  · rw [mv_154, cv_154]
    by_cases g : x = 0
    · rw [if_pos (lc_eq.mpr g), decide_eq_false (fun k => k.2 g)]; rfl
    · rw [if_neg (fun k => g (lc_eq.mp k))]
      by_cases g2 : y = 0
      · rw [if_pos (lc_eq.mpr g2), decide_eq_false (fun k => k.1 g2)]; rfl
      · rw [if_neg (fun k => g2 (lc_eq.mp k)), decide_eq_true ⟨g2, g⟩]; rfl
  · rw [mv_155, cv_155]
    by_cases g : x = 0
    · rw [if_pos (lc_eq.mpr g)]
      by_cases g2 : y = 0
      · rw [if_pos (lc_eq.mpr g2), decide_eq_false (fun k => k.elim (fun k => k g2) (fun k => k g))]; rfl
      · rw [if_neg (fun k => g2 (lc_eq.mp k)), decide_eq_true (Or.inl g2)]; rfl
    · rw [if_neg (fun k => g (lc_eq.mp k)), decide_eq_true (Or.inr g)]; rfl
  · rw [mv_156, cv_156]
    by_cases g : y = x
    · rw [if_pos (lc_eq.mpr g), decide_eq_true g]; rfl
    · rw [if_neg (fun k => g (lc_eq.mp k)), decide_eq_false g]; rfl
  · rw [mv_158, cv_158]
    by_cases g : y = x
    · rw [if_pos (lc_eq.mpr g), decide_eq_false (fun k => k g)]; rfl
    · rw [if_neg (fun k => g (lc_eq.mp k)), decide_eq_true g]; rfl
  · rw [mv_159, cv_159]
    by_cases g : y < x
    · rw [if_neg (fun k => lc_ge.mp k g), decide_eq_true g]; rfl
    · rw [if_pos (lc_ge.mpr g), decide_eq_false g]; rfl
  · rw [mv_160, cv_160]
    by_cases g : x < y
    · rw [if_neg (fun k => lc_le.mp k g), decide_eq_true g]; rfl
    · rw [if_pos (lc_le.mpr g), decide_eq_false g]; rfl
  · rw [mv_161, cv_161]
    by_cases g : x < y
    · rw [if_pos (lc_gt.mpr g), decide_eq_false (fun k => k g)]; rfl
    · rw [if_neg (fun k => g (lc_gt.mp k)), decide_eq_true g]; rfl
  · rw [mv_162, cv_162]
    by_cases g : y < x
    · rw [if_pos (lc_lt.mpr g), decide_eq_false (fun k => k g)]; rfl
    · rw [if_neg (fun k => g (lc_lt.mp k)), decide_eq_true g]; rfl
  · rw [mv_163, cv_163]
    by_cases g : y < x
    · rw [if_neg (fun k => lc_ge.mp k g), if_pos g]
    · rw [if_pos (lc_ge.mpr g), if_neg g]
  · rw [mv_164, cv_164]
    by_cases g : y < x
    · rw [if_neg (fun k => lc_ge.mp k g), if_pos g]
    · rw [if_pos (lc_ge.mpr g), if_neg g]
  · rw [mv_165, cv_165]
    by_cases g : z < y
    · rw [if_pos (lc_gt.mpr g), decide_eq_false (fun k => k.1 g)]; rfl
    · rw [if_neg (fun k => g (lc_gt.mp k))]
      by_cases g2 : z < x
      · rw [if_neg (fun k => lc_ge.mp k g2), decide_eq_true ⟨g, g2⟩]; rfl
      · rw [if_pos (lc_ge.mpr g2), decide_eq_false (fun k => g2 k.2)]; rfl
theorem cv_1 {c : Int32} (hc : c = 139 ∨ c = 140 ∨ c = 143 ∨ c = 144 ∨ c = 145 ∨ c = 146) (x y z y' z' : Int64) : cv c x y z = cv c x y' z' := by
  rcases hc with rfl | rfl | rfl | rfl | rfl | rfl
  · rw [cv_139, cv_139]
  · rw [cv_140, cv_140]
  · rw [cv_143, cv_143]
  · rw [cv_144, cv_144]
  · rw [cv_145, cv_145]
  · rw [cv_146, cv_146]
theorem cv_2 {c : Int32} (hc : c = 147 ∨ c = 148 ∨ c = 154 ∨ c = 155 ∨ c = 156 ∨ c = 158 ∨ c = 159 ∨ c = 160 ∨ c = 161 ∨ c = 162 ∨ c = 163 ∨ c = 164) (x y z z' : Int64) : cv c x y z = cv c x y z' := by
  rcases hc with rfl | rfl | rfl | rfl | rfl | rfl | rfl | rfl | rfl | rfl | rfl | rfl
  · rw [cv_147, cv_147]
  · rw [cv_148, cv_148]
  · rw [cv_154, cv_154]
  · rw [cv_155, cv_155]
  · rw [cv_156, cv_156]
  · rw [cv_158, cv_158]
  · rw [cv_159, cv_159]
  · rw [cv_160, cv_160]
  · rw [cv_161, cv_161]
  · rw [cv_162, cv_162]
  · rw [cv_163, cv_163]
  · rw [cv_164, cv_164]
def mce (c k : Int32) (v3 v4 : Int64) (Y : xh_T) : Option (Int32 × xh_T) := if c = 157 then (if lg_cmp v3 v4 = 0 then fx_MD_calculate_b84 c k v3 v4 Y else some (9, Y)) else fx_MD_calculate_b84 c k v3 v4 Y
theorem md_calc_b {X : xh_T} {a : st_T} {c : Int32} {n : Nat} (hn : n ≤ 3) {E : Int32 → xh_T → Prop} (hE : cf a n 0 = 0 → ∀ Y, mS Y a → (∀ j, j < n → Y.2.2 215 j = num a j) → fd X Y → pw (mce c (nI n) (Y.2.2 215 0) (Y.2.2 215 1) Y) E) : ∀ (m i fuel : Nat) (Y : xh_T), i + m = n → cf a n 0 = cf a m i → m < fuel → mS Y a → (∀ j, j < i → Y.2.2 215 j = num a j) → fd X Y → pw (fx_MD_calculate_b26 fuel c (nI n) (nI i) Y) (fun r X' => (cf a m i = 0 → E r X') ∧ (¬ cf a m i = 0 → r = cf a m i ∧ mS X' a ∧ fd X X')) := by
  intro m
  induction m with
  | zero =>
    intro i fuel Y hi hcf hf h y1 y2
    obtain ⟨fuel, rfl⟩ : ∃ k, fuel = k + 1 := ⟨fuel - 1, by omega⟩
    rw [fx_MD_calculate_b26, if_pos (nI_le (by omega) (by omega)), show ∀ K : Option (Int32 × xh_T), xh_o 0 3 K = K from fun K => xo_ (i := 0) (by decide) (by decide), xn_, show ∀ K : Option (Int32 × xh_T), xh_o 1 3 K = K from fun K => xo_ (i := 1) (by decide) (by decide), xn_]
    exact pw_m (hE hcf Y h (fun j hj => y1 j (by omega)) y2) (fun r X' q => ⟨fun _ => q, fun z => absurd rfl z⟩)
  | succ m ih =>
    intro i fuel Y hi hcf hf h y1 y2
    obtain ⟨fuel, rfl⟩ : ∃ k, fuel = k + 1 := ⟨fuel - 1, by omega⟩
    rw [fx_MD_calculate_b26, if_neg (nI_ge (by omega) (by omega)), md_take h (by omega), xb_, xn_]
    by_cases g : nf a i = 0
    · rw [if_pos (show nf a i ≤ 0 by rw [g]; decide), if_pos g, xn_, nI_1]
      have e : cf a (m + 1) i = cf a m (i + 1) := by
        show (if nf a i = 0 then _ else _) = _
        rw [if_pos g]
      rw [e]
      refine ih (i + 1) fuel _ (by omega) (hcf.trans e) (by omega) h.l (fun j hj => ?_) (y2.tr fd.l)
      by_cases e2 : j = i
      · rw [e2, hl_s]
      · rw [hl_j _ _ _ e2]; exact y1 j (by omega)
    · have e : cf a (m + 1) i = nf a i := by
        show (if nf a i = 0 then _ else _) = _
        rw [if_neg g]
      rw [if_neg (nf_pos g), if_neg g, e]
      exact pw_some ⟨fun z => absurd z g, fun _ => ⟨rfl, h, y2⟩⟩
/-- the state that operations work on -/
def mR (X : xh_T) (t : tb_T) (a s : st_T) : Prop := mS X a ∧ (X.1 206 6 = nI s.1 ∧ ∀ j, j < s.1 → iM X 210 j (s.2 j)) ∧ mT X t ∧ a.1 + s.1 ≤ 30
def fo (X X' : xh_T) : Prop := X'.2.1 = X.2.1 ∧ (∀ k, k ≠ 206 → k ≠ 209 → k ≠ 210 → X'.1 k = X.1 k) ∧ ∀ j, j ≠ 5 → j ≠ 6 → X'.1 206 j = X.1 206 j
theorem fo.rf {X : xh_T} : fo X X := ⟨rfl, fun _ _ _ _ => rfl, fun _ _ _ => rfl⟩
theorem fo.tr {X X' X'' : xh_T} (h : fo X X') (h' : fo X' X'') : fo X X'' := ⟨h'.1.trans h.1, fun k h1 h2 h3 => (h'.2.1 k h1 h2 h3).trans (h.2.1 k h1 h2 h3), fun j h1 h2 => (h'.2.2 j h1 h2).trans (h.2.2 j h1 h2)⟩
theorem fd.o {X X' : xh_T} (h : fd X X') : fo X X' := ⟨h.1, fun k h1 h2 _ => h.2.1 k h1 h2, fun j h1 _ => h.2.2 j h1⟩
def mo_P (t : tb_T) (X : xh_T) (q : op_T) : Int32 → xh_T → Prop := fun r X' => r = q.1 ∧ mR X' t q.2.1 q.2.2 ∧ fo X X'
theorem mR.d {X X' : xh_T} {t : tb_T} {a a' s : st_T} (h : mR X t a s) (hs : mS X' a') (hf : fd X X') (hn : a'.1 + s.1 ≤ 30) : mR X' t a' s := ⟨hs, ⟨by rw [hf.2.2 6 (by decide)]; exact h.2.1.1, fun j hj => (h.2.1.2 j hj).cp (fun k _ => by rw [hf.2.1 210 (by decide) (by decide)])⟩, h.2.2.1.fd hf, hn⟩
theorem mo_d {X X' : xh_T} {t : tb_T} {a a' s : st_T} {r : Int32} (h : mR X t a s) (hs : mS X' a') (hf : fd X X') (hn : a'.1 + s.1 ≤ 30) : mo_P t X (r, a', s) r X' := ⟨rfl, h.d hs hf hn, hf.o⟩
theorem mo_0 {X : xh_T} {t : tb_T} {a s : st_T} {r : Int32} (h : mR X t a s) : mo_P t X (r, a, s) r X := ⟨rfl, h, fo.rf⟩
theorem md_popx {X : xh_T} {a : st_T} {c : Nat} (h : mS X a) (hc : c ≤ a.1) : pw (fx_MD_pop (nI c) X) (fun _ X' => mS X' (st_pop a c) ∧ fd X X' ∧ X'.2.2 = X.2.2) := by
  obtain ⟨r, X', e, h1, h2⟩ := md_pop h hc
  refine ⟨r, X', e, h1, h2, ?_⟩
  unfold fx_MD_pop at e
  rw [xn_] at e
  have e2 : xh_i X 206 5 (X.1 206 5 - nI c) = X' := congrArg Prod.snd (Option.some.inj e)
  rw [← e2]
  rfl
theorem md_calc {X : xh_T} {t : tb_T} {a s : st_T} (h : mR X t a s) {c : Int32} {n : Nat} (h0 : 0 < n) (hn : n ≤ 3) (hv : c = 157 → n = 2) (hw : ¬ c = 157 → ∀ (Y : xh_T) (y z : Int64), (2 ≤ n → y = num a 1) → (3 ≤ n → z = num a 2) → fx_MD_value c (num a 0) y z Y = some (cv c (num a 0) (num a 1) (num a 2), Y)) : pw (fx_MD_calculate_b23 c (nI n) X) (mo_P t X (op_calc c n a s)) := by
  have h4 := fu_
  have h7 := h.2.2.2
  unfold fx_MD_calculate_b23
  rw [xn_, xn_]
  have key : cf a n 0 = 0 → ∀ Y, mS Y a → (∀ j, j < n → Y.2.2 215 j = num a j) → fd X Y → pw (mce c (nI n) (Y.2.2 215 0) (Y.2.2 215 1) Y) (mo_P t X (op_calc c n a s)) := fun g Y hY y1 y2 => by
    have hle := cf_le g h0
    unfold op_calc mce
    rw [if_pos g, y1 0 h0]
    by_cases g1 : c = 157
    · rw [if_pos g1, if_pos g1, y1 1 (by have := hv g1; omega)]
      by_cases g2 : num a 0 = num a 1
      · rw [if_pos (lc_eq.mpr g2), if_pos g2]
        unfold fx_MD_calculate_b84
        refine pw_b (pw_m (md_pop hY (by omega)) (fun _ Z q => ?_))
        rw [if_pos g1]
        have e := hv g1
        rw [e] at q
        exact pw_some (mo_d h q.1 (y2.tr q.2) (by show a.1 - 2 + s.1 ≤ 30; omega))
      · rw [if_neg (fun z => g2 (lc_eq.mp z)), if_neg g2]
        exact pw_some (mo_d h hY y2 h7)
    · rw [if_neg g1, if_neg g1]
      unfold fx_MD_calculate_b84
      refine pw_b (pw_m (md_popx hY (c := n) (by omega)) (fun _ Z q => ?_))
      rw [if_neg g1, show ∀ K : Option (Int32 × xh_T), xh_o 2 3 K = K from fun K => xo_ (i := 2) (by decide) (by decide), hw g1 Z _ _ (fun k => y1 1 (by omega)) (fun k => by rw [q.2.2]; exact y1 2 (by omega)), xb_]
      refine pw_b (pw_m (md_num q.1 (by show a.1 - n ≤ 31; omega) _) (fun _ W q2 => pw_some (mo_d h q2.1 ((y2.tr q.2.1).tr q2.2) (by show a.1 - n + 1 + s.1 ≤ 30; omega))))
  refine pw_m (md_calc_b hn key n 0 sp_fuel X (by omega) rfl (by omega) h.1 (fun j hj => absurd hj (by omega)) fd.rf) (fun r X' q => ?_)
  by_cases g : cf a n 0 = 0
  · exact q.1 g
  · obtain ⟨k1, k2, k3⟩ := q.2 g
    unfold op_calc
    rw [if_neg g, k1]
    exact mo_d h k2 k3 h7
theorem md_calcs {X : xh_T} {t : tb_T} {a s : st_T} (h : mR X t a s) {c : Int32} (hc : (c = 139 ∨ c = 140 ∨ c = 143 ∨ c = 144 ∨ c = 145 ∨ c = 146) ∨ (c = 147 ∨ c = 148 ∨ c = 154 ∨ c = 155 ∨ c = 156 ∨ c = 158 ∨ c = 159 ∨ c = 160 ∨ c = 161 ∨ c = 162 ∨ c = 163 ∨ c = 164) ∨ c = 157 ∨ c = 165) : pw (fx_MD_calculate c X) (mo_P t X (op_calc c (if 146 < c then (if 164 < c then 3 else 2) else 1) a s)) := by
  unfold fx_MD_calculate
  rcases hc with k | k | k | k
  · have hne : ¬ 146 < c ∧ ¬ c = 157 := by rcases k with rfl | rfl | rfl | rfl | rfl | rfl <;> decide
    rw [if_neg hne.1, if_neg hne.1]
    refine md_calc h (n := 1) (by decide) (by decide) (fun z => absurd z hne.2) (fun _ Y y z _ _ => ?_)
    rw [md_cv (by rcases k with rfl | rfl | rfl | rfl | rfl | rfl <;> decide), cv_1 k]
  · have hne : 146 < c ∧ ¬ c = 157 ∧ ¬ c = 165 ∧ ¬ 164 < c := by rcases k with rfl | rfl | rfl | rfl | rfl | rfl | rfl | rfl | rfl | rfl | rfl | rfl <;> decide
    rw [if_pos hne.1, if_pos hne.1, if_neg hne.2.2.1, if_neg hne.2.2.2]
    refine md_calc h (n := 2) (by decide) (by decide) (fun z => absurd z hne.2.1) (fun _ Y y z h1 _ => ?_)
    rw [md_cv (by rcases k with rfl | rfl | rfl | rfl | rfl | rfl | rfl | rfl | rfl | rfl | rfl | rfl <;> decide), h1 (by decide), cv_2 k]
  · rw [k, if_pos (show (146 : Int32) < 157 by decide), if_neg (show ¬ (157 : Int32) = 165 by decide), if_pos (show (146 : Int32) < 157 by decide), if_neg (show ¬ (164 : Int32) < 157 by decide)]
    exact md_calc h (n := 2) (by decide) (by decide) (fun _ => rfl) (fun z => absurd rfl z)
  · rw [k, if_pos (show (146 : Int32) < 165 by decide), if_pos (show (165 : Int32) = 165 from rfl), if_pos (show (146 : Int32) < 165 by decide), if_pos (show (164 : Int32) < 165 by decide)]
    refine md_calc h (n := 3) (by decide) (by decide) (fun z => absurd z (by decide)) (fun _ Y y z h1 h2 => ?_)
    rw [md_cv (by decide), h1 (by decide), h2 (by decide)]

/-! The class's operations: picks and several signatures -/
theorem it_v_n {f : Nat → Int32} : ∀ (k v : Nat), (∀ i, i < k → ∃ b : Nat, b < 256 ∧ f i = nI b) → ∃ w, it_v f k (lN v) = lN w ∧ w < (v + 1) * 256 ^ k
  | 0, v, _ => ⟨v, rfl, by rw [Nat.pow_zero]; omega⟩
  | k + 1, v, h => by
    obtain ⟨b, hb, e⟩ := h k (by omega)
    obtain ⟨w, e1, h1⟩ := it_v_n k (v * 256 + b) (fun i hi => h i (by omega))
    refine ⟨w, ?_, Nat.lt_of_lt_of_le h1 ?_⟩
    · show it_v f k (lN v * 256 + (f k).toInt64) = lN w
      rw [e, nI_l (by omega), show (256 : Int64) = lN 256 from rfl, lN_mul, lN_add]
      exact e1
    · rw [Nat.pow_succ, Nat.mul_comm (256 ^ k) 256, ← Nat.mul_assoc]
      exact Nat.mul_le_mul_right _ (by omega)
theorem num_it {a : it_T} (h4 : a.1 ≤ 4) (hB : it_B a) : ∃ w, w < 2 ^ 31 ∧ (it_n a = lN w ∨ it_n a = -(lN w)) := by
  unfold it_n
  by_cases g : a.1 = 0
  · rw [if_pos g]; exact ⟨0, by decide, Or.inl rfl⟩
  · rw [if_neg g]
    obtain ⟨b, hb, e⟩ := hB (a.1 - 1) (by omega)
    have e1 : (a.2 (a.1 - 1) &&& 127).toInt64 = lN (b % 128) := by
      rw [e, pk_andN (by omega) 7 (by decide), nI_l (by omega)]
    obtain ⟨w, e2, h2⟩ := it_v_n (f := a.2) (a.1 - 1) (b % 128) (fun i hi => hB i (by omega))
    rw [e1, e2]
    refine ⟨w, Nat.lt_of_lt_of_le h2 ?_, ?_⟩
    · have h3 : (b % 128 + 1) ≤ 128 := by omega
      have h5 : (256 : Nat) ^ (a.1 - 1) ≤ 256 ^ 3 := Nat.pow_le_pow_right (by decide) (by omega)
      exact Nat.le_trans (Nat.mul_le_mul h3 h5) (by decide)
    · by_cases g2 : a.2 (a.1 - 1) < 128
      · rw [if_pos g2]; exact Or.inl rfl
      · rw [if_neg g2]; exact Or.inr rfl
theorem num_st {a : st_T} (hB : st_B a) (k : Nat) : ∃ w, w < 2 ^ 31 ∧ (num a k = lN w ∨ num a k = -(lN w)) := by
  unfold num
  by_cases g : 4 < (st_i a k).1
  · rw [if_pos g]; exact ⟨0, by decide, Or.inl rfl⟩
  · rw [if_neg g]
    refine num_it (by omega) ?_
    unfold st_i
    by_cases g2 : k < a.1
    · rw [if_pos g2]; exact hB _ (by omega)
    · rw [if_neg g2]; exact fun i hi => absurd hi (Nat.not_lt_zero i)
theorem num_pos {a : st_T} (hB : st_B a) {k : Nat} (h : ¬ num a k < 0) : num a k = lN (nn a k) ∧ nn a k < 2 ^ 31 := by
  obtain ⟨w, hw, e⟩ := num_st hB k
  unfold nn
  rcases e with e | e
  · rw [e, lN_toInt hw]; exact ⟨rfl, hw⟩
  · by_cases g : w = 0
    · rw [e, g]; decide
    · exfalso
      apply h
      rw [e, Int64.lt_iff_toInt_lt, show (-(lN w)).toInt = -(w : Int) from Int64.toInt_neg_ofNat_of_le (by omega), Int64.toInt_zero]
      omega
theorem num_le {a : st_T} (hB : st_B a) (k : Nat) : ¬ (2147483647 : Int32).toInt64 < num a k := by
  obtain ⟨w, hw, e⟩ := num_st hB k
  rw [Int64.lt_iff_toInt_lt, Int32.toInt_toInt64, show (2147483647 : Int32).toInt = 2147483647 from rfl]
  rcases e with e | e
  · rw [e, lN_toInt hw]; omega
  · rw [e, show (-(lN w)).toInt = -(w : Int) from Int64.toInt_neg_ofNat_of_le (by omega)]; omega
theorem op_cnt {X : xh_T} {t : tb_T} {a s : st_T} (h : op_R X t a s) {k : Nat} (hk : k < 2 ^ 31) (m : Int32) : fx_OP_countFault (nI k) m X = some (nk a k m.toInt64, X) := by
  obtain ⟨q, e, r⟩ := op_num h hk
  unfold fx_OP_countFault nk
  rw [op_nf h hk, xb_, xn_]
  by_cases g : nf a k = 0
  · rw [if_pos g, if_pos g, e, xb_, r, xb_, xn_]
    by_cases g1 : num a k < 0
    · rw [if_pos (lc_lt.mpr g1), if_pos (Or.inl g1)]; rfl
    · rw [if_neg (fun z => g1 (lc_lt.mp z))]
      by_cases g2 : m.toInt64 < num a k
      · rw [if_neg (fun z => lc_le.mp z g2), if_pos (Or.inr g2)]; rfl
      · rw [if_pos (lc_le.mpr g2), if_neg (fun z => z.elim g1 g2)]
  · rw [if_neg g, if_neg g]
theorem nf_lt {a : st_T} {k : Nat} (g : nf a k = 0) : k < a.1 := by
  unfold nf at g
  by_cases g2 : k < a.1
  · exact g2
  · rw [if_neg g2] at g; exact absurd g (by decide)
theorem op_pickR {X : xh_T} {t : tb_T} {a s : st_T} (h : op_R X t a s) (hB : st_B a) (b : Bool) : pw (fx_OP_pick (b_i b) X) (op_P t X (op_pick b a s)) := by
  have h5 := h.1.2.2.1
  have h7 := h.2.2.2
  obtain ⟨q, e, r⟩ := op_num h (k := 0) (by decide)
  unfold fx_OP_pick op_pick
  rw [show (0 : Int32) = nI 0 from rfl, op_cnt h (by decide), xb_, xn_, ← n0]
  unfold nk
  by_cases g : nf a 0 = 0
  · have hlt := nf_lt g
    rw [if_pos g, if_pos g]
    by_cases g1 : num a 0 < 0
    · rw [if_pos (Or.inl g1), if_neg (by decide), if_pos g1]
      exact pw_some (op_rf h rfl)
    · rw [if_neg (show ¬ (num a 0 < 0 ∨ (2147483647 : Int32).toInt64 < num a 0) from fun z => z.elim g1 (num_le hB 0)), if_pos rfl, if_neg g1, n0, e, xb_, r, xb_, xn_]
      obtain ⟨e1, h1⟩ := num_pos hB g1
      rw [e1, lN_i, is_size h.1, xb_, n1, pk_sub (by omega)]
      by_cases g2 : nn a 0 < a.1 - 1
      · rw [if_pos (nI_lt g2 (by omega)), if_neg (by omega)]
        refine pw_b (pw_m (op_drop h (c := 1) (by omega)) (fun _ Y hy => ?_))
        cases b
        · rw [if_pos (by decide), if_neg (by decide)]
          refine pw_b (pw_m (op_pc hy.1 (k := nn a 0) (by show nn a 0 < a.1 - 1; omega) (by show a.1 - 1 + s.1 + 1 ≤ 30; omega)) (fun _ Z hz => pw_some ⟨rfl, hz.1, hy.2.tr hz.2⟩))
        · rw [if_neg (by decide), if_pos rfl]
          refine pw_b (pw_m (op_raise hy.1 (k := nn a 0) (by show nn a 0 < a.1 - 1; omega)) (fun _ Z hz => pw_some ⟨rfl, hz.1, hy.2.tr hz.2⟩))
      · rw [if_neg (nI_nlt (by omega) (by omega)), if_pos (by omega)]
        exact pw_some (op_rf h rfl)
  · rw [if_neg g, if_neg g, if_neg g]
    exact pw_some (op_rf h rfl)
theorem op_121 {X : xh_T} {t : tb_T} {a s : st_T} (h : op_R X t a s) (hB : st_B a) : pw (fx_OP_operate 121 X) (op_P t X (op_sp t 121 a s)) := by
  rw [show fx_OP_operate 121 X = xh_b (fx_OP_pick (b_i false) X) (fun (r26 : Int32) (X7 : xh_T) => some (r26, X7)) from rfl, show op_sp t 121 a s = op_pick false a s from rfl]
  exact pw_b (pw_m (op_pickR h hB false) (fun r Y hy => pw_some hy))
theorem op_122 {X : xh_T} {t : tb_T} {a s : st_T} (h : op_R X t a s) (hB : st_B a) : pw (fx_OP_operate 122 X) (op_P t X (op_sp t 122 a s)) := by
  rw [show fx_OP_operate 122 X = xh_b (fx_OP_pick (b_i true) X) (fun (r26 : Int32) (X7 : xh_T) => some (r26, X7)) from rfl, show op_sp t 122 a s = op_pick true a s from rfl]
  exact pw_b (pw_m (op_pickR h hB true) (fun r Y hy => pw_some hy))
theorem ag_le (ok : Nat → Nat → Bool) (m : Nat) : ∀ (r k g : Nat), g ≤ m → ag ok m r k g ≤ m
  | 0, _, g, h => h
  | r + 1, k, g, h => by
    unfold ag
    by_cases g1 : m ≤ g
    · rw [if_pos g1]; exact h
    · rw [if_neg g1]
      by_cases g2 : ok g k = true
      · rw [if_pos g2]; exact ag_le ok m r (k + 1) (g + 1) (by omega)
      · rw [if_neg g2]; exact ag_le ok m r (k + 1) g h
theorem op_all_b {X : xh_T} {t : tb_T} {a s : st_T} (h : op_R X t a s) {K m : Nat} (hle : K + m + 3 ≤ a.1) : ∀ (r k g fuel : Nat), k + r = K + 1 → r < fuel → g ≤ m → 1 ≤ k → fx_OP_allSigned_b5 fuel (nI K) (nI m) (nI g) (nI k) X = some (b_i (decide (ag (fun g k => tb_ok t (st_i a (K + 2 + g)) (st_i a k)) m r k g = m)), X) := by
  have h5 := h.1.2.2.1
  have fin : ∀ g, g ≤ m → fx_OP_allSigned_b56 (nI m) (nI g) X = some (b_i (decide (g = m)), X) := fun g hg => by
    unfold fx_OP_allSigned_b56
    by_cases e : g = m
    · rw [if_pos (by rw [e]), decide_eq_true e]; rfl
    · rw [if_neg (fun z => e ((nI_eq (by omega) (by omega)).mp z)), decide_eq_false e]; rfl
  intro r
  induction r with
  | zero =>
    intro k g fuel hk hf hg h1
    obtain ⟨fuel, rfl⟩ : ∃ k, fuel = k + 1 := ⟨fuel - 1, by omega⟩
    rw [fx_OP_allSigned_b5, if_pos (nI_lt (by omega) (by omega)), fin g hg]
    rfl
  | succ r ih =>
    intro k g fuel hk hf hg h1
    obtain ⟨fuel, rfl⟩ : ∃ k, fuel = k + 1 := ⟨fuel - 1, by omega⟩
    rw [fx_OP_allSigned_b5, if_neg (nI_nlt (by omega) (by omega))]
    unfold ag
    by_cases g1 : m ≤ g
    · rw [if_pos (nI_le g1 (by omega)), if_pos g1, fin g hg]
    · rw [if_neg (nI_ge (by omega) (by omega)), if_neg g1, n2, nI_add, nI_add]
      obtain ⟨q0, e0, r0, l0, -⟩ := is_itemk h.1 (k := K + 2 + g) (by omega)
      obtain ⟨q1, e1, r1, l1, -⟩ := is_itemk h.1 (k := k) (by omega)
      rw [← st_i_t (a := a) (k := K + 2 + g) (by omega)] at r0
      rw [← st_i_t (a := a) (k := k) (by omega)] at r1
      rw [e0, xb_, e1, xb_, tb_valid h.2.2.1 r0 r1 l0, xb_]
      cases g2 : tb_ok t (st_i a (K + 2 + g)) (st_i a k)
      · rw [if_pos (by decide), xn_, nI_1, if_neg (by decide)]
        exact ih (k + 1) g fuel (by omega) (by omega) hg (by omega)
      · rw [if_neg (by decide), xn_, xn_, nI_1, nI_1, if_pos rfl]
        exact ih (k + 1) (g + 1) fuel (by omega) (by omega) (by omega) (by omega)
theorem op_174 {X : xh_T} {t : tb_T} {a s : st_T} (h : op_R X t a s) (hB : st_B a) : pw (fx_OP_operate 174 X) (op_P t X (op_sp t 174 a s)) := by
  have h5 := h.1.2.2.1
  have h7 := h.2.2.2
  have h4 := fu_
  have es : op_sp t 174 a s = op_many t a s := by
    unfold op_sp
    repeat rw [if_neg (by decide)]
    rw [if_pos rfl]
  rw [es, show fx_OP_operate 174 X = xh_b (fx_OP_checkSeveralSignatures X) (fun (r18 : Int32) (X5 : xh_T) => some (r18, X5)) from rfl]
  refine pw_b (pw_m (P := op_P t X (op_many t a s)) ?_ (fun r Y hy => pw_some hy))
  unfold fx_OP_checkSeveralSignatures op_many
  rw [show (0 : Int32) = nI 0 from rfl, op_cnt h (by decide), xb_, xn_, ← n0, show ((4 : Int32).toInt64) = 4 from by decide]
  by_cases g : nk a 0 4 = 0
  · rw [if_pos g, if_pos g]
    have gp : nf a 0 = 0 ∧ ¬ num a 0 < 0 ∧ ¬ 4 < num a 0 := by
      unfold nk at g
      by_cases g1 : nf a 0 = 0
      · rw [if_pos g1] at g
        by_cases g2 : num a 0 < 0 ∨ 4 < num a 0
        · rw [if_pos g2] at g; exact absurd g (by decide)
        · exact ⟨g1, fun z => g2 (Or.inl z), fun z => g2 (Or.inr z)⟩
      · rw [if_neg g1] at g; exact absurd g g1
    have hlt := nf_lt gp.1
    obtain ⟨e1, h1⟩ := num_pos hB gp.2.1
    have hK : nn a 0 ≤ 4 := by
      have := gp.2.2
      rw [e1, show (4 : Int64) = lN 4 from rfl, lN_lt (by decide) h1] at this
      omega
    obtain ⟨q, e, r⟩ := op_num h (k := 0) (by decide)
    rw [n0, e, xb_, r, xb_, xn_, ← n0]
    have e1i : (num a 0).toInt32 = nI (nn a 0) := by
      have := congrArg Int64.toInt32 e1
      rw [lN_i] at this
      exact this
    rw [e1i, nI_1, op_cnt h (by omega), xb_, xn_, show (nI (nn a 0)).toInt64 = num a 0 by rw [nI_l (by omega)]; exact e1.symm]
    by_cases g1 : nk a (nn a 0 + 1) (num a 0) = 0
    · rw [if_pos g1, if_pos g1]
      have gq : nf a (nn a 0 + 1) = 0 ∧ ¬ num a (nn a 0 + 1) < 0 ∧ ¬ num a 0 < num a (nn a 0 + 1) := by
        unfold nk at g1
        by_cases g3 : nf a (nn a 0 + 1) = 0
        · rw [if_pos g3] at g1
          by_cases g2 : num a (nn a 0 + 1) < 0 ∨ num a 0 < num a (nn a 0 + 1)
          · rw [if_pos g2] at g1; exact absurd g1 (by decide)
          · exact ⟨g3, fun z => g2 (Or.inl z), fun z => g2 (Or.inr z)⟩
        · rw [if_neg g3] at g1; exact absurd g1 g3
      obtain ⟨e2, h2⟩ := num_pos hB gq.2.1
      obtain ⟨q2, e3, r3⟩ := op_num h (k := nn a 0 + 1) (by omega)
      have e2i : (num a (nn a 0 + 1)).toInt32 = nI (nn a (nn a 0 + 1)) := by
        have := congrArg Int64.toInt32 e2
        rw [lN_i] at this
        exact this
      have hm : nn a (nn a 0 + 1) ≤ nn a 0 := by
        have h3 := gq.2.2
        have h4 : ¬ lN (nn a 0) < lN (nn a (nn a 0 + 1)) := fun z => h3 (by rw [e1, e2]; exact z)
        rw [lN_lt h1 h2] at h4
        omega
      rw [e3, xb_, r3, xb_, xn_, e2i, xn_, n3, nI_add, nI_add, is_size h.1, xb_]
      by_cases g2 : nn a 0 + nn a (nn a 0 + 1) + 3 ≤ a.1
      · rw [if_pos (nI_le g2 (by omega)), if_pos g2]
        unfold fx_OP_allSigned
        rw [xn_, xn_, n0, n1, op_all_b h g2 (nn a 0) 1 0 sp_fuel (by omega) (by omega) (by omega) (by omega), xb_]
        exact pw_b (pw_m (op_answer h g2 (by omega) _) (fun _ Y hy => pw_some ⟨rfl, hy⟩))
      · rw [if_neg (nI_ge (by omega) (by omega)), if_neg g2]
        exact pw_some (op_rf h rfl)
    · rw [if_neg g1, if_neg g1]
      exact pw_some (op_rf h rfl)
  · rw [if_neg g, if_neg g]
    exact pw_some (op_rf h rfl)
/-- every operation of the class -/
theorem op_every {X : xh_T} {t : tb_T} {a s : st_T} (h : op_R X t a s) (hB : st_B a) {c : Int32} (hc : c ∈ op_ks) : pw (fx_OP_operate c X) (op_P t X (op_sp t c a s)) := by
  unfold op_ks at hc
  simp only [List.mem_cons, List.not_mem_nil, or_false] at hc
  rcases hc with rfl | rfl | rfl | rfl | rfl | rfl | rfl | rfl | rfl | rfl | rfl | rfl | rfl | rfl | rfl | rfl | rfl | rfl | rfl | rfl | rfl | rfl | rfl | rfl | rfl | rfl | rfl | rfl | rfl | rfl | rfl | rfl | rfl | rfl | rfl | rfl | rfl | rfl | rfl | rfl | rfl | rfl | rfl | rfl | rfl
  · exact op_97 h
  · exact op_105 h
  · exact op_106 h
  · exact op_107 h
  · exact op_108 h
  · exact op_109 h
  · exact op_110 h
  · exact op_115 h
  · exact op_116 h
  · exact op_117 h
  · exact op_118 h
  · exact op_119 h
  · exact op_120 h
  · exact op_121 h hB
  · exact op_122 h hB
  · exact op_123 h
  · exact op_124 h
  · exact op_125 h
  · exact op_130 h
  · exact op_135 h
  · exact op_136 h
  · exact op_139 h
  · exact op_140 h
  · exact op_143 h
  · exact op_144 h
  · exact op_145 h
  · exact op_146 h
  · exact op_147 h
  · exact op_148 h
  · exact op_154 h
  · exact op_155 h
  · exact op_156 h
  · exact op_157 h
  · exact op_158 h
  · exact op_159 h
  · exact op_160 h
  · exact op_161 h
  · exact op_162 h
  · exact op_163 h
  · exact op_164 h
  · exact op_165 h
  · exact op_169 h
  · exact op_172 h
  · exact op_173 h
  · exact op_174 h hB

/-! The other side: several signatures -/
theorem ag_full (ok : Nat → Nat → Bool) {m g : Nat} (h : m ≤ g) : ∀ r k, ag ok m r k g = g
  | 0, _ => rfl
  | r + 1, k => by unfold ag; rw [if_pos h]
def mmE (X : xh_T) (a : st_T) (n : Nat) (v : Int64) : Int32 → xh_T → Prop := fun r X' => r = 0 ∧ mS X' (st_push (st_pop a n) (it_e v)) ∧ fd X X'
theorem md_many_e {X : xh_T} {a : st_T} (h : mS X a) {K M : Nat} (hn : 3 + K + M ≤ a.1) (f : Bool) : pw (xh_b (fx_MD_pop ((3 + nI K) + nI M) X) (fun (_ : Unit) (X3 : xh_T) => if b_i f = 0 then fx_MD_many_b210 0 X3 else fx_MD_many_b210 1 X3)) (mmE X a (3 + K + M) (b_l f)) := by
  have h2 := h.2.1
  rw [n3, nI_add, nI_add]
  refine pw_b (pw_m (md_pop h hn) (fun _ Z q => ?_))
  have fin : ∀ v : Int64, pw (fx_MD_many_b210 v Z) (mmE X a (3 + K + M) v) := fun v => by
    unfold fx_MD_many_b210
    exact pw_b (pw_m (md_num q.1 (by show a.1 - (3 + K + M) ≤ 31; omega) v) (fun _ W q2 => pw_some ⟨rfl, q2.1, q.2.tr q2.2⟩))
  cases f
  · rw [if_pos (by decide)]; exact fin 0
  · rw [if_neg (by decide)]; exact fin 1
theorem md_many_dead {X : xh_T} {a : st_T} (h : mS X a) {K M : Nat} (hn : 3 + K + M ≤ a.1) : ∀ (m g k fuel : Nat), g + m = M → K < k → k + m ≤ 1000 → m < fuel → pw (fx_MD_many_b133 fuel (nI K) (nI M) (nI k) 0 (nI g) X) (mmE X a (3 + K + M) (b_l false)) := by
  have h2 := h.2.1
  have h4 := fu_
  intro m
  induction m with
  | zero =>
    intro g k fuel hg hk hb hf
    obtain ⟨fuel, rfl⟩ : ∃ k, fuel = k + 1 := ⟨fuel - 1, by omega⟩
    rw [fx_MD_many_b133, if_pos (nI_le (by omega) (by omega))]
    exact md_many_e h hn false
  | succ m ih =>
    intro g k fuel hg hk hb hf
    obtain ⟨fuel, rfl⟩ : ∃ k, fuel = k + 1 := ⟨fuel - 1, by omega⟩
    obtain ⟨f2, hf2⟩ : ∃ f, sp_fuel = f + 1 := ⟨sp_fuel - 1, by omega⟩
    rw [fx_MD_many_b133, if_neg (nI_ge (by omega) (by omega)), hf2, fx_MD_many_b139, if_pos (nI_lt hk (by omega)), fx_MD_many_b169, if_neg (nI_ge hk (by omega)), xn_, fx_MD_many_b178, xn_, xn_, nI_1, nI_1]
    exact ih (g + 1) (k + 1) fuel (by omega) (by omega) (by omega) (by omega)
theorem md_many_in {X : xh_T} {a : st_T} {t : tb_T} (h : mS X a) (ht : mT X t) (hB : st_B a) {K M g : Nat} (hn : 3 + K + M ≤ a.1) (hg : g < M) (lp : Int32 → Int32 → Int32 → Int32 → Int32 → xh_T → Option (Int32 × xh_T)) {P : Int32 → xh_T → Prop} : ∀ (r k fuel : Nat), r + k = K + 1 → r < fuel →
    (∀ k', k ≤ k' → k' ≤ K → ag (fun g k => tb_ok t (st_i a (K + 2 + g)) (st_i a k)) M r k g = ag (fun g k => tb_ok t (st_i a (K + 2 + g)) (st_i a k)) M (K - k') (k' + 1) (g + 1) → pw (lp (nI K) (nI M) (nI (k' + 1)) 1 (nI (g + 1)) X) P) →
    (ag (fun g k => tb_ok t (st_i a (K + 2 + g)) (st_i a k)) M r k g = g → pw (lp (nI K) (nI M) (nI (K + 2)) 0 (nI (g + 1)) X) P) →
    pw (fx_MD_many_b139 lp fuel (nI K) (nI M) (nI k) 1 (nI g) X) P := by
  have h2 := h.2.1
  intro r
  induction r with
  | zero =>
    intro k fuel hk hf h5 h6
    obtain ⟨fuel, rfl⟩ : ∃ k, fuel = k + 1 := ⟨fuel - 1, by omega⟩
    rw [fx_MD_many_b139, if_pos (nI_lt (by omega) (by omega)), fx_MD_many_b169, if_neg (nI_ge (by omega) (by omega)), xn_, fx_MD_many_b178, xn_, xn_, nI_1, nI_1, show k + 1 = K + 2 by omega]
    exact h6 rfl
  | succ r ih =>
    intro k fuel hk hf h5 h6
    obtain ⟨fuel, rfl⟩ : ∃ k, fuel = k + 1 := ⟨fuel - 1, by omega⟩
    rw [fx_MD_many_b139, if_neg (nI_nlt (by omega) (by omega)), n2, nI_add, nI_add, show 2 + K + g = K + 2 + g by omega, md_valid h ht (by omega) (by omega) (st_B_i hB _), xb_]
    cases e : tb_ok t (st_i a (K + 2 + g)) (st_i a k)
    · have e2 : ag (fun g k => tb_ok t (st_i a (K + 2 + g)) (st_i a k)) M (r + 1) k g = ag (fun g k => tb_ok t (st_i a (K + 2 + g)) (st_i a k)) M r (k + 1) g := by
        show (if M ≤ g then g else if tb_ok t (st_i a (K + 2 + g)) (st_i a k) = true then _ else _) = _
        rw [if_neg (by omega), if_neg (by rw [e]; decide)]
      rw [if_pos (by decide), xn_, nI_1]
      rw [e2] at h5 h6
      exact ih (k + 1) fuel (by omega) (by omega) (fun k' h7 h8 h9 => h5 k' (by omega) h8 h9) h6
    · have e2 : ag (fun g k => tb_ok t (st_i a (K + 2 + g)) (st_i a k)) M (r + 1) k g = ag (fun g k => tb_ok t (st_i a (K + 2 + g)) (st_i a k)) M (K - k) (k + 1) (g + 1) := by
        show (if M ≤ g then g else if tb_ok t (st_i a (K + 2 + g)) (st_i a k) = true then ag _ M r (k + 1) (g + 1) else _) = _
        rw [if_neg (by omega), if_pos e, show K - k = r by omega]
      rw [if_neg (by decide), fx_MD_many_b169, if_pos (nI_le (by omega) (by omega)), fx_MD_many_b178, xn_, xn_, nI_1, nI_1]
      exact h5 k (Nat.le_refl k) (by omega) e2
theorem md_many_b {X : xh_T} {a : st_T} {t : tb_T} (h : mS X a) (ht : mT X t) (hB : st_B a) {K M : Nat} (hn : 3 + K + M ≤ a.1) : ∀ (m g k fuel : Nat), g + m = M → k ≤ K + 1 → m < fuel → pw (fx_MD_many_b133 fuel (nI K) (nI M) (nI k) 1 (nI g) X) (mmE X a (3 + K + M) (b_l (decide (ag (fun g k => tb_ok t (st_i a (K + 2 + g)) (st_i a k)) M (K + 1 - k) k g = M)))) := by
  have h2 := h.2.1
  have h4 := fu_
  intro m
  induction m with
  | zero =>
    intro g k fuel hg hk hf
    obtain ⟨fuel, rfl⟩ : ∃ k, fuel = k + 1 := ⟨fuel - 1, by omega⟩
    rw [fx_MD_many_b133, if_pos (nI_le (by omega) (by omega)), ag_full _ (show M ≤ g by omega), decide_eq_true (show g = M by omega)]
    exact md_many_e h hn true
  | succ m ih =>
    intro g k fuel hg hk hf
    obtain ⟨fuel, rfl⟩ : ∃ k, fuel = k + 1 := ⟨fuel - 1, by omega⟩
    rw [fx_MD_many_b133, if_neg (nI_ge (by omega) (by omega))]
    refine md_many_in h ht hB hn (by omega) _ (K + 1 - k) k sp_fuel (by omega) (by omega) (fun k' h5 h6 h7 => ?_) (fun h7 => ?_)
    · rw [h7]
      have := ih (g + 1) (k' + 1) fuel (by omega) (by omega) (by omega)
      rw [show K + 1 - (k' + 1) = K - k' by omega] at this
      exact this
    · rw [h7, decide_eq_false (show ¬ g = M by omega)]
      exact md_many_dead h hn m (g + 1) (K + 2) fuel (by omega) (by omega) (by omega) (by omega)
theorem nk_lN {a : st_T} (hB : st_B a) {k : Nat} (h : ¬ num a k < 0) : (num a k).toInt32 = nI (nn a k) ∧ nn a k < 2 ^ 31 := by
  obtain ⟨e, h1⟩ := num_pos hB h
  exact ⟨by rw [e]; exact lN_i _, h1⟩
theorem md_many {X : xh_T} {t : tb_T} {a s : st_T} (h : mR X t a s) (hB : st_B a) : pw (fx_MD_many X) (mo_P t X (op_many t a s)) := by
  have h4 := fu_
  have h7 := h.2.2.2
  have z3 : ∀ K : Option (Int32 × xh_T), xh_o 0 3 K = K := fun K => xo_ (i := 0) (by decide) (by decide)
  have zc : (0 : Int32).toNatClampNeg = 0 := rfl
  unfold fx_MD_many op_many
  rw [show fx_MD_take 0 X = _ from md_take h.1 (k := 0) (by decide), xb_, xn_]
  by_cases g : nf a 0 = 0
  · rw [if_pos g, g, if_pos (by decide), z3, zc, hl_s]
    have e0 : nk a 0 4 = if num a 0 < 0 ∨ 4 < num a 0 then 13 else 0 := by unfold nk; rw [if_pos g]
    by_cases g1 : num a 0 < 0
    · rw [if_pos (lc_lt.mpr g1), e0, if_pos (Or.inl g1), if_neg (by decide)]
      exact pw_some (mo_d h h.1.l fd.l h7)
    · rw [if_neg (fun z => g1 (lc_lt.mp z)), z3]
      by_cases g2 : 4 < num a 0
      · rw [if_neg (fun z => lc_le.mp z g2), e0, if_pos (Or.inr g2), if_neg (by decide)]
        exact pw_some (mo_d h h.1.l fd.l h7)
      · have e0' : nk a 0 4 = 0 := by rw [e0, if_neg (fun z => z.elim g1 g2)]
        rw [if_pos (lc_le.mpr g2), z3, xn_, if_pos e0', (nk_lN hB g1).1]
        have hK := (num_pos hB g1).1
        have hK4 : nn a 0 ≤ 4 := by
          refine Classical.byContradiction (fun z => g2 ?_)
          rw [hK]
          exact (lN_lt (a := 4) (by decide) (num_pos hB g1).2).mpr (by omega)
        rw [hl_1, h.1.1, n2, nI_add]
        by_cases g3 : 2 + nn a 0 ≤ a.1
        · rw [if_pos (nI_le g3 (by omega)), n1, nI_add, show (0 : Int32) = nI 0 from rfl, md_val h.1.l (by omega) (by decide)]
          have e1 : nk a (nn a 0 + 1) (num a 0) = if 4 < (st_i a (1 + nn a 0)).1 then 12 else if num a (nn a 0 + 1) < 0 ∨ num a 0 < num a (nn a 0 + 1) then 13 else 0 := by
            unfold nk nf
            rw [if_pos (show nn a 0 + 1 < a.1 by omega), show nn a 0 + 1 = 1 + nn a 0 by omega]
            by_cases g4 : 4 < (st_i a (1 + nn a 0)).1
            · rw [if_pos g4, if_neg (by decide), if_pos g4]
            · rw [if_neg g4, if_pos rfl, if_neg g4]
          by_cases g4 : 4 < (st_i a (1 + nn a 0)).1
          · rw [if_pos g4, xb_, xn_, if_neg (by decide), e1, if_pos g4, if_neg (by decide)]
            exact pw_some (mo_d h h.1.l fd.l h7)
          · have e2 : it_n (st_i a (1 + nn a 0)) = num a (nn a 0 + 1) := by
              unfold num
              rw [show nn a 0 + 1 = 1 + nn a 0 by omega, if_neg g4]
            rw [if_neg g4] at e1
            rw [if_neg g4, xb_, xn_, if_pos (by decide), e2]
            have z3' : ∀ K : Option (Int32 × xh_T), xh_o (nI 0) 3 K = K := z3
            have zc' : (nI 0).toNatClampNeg = 0 := rfl
            rw [z3', hl_s]
            by_cases g5 : num a (nn a 0 + 1) < 0
            · rw [if_pos (show lg_cmp (num a (nn a 0 + 1)) 0 < nI 0 from lc_lt.mpr g5), e1, if_pos (Or.inl g5), if_neg (by decide)]
              exact pw_some (mo_d h h.1.l.l (fd.l.tr fd.l) h7)
            · rw [if_neg (show ¬ lg_cmp (num a (nn a 0 + 1)) 0 < nI 0 from fun z => g5 (lc_lt.mp z)), z3', nI_l (by omega), ← hK]
              by_cases g6 : num a 0 < num a (nn a 0 + 1)
              · rw [if_neg (show ¬ lg_cmp (num a (nn a 0 + 1)) (num a 0) ≤ nI 0 from fun z => lc_le.mp z g6), e1, if_pos (Or.inr g6), if_neg (by decide)]
                exact pw_some (mo_d h h.1.l.l (fd.l.tr fd.l) h7)
              · have e1' : nk a (nn a 0 + 1) (num a 0) = nI 0 := by rw [e1, if_neg (fun z => z.elim g5 g6)]; rfl
                rw [if_pos (show lg_cmp (num a (nn a 0 + 1)) (num a 0) ≤ nI 0 from lc_le.mpr g6), z3', xn_, if_pos e1', (nk_lN hB g5).1, hl_1, hl_1, h.1.1, n3, nI_add, nI_add]
                have hM := (num_pos hB g5).1
                have hMK : nn a (nn a 0 + 1) ≤ nn a 0 := by
                  refine Classical.byContradiction (fun z => g6 ?_)
                  have k1 := (lN_lt (num_pos hB g1).2 (num_pos hB g5).2).mpr (show nn a 0 < nn a (nn a 0 + 1) by omega)
                  rw [← hM, ← hK] at k1
                  exact k1
                by_cases g8 : 3 + nn a 0 + nn a (nn a 0 + 1) ≤ a.1
                · rw [if_pos (nI_le g8 (by omega)), if_pos (show nn a 0 + nn a (nn a 0 + 1) + 3 ≤ a.1 by omega), xn_, xn_, xn_]
                  refine pw_m (md_many_b (h.1.l.l) (h.2.2.1) hB g8 (nn a (nn a 0 + 1)) 0 1 sp_fuel (by omega) (by omega) (by omega)) (fun r X' q => ?_)
                  obtain ⟨q1, q2, q3⟩ := q
                  rw [show 3 + nn a 0 + nn a (nn a 0 + 1) = nn a 0 + nn a (nn a 0 + 1) + 3 by omega, show nn a 0 + 1 - 1 = nn a 0 by omega] at q2
                  rw [q1]
                  exact mo_d h q2 ((fd.l.tr fd.l).tr q3) (by show a.1 - (nn a 0 + nn a (nn a 0 + 1) + 3) + 1 + s.1 ≤ 30; omega)
                · rw [if_neg (nI_ge (by omega) (by omega)), if_neg (show ¬ nn a 0 + nn a (nn a 0 + 1) + 3 ≤ a.1 by omega)]
                  exact pw_some (mo_d h h.1.l.l (fd.l.tr fd.l) h7)
        · have e1 : nk a (nn a 0 + 1) (num a 0) = 11 := by
            unfold nk nf
            rw [if_neg (show ¬ nn a 0 + 1 < a.1 by omega), if_neg (by decide)]
          rw [if_neg (nI_ge (by omega) (by omega)), e1, if_neg (by decide)]
          exact pw_some (mo_d h h.1.l fd.l h7)
  · have e0 : nk a 0 4 = nf a 0 := by unfold nk; rw [if_neg g]
    rw [if_neg g, if_neg (nf_pos g), e0, if_neg g]
    exact pw_some (mo_d h h.1 fd.rf h7)

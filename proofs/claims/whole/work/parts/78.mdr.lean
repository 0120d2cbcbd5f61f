/-! The other side: one operation met -/
def mB (X : xh_T) (b : br_T) : Prop := X.1 206 8 = nI b.1 ∧ b.1 ≤ 8 ∧ ∀ i, i < b.1 → X.1 212 i = b_i (b.2 i)
theorem mB.keep {X X' : xh_T} {b : br_T} (h : mB X b) (h1 : X'.1 206 8 = X.1 206 8) (h2 : X'.1 212 = X.1 212) : mB X' b := ⟨h1.trans h.1, h.2.1, fun i hi => by rw [h2]; exact h.2.2 i hi⟩
def mM (X : xh_T) (t : tb_T) (R : rs_T) : Prop := mR X t R.1 R.2.1 ∧ mB X R.2.2.1 ∧ X.1 206 9 = nI R.2.2.2.1 ∧ R.2.2.2.1 ≤ 25 ∧ X.1 206 17 = nI R.2.2.2.2
def fm (X X' : xh_T) : Prop := X'.2.1 = X.2.1 ∧ (∀ k, k ≠ 206 → k ≠ 209 → k ≠ 210 → k ≠ 212 → X'.1 k = X.1 k) ∧ ∀ j, 13 ≤ j → j ≤ 15 → X'.1 206 j = X.1 206 j
theorem fm.rf {X : xh_T} : fm X X := ⟨rfl, fun _ _ _ _ _ => rfl, fun _ _ _ => rfl⟩
theorem fm.tr {X X' X'' : xh_T} (h : fm X X') (h' : fm X' X'') : fm X X'' := ⟨h'.1.trans h.1, fun k h1 h2 h3 h4 => (h'.2.1 k h1 h2 h3 h4).trans (h.2.1 k h1 h2 h3 h4), fun j h1 h2 => (h'.2.2 j h1 h2).trans (h.2.2 j h1 h2)⟩
theorem fo.m {X X' : xh_T} (h : fo X X') : fm X X' := ⟨h.1, fun k h1 h2 h3 _ => h.2.1 k h1 h2 h3, fun j h1 _ => h.2.2 j (by omega) (by omega)⟩
theorem fm.i {X : xh_T} {j : Nat} {v : Int32} (hj : j < 13 ∨ 15 < j) : fm X (xh_i X 206 j v) := ⟨rfl, fun k h1 _ _ _ => hi_k _ _ _ h1, fun i h1 h2 => hi_j _ _ _ (by omega)⟩
theorem fm.i2 {X : xh_T} {j : Nat} {v : Int32} : fm X (xh_i X 212 j v) := ⟨rfl, fun k _ _ _ h4 => hi_k _ _ _ h4, fun i h1 h2 => by rw [hi_k _ _ _ (by decide)]⟩
theorem mR.i {X : xh_T} {t : tb_T} {a s : st_T} {j : Nat} {v : Int32} (h : mR X t a s) (hj : j ≠ 5 ∧ j ≠ 6 ∧ j ≠ 13) : mR (xh_i X 206 j v) t a s := ⟨h.1.keep (hi_j _ _ _ (by omega)) (hi_k _ _ _ (by decide)), ⟨by rw [hi_j _ _ _ (by omega)]; exact h.2.1.1, fun i hi => (h.2.1.2 i hi).cp (fun k _ => by rw [hi_k _ _ _ (by decide : 210 ≠ 206)])⟩, h.2.2.1.keep (hi_j _ _ _ (by omega)) (hi_k _ _ _ (by decide)) (hi_k _ _ _ (by decide)), h.2.2.2⟩
theorem mR.i2 {X : xh_T} {t : tb_T} {a s : st_T} {j : Nat} {v : Int32} (h : mR X t a s) : mR (xh_i X 212 j v) t a s := ⟨h.1.keep (by rw [hi_k _ _ _ (by decide : 206 ≠ 212)]) (hi_k _ _ _ (by decide)), ⟨by rw [hi_k _ _ _ (by decide : 206 ≠ 212)]; exact h.2.1.1, fun i hi => (h.2.1.2 i hi).cp (fun k _ => by rw [hi_k _ _ _ (by decide : 210 ≠ 212)])⟩, h.2.2.1.keep (by rw [hi_k _ _ _ (by decide : 206 ≠ 212)]) (hi_k _ _ _ (by decide)) (hi_k _ _ _ (by decide)), h.2.2.2⟩
theorem mM.i {X : xh_T} {t : tb_T} {R : rs_T} {j : Nat} {v : Int32} (h : mM X t R) (hj : j = 10 ∨ j = 14 ∨ j = 15 ∨ j = 16) : mM (xh_i X 206 j v) t R := ⟨h.1.i (by omega), h.2.1.keep (hi_j _ _ _ (by omega)) (hi_k _ _ _ (by decide)), by rw [hi_j _ _ _ (by omega)]; exact h.2.2.1, h.2.2.2.1, by rw [hi_j _ _ _ (by omega)]; exact h.2.2.2.2⟩
theorem mM.o {X X' : xh_T} {t : tb_T} {R : rs_T} {a s : st_T} (h : mM X t R) (ho : mR X' t a s) (hf : fo X X') : mM X' t (a, s, R.2.2) := ⟨ho, h.2.1.keep (hf.2.2 8 (by decide) (by decide)) (hf.2.1 212 (by decide) (by decide) (by decide)), by rw [hf.2.2 9 (by decide) (by decide)]; exact h.2.2.1, h.2.2.2.1, by rw [hf.2.2 17 (by decide) (by decide)]; exact h.2.2.2.2⟩
theorem mM.done {X : xh_T} {t : tb_T} {R : rs_T} (h : mM X t R) : mM (xh_i X 206 17 (X.1 206 17 + 1)) t (R.1, R.2.1, R.2.2.1, R.2.2.2.1, R.2.2.2.2 + 1) := ⟨h.1.i (by decide), h.2.1.keep (hi_j _ _ _ (by decide)) (hi_k _ _ _ (by decide)), by rw [hi_j _ _ _ (by decide : 9 ≠ 17)]; exact h.2.2.1, h.2.2.2.1, by rw [hi_s, h.2.2.2.2, nI_1]⟩
theorem mM.met {X : xh_T} {t : tb_T} {R : rs_T} (h : mM X t R) (hm : R.2.2.2.1 < 25) : mM (xh_i X 206 9 (X.1 206 9 + 1)) t (r_met R) := ⟨h.1.i (by decide), h.2.1.keep (hi_j _ _ _ (by decide)) (hi_k _ _ _ (by decide)), by rw [hi_s, h.2.2.1, nI_1]; rfl, hm, by rw [hi_j _ _ _ (by decide : 17 ≠ 9)]; exact h.2.2.2.2⟩
theorem md_live_b {X : xh_T} {b : br_T} (h : mB X b) : ∀ (m i fuel : Nat), i + m = b.1 → m < fuel → (∀ j, j < i → b.2 j = true) → fx_MD_live_b2 fuel (nI i) X = some (b_i (br_all b), X) := by
  have h5 := h.2.1
  intro m
  induction m with
  | zero =>
    intro i fuel hi hf hj
    obtain ⟨fuel, rfl⟩ : ∃ k, fuel = k + 1 := ⟨fuel - 1, by omega⟩
    rw [fx_MD_live_b2, h.1, if_pos (nI_le (by omega) (by omega))]
    unfold b_i
    rw [if_pos (br_all_iff.mpr (fun j h1 => hj j (by omega)))]
  | succ m ih =>
    intro i fuel hi hf hj
    obtain ⟨fuel, rfl⟩ : ∃ k, fuel = k + 1 := ⟨fuel - 1, by omega⟩
    rw [fx_MD_live_b2, h.1, if_neg (nI_ge (by omega) (by omega)), xo_ (by omega) (by decide), nI_clamp (by omega), h.2.2 i (by omega)]
    cases g : b.2 i
    · rw [if_pos (by decide)]
      unfold b_i
      rw [if_neg]
      intro k
      have := br_all_iff.mp k i (by omega)
      rw [g] at this
      cases this
    · rw [if_neg (by decide), xn_, nI_1]
      refine ih (i + 1) fuel (by omega) (by omega) (fun j h1 => ?_)
      by_cases e : j = i
      · rw [e]; exact g
      · exact hj j (by omega)
theorem md_live {X : xh_T} {b : br_T} (h : mB X b) : fx_MD_live X = some (b_i (br_all b), X) := by
  have h5 := h.2.1
  have h4 := fu_
  unfold fx_MD_live
  rw [xn_]
  exact md_live_b h b.1 0 sp_fuel (by omega) (by omega) (fun j hj => absurd hj (by omega))
-- which bytes are known
def kd5 (c : Int32) : Bool := if c = 169 then true else if c < 172 then false else if 174 < c then false else true
def kd4 (c : Int32) : Bool := if c < 154 then kd5 c else if c ≤ 165 then true else kd5 c
def kd3 (c : Int32) : Bool := if c = 130 then true else if c = 135 then true else if c = 136 then true else if c = 139 then true else if c = 140 then true else if c < 143 then kd4 c else if 148 < c then kd4 c else true
def kd2 (c : Int32) : Bool := if c < 115 then kd3 c else if 125 < c then kd3 c else true
def kd1 (c : Int32) : Bool := if c = 97 then true else if c = 99 then true else if c = 100 then true else if c < 103 then kd2 c else if c ≤ 110 then true else kd2 c
theorem kd_ok : ∀ n, n < 256 → kd1 (nI n) = kn (nI n) := by decide +kernel
theorem md_known {X : xh_T} {n : Nat} (hn : n < 256) : fx_MD_known (nI n) X = some (b_i (kn (nI n)), X) := by
  rw [← kd_ok n hn]
  have e0 : fx_MD_known_b130 X = some (b_i true, X) := rfl
  have e5 : ∀ c, fx_MD_known_b109 c X = some (b_i (kd5 c), X) := fun c => by
    unfold fx_MD_known_b109 kd5
    simp only [k_ite, e0]
    rfl
  have e4 : ∀ c, fx_MD_known_b95 c X = some (b_i (kd4 c), X) := fun c => by
    unfold fx_MD_known_b95 kd4
    simp only [k_ite, e5, e0]
  have e3 : ∀ c, fx_MD_known_b44 c X = some (b_i (kd3 c), X) := fun c => by
    unfold fx_MD_known_b44 kd3
    simp only [k_ite, e4]
    rfl
  have e2 : ∀ c, fx_MD_known_b30 c X = some (b_i (kd2 c), X) := fun c => by
    unfold fx_MD_known_b30 kd2
    simp only [k_ite, e3]
    rfl
  unfold fx_MD_known kd1
  simp only [k_ite, e2]
  rfl
def mm_P (t : tb_T) (X : xh_T) (q : Int32 × rs_T) : Int32 → xh_T → Prop := fun r X' => r = q.1 ∧ mM X' t q.2 ∧ fm X X' ∧ X'.1 206 10 = X.1 206 10
theorem mm_fin {X X' : xh_T} {t : tb_T} {q : Int32 × rs_T} {r : Int32} (h : mm_P t X q r X') : pw (fx_MD_operate_b193 r X') (mm_P t X (r_done q.1 q.2)) := by
  obtain ⟨rfl, h1, h2, h3⟩ := h
  unfold fx_MD_operate_b193 r_done
  by_cases g : q.1 = 0
  · rw [if_pos g, if_pos g, xn_]
    exact pw_some ⟨rfl, h1.done, h2.tr (fm.i (by decide)), by rw [hi_j _ _ _ (by decide : 10 ≠ 17)]; exact h3⟩
  · rw [if_neg g, if_neg g]
    exact pw_some ⟨rfl, h1, h2, h3⟩
theorem md_58 {X : xh_T} {t : tb_T} {R : rs_T} (h : mM X t R) (hb : R.2.2.1.1 < 8) (c : Bool) : pw (fx_MD_branch_b58 (b_i c) X) (mm_P t X (0, R.1, R.2.1, br_open R.2.2.1 c, R.2.2.2)) := by
  unfold fx_MD_branch_b58
  rw [h.2.1.1, xo_ hb (by decide), xn_, xn_, nI_clamp (by omega), br_nar, hi_k _ _ _ (by decide : 206 ≠ 212), h.2.1.1, nI_1]
  refine pw_some ⟨rfl, ⟨h.1.i2.i (by decide), ⟨hi_s _ _ _ _, hb, fun i hi => ?_⟩, ?_, h.2.2.2.1, ?_⟩, fm.i2.tr (fm.i (by decide)), ?_⟩
  · have hi : i < R.2.2.1.1 + 1 := hi
    rw [hi_k _ _ _ (by decide : 212 ≠ 206)]
    show _ = b_i (va_up R.2.2.1.2 R.2.2.1.1 c i)
    by_cases e : i = R.2.2.1.1
    · rw [e, hi_s, va_up_self]
    · rw [hi_j _ _ _ e, va_up_ne _ _ e]; exact h.2.1.2.2 i (by omega)
  · rw [hi_j _ _ _ (by decide : 9 ≠ 8), hi_k _ _ _ (by decide : 206 ≠ 212)]; exact h.2.2.1
  · rw [hi_j _ _ _ (by decide : 17 ≠ 8), hi_k _ _ _ (by decide : 206 ≠ 212)]; exact h.2.2.2.2
  · rw [hi_j _ _ _ (by decide : 10 ≠ 8), hi_k _ _ _ (by decide : 206 ≠ 212)]
theorem md_branch {X : xh_T} {t : tb_T} {R : rs_T} (h : mM X t R) (c : Int32) (b : Bool) (hb : b = decide (c = 99)) : pw (fx_MD_branch c (b_i (br_all R.2.2.1)) X) (mm_P t X (r_open b R)) := by
  have h5 := h.2.1.2.1
  have h7 := h.1.2.2.2
  unfold fx_MD_branch r_open
  rw [h.2.1.1, n8]
  by_cases g : R.2.2.1.1 = 8
  · rw [if_pos (by rw [g]), if_pos g]
    exact pw_some ⟨rfl, h, fm.rf, rfl⟩
  · rw [if_neg (fun z => g ((nI_eq (by omega) (by decide)).mp z)), if_neg g, xn_]
    cases g1 : br_all R.2.2.1
    · rw [if_pos (by decide), if_neg (by decide)]
      exact md_58 h (by omega) false
    · rw [if_neg (by decide), if_pos rfl, h.1.1.1]
      by_cases g2 : R.1.1 = 0
      · rw [if_pos (by rw [g2]; rfl), if_pos g2]
        exact pw_some ⟨rfl, h, fm.rf, rfl⟩
      · rw [if_neg (nI_ne0 (by omega) (by omega)), if_neg g2, show fx_MD_isTrue 0 X = _ from md_true h.1.1 (k := 0) (by omega), xb_]
        have k52 : ∀ d : Bool, pw (fx_MD_branch_b52 (b_i d) X) (mm_P t X (0, st_pop R.1 1, R.2.1, br_open R.2.2.1 d, R.2.2.2)) := fun d => by
          unfold fx_MD_branch_b52
          rw [xn_]
          refine pw_b (pw_m (show pw (fx_MD_pop (nI 1) X) _ from md_pop h.1.1 (by omega)) (fun _ Y q => ?_))
          have m1 : mM Y t (st_pop R.1 1, R.2.1, R.2.2) := h.o (h.1.d q.1 q.2 (by show R.1.1 - 1 + R.2.1.1 ≤ 30; omega)) q.2.o
          refine pw_m (md_58 m1 (by show R.2.2.1.1 < 8; omega) d) (fun r Z p => ⟨p.1, p.2.1, q.2.o.m.tr p.2.2.1, by rw [p.2.2.2, q.2.2.2 10 (by decide)]⟩)
        have k44 : pw (fx_MD_branch_b44 (b_i b) (it_t (st_i R.1 0)) X) (mm_P t X (0, st_pop R.1 1, R.2.1, br_open R.2.2.1 (decide (it_t (st_i R.1 0) = b_i b)), R.2.2.2)) := by
          unfold fx_MD_branch_b44
          by_cases g3 : it_t (st_i R.1 0) = b_i b
          · rw [if_pos g3, decide_eq_true g3]; exact k52 true
          · rw [if_neg g3, decide_eq_false g3]; exact k52 false
        by_cases g4 : c = 99
        · rw [if_pos g4]
          rw [decide_eq_true g4] at hb
          rw [hb] at k44 ⊢
          exact k44
        · rw [if_neg g4]
          rw [decide_eq_false g4] at hb
          rw [hb] at k44 ⊢
          exact k44
theorem md_81 {X : xh_T} {t : tb_T} {R : rs_T} (h : mM X t R) (c : Int32) (b : Bool) (hc : c = 103 ∨ c = 104) (hb : b = decide (c = 104)) : pw (fx_MD_operate_b81 c 0 X) (mm_P t X (r_done (r_turn b R).1 (r_turn b R).2)) := by
  have h5 := h.2.1.2.1
  unfold fx_MD_operate_b81 r_turn
  rw [h.2.1.1]
  by_cases g : R.2.2.1.1 = 0
  · rw [if_pos (by rw [g]; rfl), if_pos g]
    exact pw_some ⟨rfl, h, fm.rf, rfl⟩
  · rw [if_neg (nI_ne0 (by omega) (by omega)), if_neg g, n1, pk_sub (by omega)]
    by_cases g2 : c = 103
    · have hb2 : b = false := by rw [hb, g2]; decide
      rw [if_pos g2, hb2, if_neg (show ¬ false = true by decide), xo_ (by omega) (by decide), nI_clamp (by omega), h.2.1.2.2 _ (by omega)]
      have key : ∀ d : Bool, d = (!R.2.2.1.2 (R.2.2.1.1 - 1)) → pw (fx_MD_operate_b126 0 (b_i d) (nI (R.2.2.1.1 - 1)) X) (mm_P t X (r_done 0 (R.1, R.2.1, br_flip R.2.2.1, R.2.2.2))) := fun d hd => by
        unfold fx_MD_operate_b126
        rw [xo_ (by omega) (by decide), xn_, br_nar, nI_clamp (by omega)]
        refine mm_fin (q := (0, R.1, R.2.1, br_flip R.2.2.1, R.2.2.2)) ⟨rfl, ⟨h.1.i2, ⟨?_, h5, fun i hi => ?_⟩, ?_, h.2.2.2.1, ?_⟩, fm.i2, by rw [hi_k _ _ _ (by decide : 206 ≠ 212)]⟩
        · rw [hi_k _ _ _ (by decide : 206 ≠ 212)]; exact h.2.1.1
        · show _ = b_i (va_up R.2.2.1.2 (R.2.2.1.1 - 1) (!R.2.2.1.2 (R.2.2.1.1 - 1)) i)
          by_cases e : i = R.2.2.1.1 - 1
          · rw [e, hi_s, va_up_self, hd]
          · rw [hi_j _ _ _ e, va_up_ne _ _ e]; exact h.2.1.2.2 i hi
        · rw [hi_k _ _ _ (by decide : 206 ≠ 212)]; exact h.2.2.1
        · rw [hi_k _ _ _ (by decide : 206 ≠ 212)]; exact h.2.2.2.2
      cases g3 : R.2.2.1.2 (R.2.2.1.1 - 1)
      · rw [if_pos (by decide)]; exact key true (by rw [g3]; rfl)
      · rw [if_neg (by decide)]; exact key false (by rw [g3]; rfl)
    · have hb2 : b = true := by rw [hb, hc.resolve_left g2]; decide
      rw [if_neg g2, xn_, hb2, if_pos rfl]
      refine mm_fin (q := (0, R.1, R.2.1, br_shut R.2.2.1, R.2.2.2)) ⟨rfl, ⟨h.1.i (by decide), ⟨hi_s _ _ _ _, by show R.2.2.1.1 - 1 ≤ 8; omega, fun i hi => ?_⟩, ?_, h.2.2.2.1, ?_⟩, fm.i (by decide), by rw [hi_j _ _ _ (by decide : 10 ≠ 8)]⟩
      · have hi : i < R.2.2.1.1 - 1 := hi
        rw [hi_k _ _ _ (by decide : 212 ≠ 206)]; exact h.2.1.2.2 i (by omega)
      · rw [hi_j _ _ _ (by decide : 9 ≠ 8)]; exact h.2.2.1
      · rw [hi_j _ _ _ (by decide : 17 ≠ 8)]; exact h.2.2.2.2

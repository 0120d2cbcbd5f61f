/-! The other side: a whole run -/
def md_Q (t : tb_T) (X : xh_T) (q : Int32 × Nat × rs_T) : Int32 → xh_T → Prop := fun r X' => r = q.1 ∧ mM X' t q.2.2 ∧ rs_B q.2.2 ∧ fm X X' ∧ X'.1 206 16 = nI q.2.1
theorem md_run_b {po : Bool} {t : tb_T} {w : Nat} {sc : it_T} (hw : w < 3) (hpo : po = decide (w = 0)) (hB : it_B sc) (hpos : ∀ p R, ¬ (r_step po t sc p R).1 = 0 → ¬ (r_step po t sc p R).1 ≤ 0) : ∀ (m p rd fuel k : Nat) (X : xh_T) (R : rs_T), sc.1 - p ≤ m → p ≤ sc.1 → rd ≤ p → m < fuel → m < k → mM X t R → rs_B R → sM X w sc → pw (fx_MD_run_b19 fuel (nI w) (nI p) (nI rd) X) (md_Q t X (r_run po t sc k p R)) := by
  have fin : ∀ (X : xh_T) (R : rs_T), mM X t R → rs_B R → sM X w sc → pw (fx_MD_run_b109 (nI w) X) (md_Q t X (if R.2.2.1.1 = 0 then 0 else 7, sc.1, R)) := fun X R hR hRB hs => by
    have h5 := hR.2.1.2.1
    unfold fx_MD_run_b109
    rw [xo_ hw (by decide), xn_, nI_clamp (by omega), hs.1, hi_j _ _ _ (by decide : 8 ≠ 16), hR.2.1.1]
    by_cases g : R.2.2.1.1 = 0
    · rw [if_pos (show nI R.2.2.1.1 ≤ 0 by rw [g]; decide), if_pos g]
      exact pw_some ⟨rfl, hR.i (by decide), hRB, fm.i (by decide), hi_s _ _ _ _⟩
    · rw [if_neg (nI_nle (by omega) (by omega)), if_neg g]
      exact pw_some ⟨rfl, hR.i (by decide), hRB, fm.i (by decide), hi_s _ _ _ _⟩
  intro m
  induction m with
  | zero =>
    intro p rd fuel k X R hm hp hrd hf hk hR hRB hs
    have h2 := hs.2.1
    obtain ⟨fuel, rfl⟩ : ∃ j, fuel = j + 1 := ⟨fuel - 1, by omega⟩
    obtain ⟨k, rfl⟩ : ∃ j, k = j + 1 := ⟨k - 1, by omega⟩
    rw [fx_MD_run_b19, r_run, if_pos (show sc.1 ≤ p by omega), xo_ hw (by decide), nI_clamp (by omega), hs.1, if_pos (nI_le (by omega) (by omega) : nI sc.1 ≤ nI p)]
    by_cases g : (120 : Int32) ≤ nI rd
    · rw [if_pos g]; exact fin X R hR hRB hs
    · rw [if_neg g]; exact fin X R hR hRB hs
  | succ m ih =>
    intro p rd fuel k X R hm hp hrd hf hk hR hRB hs
    have h2 := hs.2.1
    obtain ⟨fuel, rfl⟩ : ∃ j, fuel = j + 1 := ⟨fuel - 1, by omega⟩
    obtain ⟨k, rfl⟩ : ∃ j, k = j + 1 := ⟨k - 1, by omega⟩
    by_cases ge : sc.1 ≤ p
    · rw [fx_MD_run_b19, r_run, if_pos ge, xo_ hw (by decide), nI_clamp (by omega), hs.1, if_pos (nI_le ge (by omega) : nI sc.1 ≤ nI p)]
      by_cases g : (120 : Int32) ≤ nI rd
      · rw [if_pos g]; exact fin X R hR hRB hs
      · rw [if_neg g]; exact fin X R hR hRB hs
    · have hb := bn_of hB (p := p) (by omega)
      have hR7 : mM (xh_i X 206 10 (nI (p + 1))) t R := hR.i (Or.inl rfl)
      have hs7 : sM (xh_i X 206 10 (nI (p + 1))) w sc := (fm.i (by decide)).s hs
      have f7 : fm X (xh_i X 206 10 (nI (p + 1))) := fm.i (by decide)
      have key : ∀ (r : Int32) (Y : xh_T), mp_P t (xh_i X 206 10 (nI (p + 1))) (r_step po t sc p R) (p + 1 + dl (bn sc p)) r Y → pw (fx_MD_run_b83 (fun z0 z1 z2 Z => fx_MD_run_b19 fuel z0 z1 z2 Z) (nI w) (nI p) (nI rd) r Y) (md_Q t X (if (r_step po t sc p R).1 = 0 then r_run po t sc k (p + 1 + dl (bn sc p)) (r_step po t sc p R).2 else ((r_step po t sc p R).1, p, (r_step po t sc p R).2))) := fun r Y hk2 => by
        obtain ⟨e1, e2, e3, e4⟩ := hk2
        have e5 : fm X Y := f7.tr e3
        have e7 : rs_B (r_step po t sc p R).2 := r_step_B hB hRB
        unfold fx_MD_run_b83
        rw [e1, xn_]
        by_cases g : (r_step po t sc p R).1 = 0
        · have hle := r_step_le (by omega) g
          rw [if_pos g, if_pos (show (r_step po t sc p R).1 ≤ 0 by rw [g]; decide), xn_, xn_, e4 g, nI_1]
          refine pw_m (ih (p + 1 + dl (bn sc p)) (rd + 1) fuel k Y _ (by omega) hle (by omega) (by omega) (by omega) e2 e7 (e5.s hs)) (fun r2 Z q => ⟨q.1, q.2.1, q.2.2.1, e5.tr q.2.2.2.1, q.2.2.2.2⟩)
        · rw [if_neg g, if_neg (hpos p R g), xn_]
          exact pw_some ⟨rfl, e2.i (by decide), e7, e5.tr (fm.i (by decide)), hi_s _ _ _ _⟩
      have e0 : (120 : Int32) * nI w + nI p = nI (120 * w + p) := by rw [show (120 : Int32) * nI w = nI (120 * w) from nm_ 120 w, nI_add]
      have ev : (xh_i X 206 10 (nI (p + 1))).1 207 (120 * w + p) = nI (bn sc p) := by rw [hs7.2.2 p (by omega), hb.1]
      rw [fx_MD_run_b19, if_neg (show ¬ (120 : Int32) ≤ nI rd from nI_ge (b := 120) (by omega) (by decide)), xo_ hw (by decide), nI_clamp (by omega), hs.1, if_neg (nI_ge (by omega) (by omega)), xn_, nI_1, e0, xo_ (by omega) (by decide), xo_ (by omega) (by decide), nI_clamp (by omega), ev, r_run, if_neg ge]
      by_cases g : bn sc p ≤ 96
      · rw [if_neg (show ¬ (96 : Int32) < nI (bn sc p) from nI_nlt (a := 96) (by omega) (by omega))]
        refine pw_b (pw_m (md_push hR7 hs7 hw hB (by omega) (hi_s _ _ _ _)) (fun r Y q => key r Y ?_))
        unfold r_step
        rw [if_pos g]
        exact q
      · rw [if_pos (show (96 : Int32) < nI (bn sc p) from nI_lt (a := 96) (by omega) (by omega))]
        have ed : dl (bn sc p) = 0 := if_neg (by omega)
        by_cases gw : w = 0
        · have hpo' : po = true := by rw [hpo, gw]; rfl
          have e15 : r_step po t sc p R = (15, R) := by unfold r_step; rw [if_neg g, if_pos hpo']
          have eo : fx_MD_operate (nI w) (nI (bn sc p)) (xh_i X 206 10 (nI (p + 1))) = some (15, xh_i X 206 10 (nI (p + 1))) := by
            unfold fx_MD_operate
            rw [if_pos (show nI w = 0 by rw [gw]; rfl)]
          rw [eo, xb_]
          refine key 15 _ ?_
          rw [e15]
          exact ⟨rfl, hR7, fm.rf, fun z => absurd (show (15 : Int32) = 0 from z) (by decide)⟩
        · have hpo' : ¬ po = true := by rw [hpo, decide_eq_false gw]; decide
          refine pw_b (pw_m (md_op hR7 hRB (w := w) (by omega) hb.2) (fun r Y q => key r Y ?_))
          unfold r_step
          rw [if_neg g, if_neg hpo', hb.1]
          exact ⟨q.1, q.2.1, q.2.2.1, fun _ => by rw [q.2.2.2, hi_s, ed]⟩

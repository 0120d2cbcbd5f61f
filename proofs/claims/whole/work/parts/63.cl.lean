/-! The class: a whole run -/
def mc_Q (t : tb_T) (X : xh_T) (q : Int32 × Nat × rs_T) : Int32 → xh_T → Prop := fun r X' => r = q.1 ∧ mc_R X' t q.2.2 ∧ rs_B q.2.2 ∧ fr_m X X' ∧ X'.1 138 5 = nI q.2.1
theorem mc_data {n : Nat} {X : xh_T} (hn : n < 256) : fx_MC_dataBytes (nI n) X = some (nI (dl n), X) := by
  unfold fx_MC_dataBytes dl
  rw [n1, n32]
  by_cases g : n < 1
  · rw [if_pos (nI_lt g (by decide)), if_neg (by omega)]
    rfl
  · rw [if_neg (nI_nlt (by omega) (by omega))]
    by_cases g2 : 32 < n
    · rw [if_pos (nI_lt g2 (by omega)), if_neg (by omega)]
      rfl
    · rw [if_neg (nI_nlt (by omega) (by decide)), if_pos (by omega)]
theorem r_step_le {po : Bool} {t : tb_T} {sc : it_T} {p : Nat} {R : rs_T} (hp : p < sc.1) (h : (r_step po t sc p R).1 = 0) : p + 1 + dl (bn sc p) ≤ sc.1 := by
  unfold dl
  by_cases g : 1 ≤ bn sc p ∧ bn sc p ≤ 32
  · rw [if_pos g]
    unfold r_step at h
    rw [if_pos (by omega)] at h
    unfold r_push at h
    by_cases g2 : r_pf sc p = 0
    · unfold r_pf at g2
      rw [if_pos g.2] at g2
      by_cases g3 : sc.1 < p + 1 + bn sc p
      · rw [if_pos g3] at g2; exact absurd g2 (by decide)
      · omega
    · rw [if_neg g2] at h; exact absurd h g2
  · rw [if_neg g]; omega
theorem mc_run_b {po : Bool} {t : tb_T} {o : Nat} {sc : it_T} (ho : o < 9) (hB : it_B sc) (hs : sc.1 ≤ 4000) : ∀ (m p fuel k : Nat) (X : xh_T) (R : rs_T), sc.1 - p ≤ m → p ≤ sc.1 → m < fuel → m < k → mc_R X t R → rs_B R → bs_R X o sc → pw (fx_MC_run_b27 o fuel (b_i po) (nI sc.1) (nI p) X) (mc_Q t X (r_run po t sc k p R)) := by
  have fin : ∀ (X : xh_T) (R : rs_T), mc_R X t R → rs_B R → pw (xh_b (fx_BR_anyOpen (xh_i X 138 5 (nI sc.1))) (fun r X6 => if r = 0 then some ((0 : Int32), X6) else some (7, X6))) (mc_Q t X (if R.2.2.1.1 = 0 then 0 else 7, sc.1, R)) := fun X R hR hRB => by
    rw [br_any (hR.pl _).2.1, xb_]
    by_cases g : R.2.2.1.1 = 0
    · rw [if_pos g, if_pos rfl, if_pos g]
      exact pw_some ⟨rfl, hR.pl _, hRB, fr_m.i, hi_s _ _ _ _⟩
    · rw [if_neg g, if_neg (by decide), if_neg g]
      exact pw_some ⟨rfl, hR.pl _, hRB, fr_m.i, hi_s _ _ _ _⟩
  intro m
  induction m with
  | zero =>
    intro p fuel k X R hm hp hf hk hR hRB h
    obtain ⟨fuel, rfl⟩ : ∃ j, fuel = j + 1 := ⟨fuel - 1, by omega⟩
    obtain ⟨k, rfl⟩ : ∃ j, k = j + 1 := ⟨k - 1, by omega⟩
    rw [fx_MC_run_b27, if_pos (nI_le (by omega) (by omega)), xn_, r_run, if_pos (by omega)]
    exact fin X R hR hRB
  | succ m ih =>
    intro p fuel k X R hm hp hf hk hR hRB h
    obtain ⟨fuel, rfl⟩ : ∃ j, fuel = j + 1 := ⟨fuel - 1, by omega⟩
    obtain ⟨k, rfl⟩ : ∃ j, k = j + 1 := ⟨k - 1, by omega⟩
    by_cases ge : sc.1 ≤ p
    · rw [fx_MC_run_b27, if_pos (nI_le ge (by omega)), xn_, r_run, if_pos ge]
      exact fin X R hR hRB
    · have hb := bn_of hB (p := p) (by omega)
      have hR7 := hR.pl (nI p)
      have h7 : bs_R (xh_i X 138 5 (nI p)) o sc := fr_m.i.bs ho h
      have key : ∀ (r : Int32) (Y : xh_T), mc_P t (xh_i X 138 5 (nI p)) (r_step po t sc p R) r Y → pw (fx_MC_run_b82 o (fun z0 z1 z2 Z => fx_MC_run_b27 o fuel z0 z1 z2 Z) (b_i po) (nI sc.1) (nI p) r Y) (mc_Q t X (if (r_step po t sc p R).1 = 0 then r_run po t sc k (p + 1 + dl (bn sc p)) (r_step po t sc p R).2 else ((r_step po t sc p R).1, p, (r_step po t sc p R).2))) := fun r Y hk2 => by
        obtain ⟨e1, e2, e3, e4⟩ := hk2
        have e5 : fr_m X Y := fr_m.i.tr e3
        have e6 : Y.1 138 5 = nI p := e4.trans (hi_s _ _ _ _)
        have e7 : rs_B (r_step po t sc p R).2 := r_step_B hB hRB
        unfold fx_MC_run_b82
        rw [e1]
        by_cases g : (r_step po t sc p R).1 = 0
        · have hle := r_step_le (by omega) g
          rw [if_pos g, if_pos g, bs_byteAt (e5.bs ho h), xb_, it_at_n (by omega) (by omega), hb.1, mc_data hb.2, xb_, xn_]
          have e8 : nI p + (1 + nI (dl (bn sc p))) = nI (p + 1 + dl (bn sc p)) := by rw [n1, nI_add, nI_add, Nat.add_assoc]
          rw [e8]
          refine pw_m (ih (p + 1 + dl (bn sc p)) fuel k Y _ (by omega) hle (by omega) (by omega) e2 e7 (e5.bs ho h)) (fun r2 Z q => ⟨q.1, q.2.1, q.2.2.1, e5.tr q.2.2.2.1, q.2.2.2.2⟩)
        · rw [if_neg g, if_neg g]
          exact pw_some ⟨rfl, e2, e7, e5, e6⟩
      rw [fx_MC_run_b27, if_neg (nI_ge (by omega) (by omega)), xn_, bs_byteAt h7, xb_, xn_, xn_, r_run, if_neg ge, it_at_n (by omega) (by omega), hb.1]
      by_cases g : bn sc p ≤ 96
      · rw [if_neg (show ¬ (96 : Int32) < nI (bn sc p) from nI_nlt (a := 96) (by omega) (by omega))]
        refine pw_b (pw_m (mc_push hR7 h7 ho hB (by omega) (hi_s _ _ _ _)) (fun r Y q => pw_n (key r Y ?_)))
        unfold r_step
        rw [if_pos g]
        exact q
      · rw [if_pos (show (96 : Int32) < nI (bn sc p) from nI_lt (a := 96) (by omega) (by omega))]
        cases po
        · rw [if_pos (show b_i false = 0 from rfl)]
          refine pw_b (pw_m (mc_op hR7 hRB hb.2) (fun r Y q => pw_n (key r Y ?_)))
          unfold r_step
          rw [if_neg g, if_neg (by decide), hb.1]
          exact q
        · rw [if_neg (show ¬ b_i true = 0 by decide)]
          refine key 15 _ ?_
          unfold r_step
          rw [if_neg g, if_pos rfl]
          exact ⟨rfl, hR7, fr_m.rf, rfl⟩
def z_s : st_T := (0, fun _ => it_0)
def z_b : br_T := (0, fun _ => false)
/-- what a run needs of the class before it -/
def rn_R (X : xh_T) (t : tb_T) (a : st_T) (d : Nat) : Prop := is_R X 10 a ∧ st_B a ∧ tb_R X t ∧ (∃ s, is_R X 139 s) ∧ X.1 138 6 = nI d
theorem mc_run {X : xh_T} {t : tb_T} {a : st_T} {d o : Nat} {sc : it_T} (hR : rn_R X t a d) (h : bs_R X o sc) (ho : o < 9) (hB : it_B sc) (hs : sc.1 ≤ 120) (po : Bool) : pw (fx_MC_run o (b_i po) X) (mc_Q t X (r_run po t sc 121 0 (a, z_s, z_b, 0, d))) := by
  obtain ⟨h1, h2, h3, ⟨s, h4⟩, h5⟩ := hR
  have h6 := h1.2.2.1
  have hfu := fu_
  unfold fx_MC_run
  rw [xk_ h.1]
  refine pw_b (pw_m (is_empty h4 (fun _ => it_0)) (fun _ X1 k1 => ?_))
  refine pw_b (pw_m (br_close (fun _ => false)) (fun _ X2 k2 => ?_))
  have f1 : ∀ k, ¬ (139 ≤ k ∧ k < 201) → k ≠ 138 → k ≠ 203 → k ≠ 204 → (xh_i X2 138 4 0).1 k = X.1 k := fun k a1 a2 a3 a4 => by rw [hi_k _ _ _ a2, k2.2.2 k a3 a4, k1.2.2.1 k (by omega)]
  have f2 : (xh_i X2 138 4 0).2.1 = X1.2.1 := by show X2.2.1 = X1.2.1; rw [k2.2.1]
  have f3 : (xh_i X2 138 4 0).2.2 = X.2.2 := by show X2.2.2 = X.2.2; rw [k2.2.1, k1.2.1]
  have m1 : is_R (xh_i X2 138 4 0) 10 a := h1.keep (by rw [f2, k1.2.2.2 _ (by decide)]) (fun k a1 a2 => f1 k (by omega) (by omega) (by omega) (by omega))
  have m2 : is_R (xh_i X2 138 4 0) 139 z_s := k1.1.keep (by rw [f2]) (fun k a1 a2 => by rw [hi_k _ _ _ (by omega), k2.2.2 k (by omega) (by omega)])
  have m3 : tb_R (xh_i X2 138 4 0) t := h3.keep (f1 7 (by omega) (by decide) (by decide) (by decide)) (f1 8 (by omega) (by decide) (by decide) (by decide)) (f1 9 (by omega) (by decide) (by decide) (by decide))
  have m4 : br_R (xh_i X2 138 4 0) z_b := k2.1.i8
  have m5 : (xh_i X2 138 4 0).1 138 6 = nI d := by rw [hi_j _ _ _ (by decide : 6 ≠ 4), k2.2.2 138 (by decide) (by decide), k1.2.2.1 138 (by omega)]; exact h5
  have mR : mc_R (xh_i X2 138 4 0) t (a, z_s, z_b, 0, d) := ⟨⟨m1, m2, m3, h6⟩, m4, hi_s _ _ _ _, by show 0 ≤ 25; omega, m5⟩
  have mf : fr_m X (xh_i X2 138 4 0) := ⟨f3, fun k _ a1 a2 a3 a4 => f1 k a1 a2 a3 a4, fun k _ a2 => by rw [f2, k1.2.2.2 k a2]⟩
  have hb : bs_R (xh_i X2 138 4 0) o sc := mf.bs ho h
  rw [xn_, bs_size hb, xb_, xn_, xn_, n0]
  refine pw_m (mc_run_b ho hB (by omega) sc.1 0 sp_fuel 121 _ _ (by omega) (by omega) (by omega) (by omega) mR ⟨h2, fun i hi => absurd hi (Nat.not_lt_zero i)⟩ hb) (fun r Y q => ⟨q.1, q.2.1, q.2.2.1, mf.tr q.2.2.2.1, q.2.2.2.2⟩)

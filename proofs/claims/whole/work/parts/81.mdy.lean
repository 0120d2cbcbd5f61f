/-! The other side: faults are above 0; a run from its start -/
def pz (q : op_T) : Prop := ¬ q.1 = 0 → ¬ q.1 ≤ 0
theorem cf_pos {a : st_T} : ∀ {m k : Nat}, ¬ cf a m k = 0 → ¬ cf a m k ≤ 0
  | 0, _, h => absurd rfl h
  | m + 1, k, h => by
    unfold cf at h ⊢
    by_cases g : nf a k = 0
    · rw [if_pos g] at h ⊢; exact cf_pos h
    · rw [if_neg g] at h ⊢; exact nf_pos h
theorem nk_pos {a : st_T} {k : Nat} {m : Int64} : ¬ nk a k m = 0 → ¬ nk a k m ≤ 0 := by
  unfold nk
  split
  · split
    · exact fun _ => by decide
    · exact fun h => absurd rfl h
  · exact nf_pos
theorem pz0 {x : st_T × st_T} : pz (0, x) := fun h => absurd rfl h
theorem pzl {k : Int32} {x : st_T × st_T} (h : ¬ k ≤ 0) : pz (k, x) := fun _ => h
theorem pk_pos (b : Bool) (a s : st_T) : pz (op_pick b a s) := by
  unfold op_pick
  exact pi_ (P := pz) (fun _ => pi_ (P := pz) (fun _ => pzl (by decide)) (fun _ => pi_ (P := pz) (fun _ => pzl (by decide)) (fun _ => pz0))) (fun _ h => nf_pos h)
theorem mn_pos (t : tb_T) (a s : st_T) : pz (op_many t a s) := by
  unfold op_many
  exact pi_ (P := pz) (fun _ => pi_ (P := pz) (fun _ => pi_ (P := pz) (fun _ => pz0) (fun _ => pzl (by decide))) (fun _ h => nk_pos h)) (fun _ h => nk_pos h)
theorem ca_pos (c : Int32) (n : Nat) (a s : st_T) : pz (op_calc c n a s) := by
  unfold op_calc
  exact pi_ (P := pz) (fun _ => pi_ (P := pz) (fun _ => pi_ (P := pz) (fun _ => pz0) (fun _ => pzl (by decide))) (fun _ => pz0)) (fun _ h => cf_pos h)
theorem op_pos (t : tb_T) (c : Int32) (a s : st_T) : pz (op_sp t c a s) := by
  unfold op_sp
  refine pi_ (P := pz) (fun _ => pz0) (fun _ => ?_)
  refine pi_ (P := pz) (fun _ => pi_ (P := pz) (fun _ => pzl (by decide)) (fun _ => pi_ (P := pz) (fun _ => pzl (by decide)) (fun _ => pz0))) (fun _ => ?_)
  refine pi_ (P := pz) (fun _ => pzl (by decide)) (fun _ => ?_)
  refine pi_ (P := pz) (fun _ => pi_ (P := pz) (fun _ => pzl (by decide)) (fun _ => pz0)) (fun _ => ?_)
  refine pi_ (P := pz) (fun _ => pi_ (P := pz) (fun _ => pzl (by decide)) (fun _ => pz0)) (fun _ => ?_)
  refine pi_ (P := pz) (fun _ => pi_ (P := pz) (fun _ => pzl (by decide)) (fun _ => pz0)) (fun _ => ?_)
  refine pi_ (P := pz) (fun _ => pi_ (P := pz) (fun _ => pzl (by decide)) (fun _ => pi_ (P := pz) (fun _ => pzl (by decide)) (fun _ => pz0))) (fun _ => ?_)
  refine pi_ (P := pz) (fun _ => pi_ (P := pz) (fun _ => pzl (by decide)) (fun _ => pi_ (P := pz) (fun _ => pz0) (fun _ => pi_ (P := pz) (fun _ => pzl (by decide)) (fun _ => pz0)))) (fun _ => ?_)
  refine pi_ (P := pz) (fun _ => pi_ (P := pz) (fun _ => pzl (by decide)) (fun _ => pz0)) (fun _ => ?_)
  refine pi_ (P := pz) (fun _ => pi_ (P := pz) (fun _ => pzl (by decide)) (fun _ => pz0)) (fun _ => ?_)
  refine pi_ (P := pz) (fun _ => pi_ (P := pz) (fun _ => pzl (by decide)) (fun _ => pi_ (P := pz) (fun _ => pzl (by decide)) (fun _ => pz0))) (fun _ => ?_)
  refine pi_ (P := pz) (fun _ => pi_ (P := pz) (fun _ => pzl (by decide)) (fun _ => pz0)) (fun _ => ?_)
  refine pi_ (P := pz) (fun _ => pi_ (P := pz) (fun _ => pzl (by decide)) (fun _ => pi_ (P := pz) (fun _ => pzl (by decide)) (fun _ => pz0))) (fun _ => ?_)
  refine pi_ (P := pz) (fun _ => pk_pos _ _ _) (fun _ => ?_)
  refine pi_ (P := pz) (fun _ => pk_pos _ _ _) (fun _ => ?_)
  refine pi_ (P := pz) (fun _ => pi_ (P := pz) (fun _ => pzl (by decide)) (fun _ => pz0)) (fun _ => ?_)
  refine pi_ (P := pz) (fun _ => pi_ (P := pz) (fun _ => pzl (by decide)) (fun _ => pz0)) (fun _ => ?_)
  refine pi_ (P := pz) (fun _ => pi_ (P := pz) (fun _ => pzl (by decide)) (fun _ => pi_ (P := pz) (fun _ => pzl (by decide)) (fun _ => pz0))) (fun _ => ?_)
  refine pi_ (P := pz) (fun _ => pi_ (P := pz) (fun _ => pzl (by decide)) (fun _ => pi_ (P := pz) (fun _ => pzl (by decide)) (fun _ => pz0))) (fun _ => ?_)
  refine pi_ (P := pz) (fun _ => pi_ (P := pz) (fun _ => pzl (by decide)) (fun _ => pz0)) (fun _ => ?_)
  refine pi_ (P := pz) (fun _ => pi_ (P := pz) (fun _ => pzl (by decide)) (fun _ => pi_ (P := pz) (fun _ => pz0) (fun _ => pzl (by decide)))) (fun _ => ?_)
  refine pi_ (P := pz) (fun _ => pi_ (P := pz) (fun _ => pzl (by decide)) (fun _ => pz0)) (fun _ => ?_)
  refine pi_ (P := pz) (fun _ => pi_ (P := pz) (fun _ => pzl (by decide)) (fun _ => pz0)) (fun _ => ?_)
  refine pi_ (P := pz) (fun _ => pi_ (P := pz) (fun _ => pzl (by decide)) (fun _ => pi_ (P := pz) (fun _ => pz0) (fun _ => pzl (by decide)))) (fun _ => ?_)
  refine pi_ (P := pz) (fun _ => mn_pos _ _ _) (fun _ => ?_)
  exact ca_pos _ _ _ _
theorem r_pos {po : Bool} {t : tb_T} {sc : it_T} (p : Nat) (R : rs_T) : ¬ (r_step po t sc p R).1 = 0 → ¬ (r_step po t sc p R).1 ≤ 0 := by
  have hd : ∀ (f : Int32) (Q : rs_T), (¬ f = 0 → ¬ f ≤ 0) → (¬ (r_done f Q).1 = 0 → ¬ (r_done f Q).1 ≤ 0) := fun f Q hq => by
    unfold r_done
    split <;> exact hq
  have hpf : ¬ r_pf sc p = 0 → ¬ r_pf sc p ≤ 0 := by
    unfold r_pf
    repeat' split
    all_goals first
      | exact fun h => absurd rfl h
      | exact fun _ => by decide
  unfold r_step
  split
  · unfold r_push
    split
    · repeat' split
      all_goals first
        | exact fun h => absurd rfl h
        | exact fun _ => (by decide : ¬ (14 : Int32) ≤ 0)
    · exact hpf
  · split
    · exact fun _ => (by decide : ¬ (15 : Int32) ≤ 0)
    · unfold r_op
      split
      · split
        · exact fun _ => (by decide : ¬ (6 : Int32) ≤ 0)
        · split
          · refine hd _ _ ?_
            unfold r_open
            repeat' split
            all_goals first
              | exact fun h => absurd rfl h
              | exact fun _ => (by decide : ¬ (8 : Int32) ≤ 0)
              | exact fun _ => (by decide : ¬ (11 : Int32) ≤ 0)
          · split
            · refine hd _ _ ?_
              unfold r_turn
              split
              · exact fun _ => (by decide : ¬ (7 : Int32) ≤ 0)
              · exact fun h => absurd rfl h
            · split
              · exact hd _ _ (op_pos t _ R.1 R.2.1)
              · exact fun h => absurd rfl h
      · exact fun _ => (by decide : ¬ (2 : Int32) ≤ 0)
/-- what a run needs before it -/
def rM (X : xh_T) (t : tb_T) (a : st_T) (d : Nat) : Prop := mS X a ∧ a.1 ≤ 30 ∧ st_B a ∧ mT X t ∧ X.1 206 17 = nI d
theorem rM.of {X : xh_T} {t : tb_T} {R : rs_T} (h : mM X t R) (hB : rs_B R) : rM X t R.1 R.2.2.2.2 := ⟨h.1.1, by have := h.1.2.2.2; omega, hB.1, h.1.2.2.1, h.2.2.2.2⟩
theorem md_run {X : xh_T} {t : tb_T} {a : st_T} {d w : Nat} {sc : it_T} (h : rM X t a d) (hs : sM X w sc) (hw : w < 3) (hB : it_B sc) (po : Bool) (hpo : po = decide (w = 0)) : pw (fx_MD_run (nI w) X) (md_Q t X (r_run po t sc 121 0 (a, z_s, z_b, 0, d))) := by
  have h4 := fu_
  have h2 := hs.2.1
  have f : fm X (xh_i (xh_i (xh_i X 206 6 0) 206 8 0) 206 9 0) := ((fm.i (by decide)).tr (fm.i (by decide))).tr (fm.i (by decide))
  have e : ∀ j, j ≠ 6 → j ≠ 8 → j ≠ 9 → (xh_i (xh_i (xh_i X 206 6 0) 206 8 0) 206 9 0).1 206 j = X.1 206 j := fun j h1 h2 h3 => by rw [hi_j _ _ _ h3, hi_j _ _ _ h2, hi_j _ _ _ h1]
  have e2 : ∀ k, k ≠ 206 → (xh_i (xh_i (xh_i X 206 6 0) 206 8 0) 206 9 0).1 k = X.1 k := fun k hk => by rw [hi_k _ _ _ hk, hi_k _ _ _ hk, hi_k _ _ _ hk]
  have m : mM (xh_i (xh_i (xh_i X 206 6 0) 206 8 0) 206 9 0) t (a, z_s, z_b, 0, d) := by
    refine ⟨⟨h.1.keep (e 5 (by decide) (by decide) (by decide)) (e2 209 (by decide)), ⟨?_, fun j hj => absurd hj (Nat.not_lt_zero j)⟩, h.2.2.2.1.keep (e 13 (by decide) (by decide) (by decide)) (e2 213 (by decide)) (e2 214 (by decide)), h.2.1⟩, ⟨?_, by show 0 ≤ 8; omega, fun i hi => absurd hi (Nat.not_lt_zero i)⟩, hi_s _ _ _ _, by show 0 ≤ 25; omega, ?_⟩
    · rw [hi_j _ _ _ (by decide : 6 ≠ 9), hi_j _ _ _ (by decide : 6 ≠ 8), hi_s]; rfl
    · rw [hi_j _ _ _ (by decide : 8 ≠ 9), hi_s]; rfl
    · rw [e 17 (by decide) (by decide) (by decide)]; exact h.2.2.2.2
  unfold fx_MD_run
  rw [xn_, xn_, xn_, xn_, xn_]
  refine pw_m (md_run_b hw hpo hB (fun p R => r_pos p R) sc.1 0 0 sp_fuel 121 _ _ (by omega) (by omega) (by omega) (by omega) (by omega) m ⟨h.2.2.1, fun i hi => absurd hi (Nat.not_lt_zero i)⟩ (f.s hs)) (fun r Y q => ⟨q.1, q.2.1, q.2.2.1, f.tr q.2.2.2.1, q.2.2.2.2⟩)

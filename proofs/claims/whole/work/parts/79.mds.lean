/-! The other side: a step and a run -/
theorem ks_split : ∀ c ∈ op_ks, ((c = 97 ∨ c = 105 ∨ c = 106 ∨ c = 107 ∨ c = 108 ∨ c = 109 ∨ c = 110 ∨ c = 115 ∨ c = 116 ∨ c = 117 ∨ c = 118 ∨ c = 119 ∨ c = 120 ∨ c = 121 ∨ c = 122 ∨ c = 123 ∨ c = 124 ∨ c = 125) ∧ c < 130 ∧ c < 139) ∨ ((c = 130 ∨ c = 135 ∨ c = 136 ∨ c = 169 ∨ c = 172 ∨ c = 173 ∨ c = 174) ∧ ¬ c < 130 ∧ (c < 139 ∨ 165 < c)) ∨ (((c = 139 ∨ c = 140 ∨ c = 143 ∨ c = 144 ∨ c = 145 ∨ c = 146) ∨ (c = 147 ∨ c = 148 ∨ c = 154 ∨ c = 155 ∨ c = 156 ∨ c = 158 ∨ c = 159 ∨ c = 160 ∨ c = 161 ∨ c = 162 ∨ c = 163 ∨ c = 164) ∨ c = 157 ∨ c = 165) ∧ ¬ c < 139 ∧ ¬ 165 < c) := by decide +kernel
theorem oq_139 (t : tb_T) (a s : st_T) : op_sp t 139 a s = op_calc 139 (if (146 : Int32) < 139 then (if (164 : Int32) < 139 then 3 else 2) else 1) a s := by
  unfold op_sp
  repeat rw [if_neg (by decide)]
theorem oq_140 (t : tb_T) (a s : st_T) : op_sp t 140 a s = op_calc 140 (if (146 : Int32) < 140 then (if (164 : Int32) < 140 then 3 else 2) else 1) a s := by
  unfold op_sp
  repeat rw [if_neg (by decide)]
theorem oq_143 (t : tb_T) (a s : st_T) : op_sp t 143 a s = op_calc 143 (if (146 : Int32) < 143 then (if (164 : Int32) < 143 then 3 else 2) else 1) a s := by
  unfold op_sp
  repeat rw [if_neg (by decide)]
theorem oq_144 (t : tb_T) (a s : st_T) : op_sp t 144 a s = op_calc 144 (if (146 : Int32) < 144 then (if (164 : Int32) < 144 then 3 else 2) else 1) a s := by
  unfold op_sp
  repeat rw [if_neg (by decide)]
theorem oq_145 (t : tb_T) (a s : st_T) : op_sp t 145 a s = op_calc 145 (if (146 : Int32) < 145 then (if (164 : Int32) < 145 then 3 else 2) else 1) a s := by
  unfold op_sp
  repeat rw [if_neg (by decide)]
theorem oq_146 (t : tb_T) (a s : st_T) : op_sp t 146 a s = op_calc 146 (if (146 : Int32) < 146 then (if (164 : Int32) < 146 then 3 else 2) else 1) a s := by
  unfold op_sp
  repeat rw [if_neg (by decide)]
theorem oq_147 (t : tb_T) (a s : st_T) : op_sp t 147 a s = op_calc 147 (if (146 : Int32) < 147 then (if (164 : Int32) < 147 then 3 else 2) else 1) a s := by
  unfold op_sp
  repeat rw [if_neg (by decide)]
theorem oq_148 (t : tb_T) (a s : st_T) : op_sp t 148 a s = op_calc 148 (if (146 : Int32) < 148 then (if (164 : Int32) < 148 then 3 else 2) else 1) a s := by
  unfold op_sp
  repeat rw [if_neg (by decide)]
theorem oq_154 (t : tb_T) (a s : st_T) : op_sp t 154 a s = op_calc 154 (if (146 : Int32) < 154 then (if (164 : Int32) < 154 then 3 else 2) else 1) a s := by
  unfold op_sp
  repeat rw [if_neg (by decide)]
theorem oq_155 (t : tb_T) (a s : st_T) : op_sp t 155 a s = op_calc 155 (if (146 : Int32) < 155 then (if (164 : Int32) < 155 then 3 else 2) else 1) a s := by
  unfold op_sp
  repeat rw [if_neg (by decide)]
theorem oq_156 (t : tb_T) (a s : st_T) : op_sp t 156 a s = op_calc 156 (if (146 : Int32) < 156 then (if (164 : Int32) < 156 then 3 else 2) else 1) a s := by
  unfold op_sp
  repeat rw [if_neg (by decide)]
theorem oq_157 (t : tb_T) (a s : st_T) : op_sp t 157 a s = op_calc 157 (if (146 : Int32) < 157 then (if (164 : Int32) < 157 then 3 else 2) else 1) a s := by
  unfold op_sp
  repeat rw [if_neg (by decide)]
theorem oq_158 (t : tb_T) (a s : st_T) : op_sp t 158 a s = op_calc 158 (if (146 : Int32) < 158 then (if (164 : Int32) < 158 then 3 else 2) else 1) a s := by
  unfold op_sp
  repeat rw [if_neg (by decide)]
theorem oq_159 (t : tb_T) (a s : st_T) : op_sp t 159 a s = op_calc 159 (if (146 : Int32) < 159 then (if (164 : Int32) < 159 then 3 else 2) else 1) a s := by
  unfold op_sp
  repeat rw [if_neg (by decide)]
theorem oq_160 (t : tb_T) (a s : st_T) : op_sp t 160 a s = op_calc 160 (if (146 : Int32) < 160 then (if (164 : Int32) < 160 then 3 else 2) else 1) a s := by
  unfold op_sp
  repeat rw [if_neg (by decide)]
theorem oq_161 (t : tb_T) (a s : st_T) : op_sp t 161 a s = op_calc 161 (if (146 : Int32) < 161 then (if (164 : Int32) < 161 then 3 else 2) else 1) a s := by
  unfold op_sp
  repeat rw [if_neg (by decide)]
theorem oq_162 (t : tb_T) (a s : st_T) : op_sp t 162 a s = op_calc 162 (if (146 : Int32) < 162 then (if (164 : Int32) < 162 then 3 else 2) else 1) a s := by
  unfold op_sp
  repeat rw [if_neg (by decide)]
theorem oq_163 (t : tb_T) (a s : st_T) : op_sp t 163 a s = op_calc 163 (if (146 : Int32) < 163 then (if (164 : Int32) < 163 then 3 else 2) else 1) a s := by
  unfold op_sp
  repeat rw [if_neg (by decide)]
theorem oq_164 (t : tb_T) (a s : st_T) : op_sp t 164 a s = op_calc 164 (if (146 : Int32) < 164 then (if (164 : Int32) < 164 then 3 else 2) else 1) a s := by
  unfold op_sp
  repeat rw [if_neg (by decide)]
theorem oq_165 (t : tb_T) (a s : st_T) : op_sp t 165 a s = op_calc 165 (if (146 : Int32) < 165 then (if (164 : Int32) < 165 then 3 else 2) else 1) a s := by
  unfold op_sp
  repeat rw [if_neg (by decide)]
theorem os_calc {c : Int32} (hc : ((c = 139 ∨ c = 140 ∨ c = 143 ∨ c = 144 ∨ c = 145 ∨ c = 146) ∨ (c = 147 ∨ c = 148 ∨ c = 154 ∨ c = 155 ∨ c = 156 ∨ c = 158 ∨ c = 159 ∨ c = 160 ∨ c = 161 ∨ c = 162 ∨ c = 163 ∨ c = 164) ∨ c = 157 ∨ c = 165)) (t : tb_T) (a s : st_T) : op_sp t c a s = op_calc c (if 146 < c then (if 164 < c then 3 else 2) else 1) a s := by
  rcases hc with (rfl | rfl | rfl | rfl | rfl | rfl) | (rfl | rfl | rfl | rfl | rfl | rfl | rfl | rfl | rfl | rfl | rfl | rfl) | rfl | rfl
  · exact oq_139 t a s
  · exact oq_140 t a s
  · exact oq_143 t a s
  · exact oq_144 t a s
  · exact oq_145 t a s
  · exact oq_146 t a s
  · exact oq_147 t a s
  · exact oq_148 t a s
  · exact oq_154 t a s
  · exact oq_155 t a s
  · exact oq_156 t a s
  · exact oq_158 t a s
  · exact oq_159 t a s
  · exact oq_160 t a s
  · exact oq_161 t a s
  · exact oq_162 t a s
  · exact oq_163 t a s
  · exact oq_164 t a s
  · exact oq_157 t a s
  · exact oq_165 t a s
theorem md_op {X : xh_T} {t : tb_T} {R : rs_T} (hR : mM X t R) (hB : rs_B R) {w n : Nat} (hw : 0 < w ∧ w < 3) (hn : n < 256) : pw (fx_MD_operate (nI w) (nI n) X) (mm_P t X (r_op t (nI n) R)) := by
  have h5 := hR.2.2.2.1
  unfold fx_MD_operate r_op
  rw [if_neg (nI_ne0 hw.1 (by omega)), md_known hn, xb_]
  cases g : kn (nI n)
  · rw [if_pos (by decide), if_neg (by decide)]
    exact pw_some ⟨rfl, hR, fm.rf, rfl⟩
  · rw [if_neg (by decide), if_pos rfl, hR.2.2.1, n25]
    by_cases g1 : R.2.2.2.1 = 25
    · rw [if_pos (by rw [g1]), if_pos g1]
      exact pw_some ⟨rfl, hR, fm.rf, rfl⟩
    · rw [if_neg (fun z => g1 ((nI_eq (by omega) (by decide)).mp z)), if_neg g1, xn_, ← hR.2.2.1]
      have hM := hR.met (by omega)
      have up : ∀ {q : Int32 × rs_T} {r : Int32} {Y : xh_T}, mm_P t (xh_i X 206 9 (X.1 206 9 + 1)) q r Y → mm_P t X q r Y := fun k => ⟨k.1, k.2.1, (fm.i (by decide)).tr k.2.2.1, by rw [k.2.2.2, hi_j _ _ _ (by decide : 10 ≠ 9)]⟩
      rw [md_live hM.2.1, xb_, xn_, xn_]
      by_cases c1 : nI n = 99 ∨ nI n = 100
      · rw [if_pos c1]
        have key : pw (fx_MD_operate_b58 (nI n) (b_i (br_all (r_met R).2.2.1)) (xh_i X 206 9 (X.1 206 9 + 1))) (mm_P t X (r_done (r_open (decide (nI n = 99)) (r_met R)).1 (r_open (decide (nI n = 99)) (r_met R)).2)) := by
          unfold fx_MD_operate_b58
          exact pw_b (pw_m (md_branch hM (nI n) _ rfl) (fun r Y k => pw_n (mm_fin (up k))))
        by_cases c2 : nI n = 99
        · rw [if_pos c2]; exact key
        · rw [if_neg c2, if_pos (c1.resolve_left c2)]; exact key
      · rw [if_neg c1, if_neg (fun z => c1 (Or.inl z)), if_neg (fun z => c1 (Or.inr z))]
        by_cases c3 : nI n = 103 ∨ nI n = 104
        · rw [if_pos c3]
          have key := pw_m (md_81 hM (nI n) _ c3 rfl) (fun r Y k => up k)
          by_cases c2 : nI n = 103
          · rw [if_pos c2]; exact key
          · rw [if_neg c2, if_pos (c3.resolve_left c2)]; exact key
        · rw [if_neg c3, if_neg (fun z => c3 (Or.inl z)), if_neg (fun z => c3 (Or.inr z))]
          have hk : nI n ∈ op_ks := by
            rcases of_decide_eq_true g with k | k | k | k | k
            · exact k
            · exact absurd (Or.inl k) c1
            · exact absurd (Or.inr k) c1
            · exact absurd (Or.inl k) c3
            · exact absurd (Or.inr k) c3
          show pw (if b_i (br_all R.2.2.1) = 0 then _ else _) _
          cases g4 : br_all R.2.2.1
          · rw [if_pos (by decide), if_neg (by decide)]
            exact pw_some (up ⟨rfl, hM, fm.rf, rfl⟩)
          · rw [if_neg (by decide), if_pos rfl]
            have fin : ∀ {r : Int32} {Y : xh_T}, mo_P t (xh_i X 206 9 (X.1 206 9 + 1)) (op_sp t (nI n) R.1 R.2.1) r Y → pw (fx_MD_operate_b191 r Y) (mm_P t X (r_done (r_oper t (nI n) (r_met R)).1 (r_oper t (nI n) (r_met R)).2)) := fun {r Y} k => by
              unfold fx_MD_operate_b191
              exact pw_n (mm_fin (up (q := r_oper t (nI n) (r_met R)) ⟨k.1, hM.o k.2.1 k.2.2, k.2.2.m, k.2.2.2.2 10 (by decide) (by decide)⟩))
            have b171 : (nI n < 130 → pw (fx_MD_move (nI n) (xh_i X 206 9 (X.1 206 9 + 1))) (mo_P t (xh_i X 206 9 (X.1 206 9 + 1)) (op_sp t (nI n) R.1 R.2.1))) → (¬ nI n < 130 → pw (fx_MD_compare (nI n) (xh_i X 206 9 (X.1 206 9 + 1))) (mo_P t (xh_i X 206 9 (X.1 206 9 + 1)) (op_sp t (nI n) R.1 R.2.1))) → pw (fx_MD_operate_b171 (nI n) (xh_i X 206 9 (X.1 206 9 + 1))) (mm_P t X (r_done (r_oper t (nI n) (r_met R)).1 (r_oper t (nI n) (r_met R)).2)) := fun k1 k2 => by
              unfold fx_MD_operate_b171
              by_cases c4 : nI n < 130
              · rw [if_pos c4]; exact pw_b (pw_m (k1 c4) (fun r Y k => fin k))
              · rw [if_neg c4]; exact pw_b (pw_m (k2 c4) (fun r Y k => fin k))
            rcases ks_split (nI n) hk with ⟨k1, k2, k3⟩ | ⟨k1, k2, k3⟩ | ⟨k1, k2, k3⟩
            · rw [if_pos k3]
              exact b171 (fun _ => md_move hM.1 hB.1 k1) (fun z => absurd k2 z)
            · have kk := b171 (fun z => absurd z k2) (fun _ => md_cmp hM.1 hB.1 k1)
              by_cases c5 : nI n < 139
              · rw [if_pos c5]; exact kk
              · rw [if_neg c5, if_pos (k3.resolve_left c5)]; exact kk
            · rw [if_neg k2, if_neg k3]
              have kk := md_calcs hM.1 k1
              have e : op_calc (nI n) (if 146 < nI n then (if 164 < nI n then 3 else 2) else 1) (r_met R).1 (r_met R).2.1 = op_sp t (nI n) R.1 R.2.1 := (os_calc k1 t R.1 R.2.1).symm
              rw [e] at kk
              exact pw_b (pw_m kk (fun r Y k => fin k))
-- pushes
def sM (X : xh_T) (w : Nat) (sc : it_T) : Prop := X.1 208 w = nI sc.1 ∧ sc.1 ≤ 120 ∧ ∀ i, i < sc.1 → X.1 207 (120 * w + i) = sc.2 i
theorem sM.keep {X X' : xh_T} {w : Nat} {sc : it_T} (h : sM X w sc) (h1 : X'.1 207 = X.1 207) (h2 : X'.1 208 = X.1 208) : sM X' w sc := ⟨by rw [h2]; exact h.1, h.2.1, fun i hi => by rw [h1]; exact h.2.2 i hi⟩
theorem fm.s {X X' : xh_T} {w : Nat} {sc : it_T} (hf : fm X X') (h : sM X w sc) : sM X' w sc := h.keep (hf.2.1 207 (by decide) (by decide) (by decide) (by decide)) (hf.2.1 208 (by decide) (by decide) (by decide) (by decide))
def mp_P (t : tb_T) (X : xh_T) (q : Int32 × rs_T) (nx : Nat) : Int32 → xh_T → Prop := fun r X' => r = q.1 ∧ mM X' t q.2 ∧ fm X X' ∧ (q.1 = 0 → X'.1 206 10 = nI nx)
theorem it_e_0 : (it_e 0).1 = 0 := by decide +kernel
theorem md_242 {X Y : xh_T} {t : tb_T} {R : rs_T} {a : st_T} {nx : Nat} (h : mM X t R) (hs : mS Y a) (hf : fd X Y) (hn : a.1 + R.2.1.1 ≤ 30) (hx : X.1 206 10 = nI nx) : pw (fx_MD_push_b242 Y) (mp_P t X (0, a, R.2.1, R.2.2.1, R.2.2.2.1, R.2.2.2.2 + 1) nx) := by
  have m := h.o (h.1.d hs hf hn) hf.o
  unfold fx_MD_push_b242
  rw [xn_]
  exact pw_some ⟨rfl, m.done, hf.o.m.tr (fm.i (by decide)), fun _ => by rw [hi_j _ _ _ (by decide : 10 ≠ 17), hf.2.2 10 (by decide)]; exact hx⟩
theorem md_167 {X : xh_T} {t : tb_T} {R : rs_T} {nx : Nat} (h : mM X t R) {w p : Nat} {sc : it_T} (hs : sM X w sc) (hw : w < 3) (hn : R.1.1 + R.2.1.1 < 30) (hp : p + 1 + bn sc p ≤ sc.1) (h32 : bn sc p ≤ 32) (hx : X.1 206 10 = nI nx) : ∀ (m i fuel : Nat) (Y : xh_T), i + m = bn sc p → m < fuel → Y.1 209 (33 * R.1.1) = nI (bn sc p) → (∀ j, j < i → Y.1 209 (33 * R.1.1 + 1 + j) = sc.2 (p + 1 + j)) → pF X Y R.1.1 → pw (fx_MD_push_b167 fuel (nI w) (nI p) (nI (bn sc p)) (nI i) Y) (mp_P t X (0, st_push R.1 (bn sc p, fun i => sc.2 (p + 1 + i)), R.2.1, R.2.2.1, R.2.2.2.1, R.2.2.2.2 + 1) nx) := by
  have h2 := hs.2.1
  intro m
  induction m with
  | zero =>
    intro i fuel Y hi hf y1 y2 hF
    obtain ⟨fuel, rfl⟩ : ∃ k, fuel = k + 1 := ⟨fuel - 1, by omega⟩
    rw [fx_MD_push_b167, if_pos (nI_le (by omega) (by omega)), xn_, hF.2.1 206 (by decide), h.1.1.1, nI_1]
    refine md_242 h (h.1.1.push (by omega) (hi_s _ _ _ _) (fun m hm => ?_) ⟨?_, h32, fun j hj => ?_⟩) ⟨by show Y.2.1 = _; rw [hF.1], fun k h1 h2 => by rw [hi_k _ _ _ h1, hF.2.1 k h2], fun j hj => by rw [hi_j _ _ _ hj, hF.2.1 206 (by decide)]⟩ (by show R.1.1 + 1 + R.2.1.1 ≤ 30; omega) hx
    · rw [hi_k _ _ _ (by decide : 209 ≠ 206)]; exact hF.2.2 m (by omega)
    · rw [hi_k _ _ _ (by decide : 209 ≠ 206)]; exact y1
    · rw [hi_k _ _ _ (by decide : 209 ≠ 206)]; exact y2 j (by have hj : j < bn sc p := hj; omega)
  | succ m ih =>
    intro i fuel Y hi hf y1 y2 hF
    obtain ⟨fuel, rfl⟩ : ∃ k, fuel = k + 1 := ⟨fuel - 1, by omega⟩
    rw [fx_MD_push_b167, if_neg (nI_ge (by omega) (by omega)), hF.2.1 206 (by decide), h.1.1.1, show (120 : Int32) * nI w = nI (120 * w) from nm_ 120 w, show (33 : Int32) * nI R.1.1 = nI (33 * R.1.1) from nm_ 33 _, n1, nI_add, nI_add, nI_add, nI_add, nI_add, nI_add, xo_ (by omega) (by decide), xo_ (by omega) (by decide), xn_, xn_, nI_clamp (by omega), nI_clamp (by omega), hF.2.1 207 (by decide), show 120 * w + p + 1 + i = 120 * w + (p + 1 + i) by omega, hs.2.2 _ (by omega)]
    have e : 33 * R.1.1 + 1 + i = 33 * R.1.1 + (1 + i) := by omega
    refine ih (i + 1) fuel _ (by omega) (by omega) (by rw [hi_j _ _ _ (by omega)]; exact y1) (fun j hj => ?_) (by rw [e]; exact hF.i (by omega))
    by_cases e2 : j = i
    · rw [e2, hi_s]
    · rw [hi_j _ _ _ (by omega)]; exact y2 j (by omega)
theorem md_126 {X : xh_T} {t : tb_T} {R : rs_T} {nx : Nat} (h : mM X t R) {w p : Nat} {sc : it_T} (hs : sM X w sc) (hw : w < 3) (hb : bn sc p < 256) (d : Bool) (hd : d = true → p + 1 + bn sc p ≤ sc.1 ∧ bn sc p ≤ 32) (hd0 : d = false → bn sc p = 0 ∨ 32 < bn sc p) (hx : X.1 206 10 = nI nx) : pw (fx_MD_push_b126 (nI w) (nI p) (nI (bn sc p)) (b_i d) X) (mp_P t X (if br_all R.2.2.1 = true then (if 30 ≤ R.1.1 + R.2.1.1 then (14, R) else (0, st_push R.1 (r_it sc p), R.2.1, R.2.2.1, R.2.2.2.1, R.2.2.2.2 + 1)) else (0, R)) nx) := by
  have h4 := fu_
  have h7 := h.1.2.2.2
  unfold fx_MD_push_b126
  rw [md_live h.2.1, xb_]
  cases g1 : br_all R.2.2.1
  · rw [if_pos (by decide), if_neg (by decide)]
    exact pw_some ⟨rfl, h, fm.rf, fun _ => hx⟩
  · rw [if_neg (by decide), if_pos rfl, show fx_MD_full 1 X = _ from md_full h.1.1 h.1.2.1.1 (c := 1) (by omega) (by decide), xb_]
    by_cases g2 : 30 ≤ R.1.1 + R.2.1.1
    · rw [if_pos (show 30 < R.1.1 + R.2.1.1 + 1 by omega), if_neg (by decide), if_pos g2]
      exact pw_some ⟨rfl, h, fm.rf, fun z => absurd (show (14 : Int32) = 0 from z) (by decide)⟩
    · rw [if_neg (show ¬ 30 < R.1.1 + R.2.1.1 + 1 by omega), if_pos rfl, if_neg g2]
      cases d
      · rw [if_pos (by decide)]
        have k239 : ∀ v : Int64, it_eq (it_e v) (r_it sc p) → pw (fx_MD_push_b239 v X) (mp_P t X (0, st_push R.1 (r_it sc p), R.2.1, R.2.2.1, R.2.2.2.1, R.2.2.2.2 + 1) nx) := fun v hv => by
          unfold fx_MD_push_b239
          refine pw_b (pw_m (md_num h.1.1 (by omega) v) (fun _ Y q => md_242 h ⟨q.1.1, q.1.2.1, fun j hj => ?_⟩ q.2 (by show R.1.1 + 1 + R.2.1.1 ≤ 30; omega) hx))
          have hq := q.1.2.2 j hj
          have hq : iM Y 209 j (va_up R.1.2 R.1.1 (it_e v) j) := hq
          show iM Y 209 j (va_up R.1.2 R.1.1 (r_it sc p) j)
          by_cases e : j = R.1.1
          · rw [e, va_up_self] at hq ⊢; exact hq.to hv
          · rw [va_up_ne _ _ e] at hq ⊢; exact hq
        rcases hd0 rfl with e | e
        · rw [if_pos (show nI (bn sc p) = 0 by rw [e]; rfl)]
          refine k239 0 ?_
          unfold r_it
          rw [if_pos (by omega)]
          exact ⟨by rw [it_e_0]; exact e.symm, fun i hi => absurd hi (by rw [it_e_0]; omega)⟩
        · rw [if_neg (nI_ne0 (by omega) (by omega))]
          refine k239 _ ?_
          unfold r_it
          rw [if_neg (by omega)]
          exact it_eq.rf
      · rw [if_neg (by decide), h.1.1.1, show (33 : Int32) * nI R.1.1 = nI (33 * R.1.1) from nm_ 33 _, xo_ (by omega) (by decide), xn_, xn_, nI_clamp (by omega)]
        have e : r_it sc p = (bn sc p, fun i => sc.2 (p + 1 + i)) := by unfold r_it; rw [if_pos (hd rfl).2]
        rw [e]
        exact md_167 h hs hw (by omega) (hd rfl).1 (hd rfl).2 hx (bn sc p) 0 sp_fuel _ (by omega) (by have := (hd rfl).2; omega) (hi_s _ _ _ _) (fun j hj => absurd hj (by omega)) ((show pF X X R.1.1 from ⟨rfl, fun _ _ => rfl, fun _ _ => rfl⟩).i (c := 0) (by decide))
theorem md_push {X : xh_T} {t : tb_T} {R : rs_T} (h : mM X t R) {w p : Nat} {sc : it_T} (hs : sM X w sc) (hw : w < 3) (hB : it_B sc) (hp : p < sc.1) (hx : X.1 206 10 = nI (p + 1)) : pw (fx_MD_push (nI w) (nI p) X) (mp_P t X (r_push sc p R) (p + 1 + dl (bn sc p))) := by
  have h2 := hs.2.1
  have hb := bn_of hB hp
  have e0 : (120 : Int32) * nI w = nI (120 * w) := nm_ 120 w
  unfold fx_MD_push r_push
  rw [e0, nI_add, xo_ (by omega) (by decide), xn_, nI_clamp (by omega), hs.2.2 p hp, hb.1]
  have no : bn sc p = 0 ∨ 32 < bn sc p → pw (fx_MD_push_b27 (nI w) (nI p) (nI (bn sc p)) X) (mp_P t X (if r_pf sc p = 0 then (if br_all R.2.2.1 = true then (if 30 ≤ R.1.1 + R.2.1.1 then (14, R) else (0, st_push R.1 (r_it sc p), R.2.1, R.2.2.1, R.2.2.2.1, R.2.2.2.2 + 1)) else (0, R)) else (r_pf sc p, R)) (p + 1 + dl (bn sc p))) := fun k => by
    have ed : dl (bn sc p) = 0 := if_neg (by omega)
    rw [ed]
    have k126 := md_126 h hs hw hb.2 false (fun z => absurd z (by decide)) (fun _ => k) (nx := p + 1 + 0) hx
    have k53 : r_pf sc p = 0 → pw (fx_MD_push_b53 (nI w) (nI p) (nI (bn sc p)) 0 X) (mp_P t X (if r_pf sc p = 0 then (if br_all R.2.2.1 = true then (if 30 ≤ R.1.1 + R.2.1.1 then (14, R) else (0, st_push R.1 (r_it sc p), R.2.1, R.2.2.1, R.2.2.2.1, R.2.2.2.2 + 1)) else (0, R)) else (r_pf sc p, R)) (p + 1 + 0)) := fun z => by
      unfold fx_MD_push_b53
      rw [if_pos rfl, if_pos z]
      exact k126
    unfold fx_MD_push_b27 fx_MD_push_b28
    rw [xn_, if_pos (show (0 : Int32) = 0 from rfl)]
    by_cases g : bn sc p = 0
    · rw [if_pos (show nI (bn sc p) = 0 by rw [g]; rfl)]
      refine k53 ?_
      unfold r_pf
      rw [if_pos (by omega), if_neg (by omega), if_neg (fun z => by have := z.1; omega)]
    · rw [if_neg (nI_ne0 (by omega) (by omega))]
      by_cases g2 : bn sc p = 79
      · rw [if_pos (show nI (bn sc p) = 79 by rw [g2]; rfl)]
        refine k53 ?_
        unfold r_pf
        rw [if_neg (by omega), if_pos (Or.inl g2)]
      · rw [if_neg (show ¬ nI (bn sc p) = 79 from fun z => g2 ((nI_eq (b := 79) (by omega) (by decide)).mp z))]
        by_cases g3 : 81 ≤ bn sc p
        · rw [if_pos (show 81 ≤ nI (bn sc p) from nI_le (a := 81) g3 (by omega))]
          refine k53 ?_
          unfold r_pf
          rw [if_neg (by omega), if_pos (Or.inr g3)]
        · rw [if_neg (show ¬ 81 ≤ nI (bn sc p) from nI_ge (b := 81) (by omega) (by decide))]
          have e : r_pf sc p = 2 := by
            unfold r_pf
            rw [if_neg (by omega), if_neg (by omega)]
          rw [e, if_neg (by decide)]
          exact pw_some ⟨rfl, h, fm.rf, fun z => absurd (show (2 : Int32) = 0 from z) (by decide)⟩
  by_cases g : bn sc p < 1
  · rw [if_pos (show nI (bn sc p) < 1 from nI_lt (b := 1) g (by decide))]
    exact no (Or.inl (by omega))
  · rw [if_neg (show ¬ nI (bn sc p) < 1 from nI_nlt (b := 1) (by omega) (by omega))]
    by_cases g2 : 32 < bn sc p
    · rw [if_pos (show 32 < nI (bn sc p) from nI_lt (a := 32) g2 (by omega))]
      exact no (Or.inr g2)
    · rw [if_neg (show ¬ 32 < nI (bn sc p) from nI_nlt (a := 32) (by omega) (by decide))]
      have ed : dl (bn sc p) = bn sc p := if_pos (by omega)
      rw [ed]
      unfold fx_MD_push_b28 fx_MD_push_b53
      rw [xn_, if_neg (by decide), if_neg (by decide), xo_ hw (by decide), nI_clamp (by omega), hs.1, n1, nI_add, nI_add]
      by_cases g3 : p + 1 + bn sc p ≤ sc.1
      · rw [if_pos (nI_le g3 (by omega)), e0, nI_add, nI_add, xo_ (by omega) (by decide), xn_, nI_clamp (by omega), show 120 * w + p + 1 = 120 * w + (p + 1) by omega, hs.2.2 (p + 1) (by omega)]
        have k117 : r_pf sc p = 0 → pw (fx_MD_push_b117 (nI w) (nI p) (nI (bn sc p)) (nI 1) X) (mp_P t X (if r_pf sc p = 0 then (if br_all R.2.2.1 = true then (if 30 ≤ R.1.1 + R.2.1.1 then (14, R) else (0, st_push R.1 (r_it sc p), R.2.1, R.2.2.1, R.2.2.2.1, R.2.2.2.2 + 1)) else (0, R)) else (r_pf sc p, R)) (p + 1 + bn sc p)) := fun z => by
          unfold fx_MD_push_b117
          rw [xn_, if_pos z, n1, nI_add, nI_add]
          have hs2 : sM (xh_i X 206 10 (nI (p + 1 + bn sc p))) w sc := (fm.i (by decide)).s hs
          refine pw_m (md_126 (h.i (Or.inl rfl)) hs2 hw hb.2 true (fun _ => ⟨g3, by omega⟩) (fun z => absurd z (by decide)) (nx := p + 1 + bn sc p) (hi_s _ _ _ _)) (fun r Y k => ⟨k.1, k.2.1, (fm.i (by decide)).tr k.2.2.1, k.2.2.2⟩)
        have f5 : r_pf sc p = 5 → pw (some (5, X)) (mp_P t X (if r_pf sc p = 0 then (if br_all R.2.2.1 = true then (if 30 ≤ R.1.1 + R.2.1.1 then (14, R) else (0, st_push R.1 (r_it sc p), R.2.1, R.2.2.1, R.2.2.2.1, R.2.2.2.2 + 1)) else (0, R)) else (r_pf sc p, R)) (p + 1 + bn sc p)) := fun z => by
          rw [z, if_neg (by decide)]
          exact pw_some ⟨rfl, h, fm.rf, fun z => absurd (show (5 : Int32) = 0 from z) (by decide)⟩
        have er : r_pf sc p = if bn sc p = 1 ∧ (sc.2 (p + 1) = 129 ∨ (¬ sc.2 (p + 1) < 1 ∧ ¬ 16 < sc.2 (p + 1))) then 5 else 0 := by
          unfold r_pf
          rw [if_pos (by omega), if_neg (by omega)]
        by_cases g4 : bn sc p = 1
        · rw [if_pos (show nI (bn sc p) = nI 1 by rw [g4])]
          by_cases g5 : sc.2 (p + 1) = 129
          · rw [if_pos g5]; exact f5 (by rw [er, if_pos ⟨g4, Or.inl g5⟩])
          · rw [if_neg g5]
            by_cases g6 : sc.2 (p + 1) < 1
            · rw [if_pos (show sc.2 (p + 1) < nI 1 from g6)]
              exact k117 (by rw [er, if_neg (fun z => z.2.elim g5 (fun z => z.1 g6))])
            · rw [if_neg (show ¬ sc.2 (p + 1) < nI 1 from g6)]
              by_cases g7 : 16 < sc.2 (p + 1)
              · rw [if_pos g7]; exact k117 (by rw [er, if_neg (fun z => z.2.elim g5 (fun z => z.2 g7))])
              · rw [if_neg g7]; exact f5 (by rw [er, if_pos ⟨g4, Or.inr ⟨g6, g7⟩⟩])
        · rw [if_neg (show ¬ nI (bn sc p) = nI 1 from fun z => g4 ((nI_eq (by omega) (by decide)).mp z))]
          exact k117 (by rw [er, if_neg (fun z => g4 z.1)])
      · have e : r_pf sc p = 3 := by
          unfold r_pf
          rw [if_pos (by omega), if_pos (by omega)]
        rw [if_neg (nI_ge (by omega) (by omega)), e, if_neg (by decide)]
        exact pw_some ⟨rfl, h, fm.rf, fun z => absurd (show (3 : Int32) = 0 from z) (by decide)⟩

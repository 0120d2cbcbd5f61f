/-! The other side: the comparing operations -/
theorem os_97 (t : tb_T) (a s : st_T) : op_sp t 97 a s = (0, a, s) := by
  unfold op_sp
  rw [if_pos rfl]
theorem os_105 (t : tb_T) (a s : st_T) : op_sp t 105 a s = (if a.1 < 1 then (11, a, s) else if it_t (st_i a 0) = 0 then (9, a, s) else (0, st_pop a 1, s)) := by
  unfold op_sp
  repeat rw [if_neg (by decide)]
  rw [if_pos rfl]
theorem os_106 (t : tb_T) (a s : st_T) : op_sp t 106 a s = (10, a, s) := by
  unfold op_sp
  repeat rw [if_neg (by decide)]
  rw [if_pos rfl]
theorem os_107 (t : tb_T) (a s : st_T) : op_sp t 107 a s = (if a.1 < 1 then (11, a, s) else (0, st_pop a 1, st_push s (st_i a 0))) := by
  unfold op_sp
  repeat rw [if_neg (by decide)]
  rw [if_pos rfl]
theorem os_108 (t : tb_T) (a s : st_T) : op_sp t 108 a s = (if s.1 < 1 then (11, a, s) else (0, st_push a (st_i s 0), st_pop s 1)) := by
  unfold op_sp
  repeat rw [if_neg (by decide)]
  rw [if_pos rfl]
theorem os_109 (t : tb_T) (a s : st_T) : op_sp t 109 a s = (if a.1 < 2 then (11, a, s) else (0, st_pop a 2, s)) := by
  unfold op_sp
  repeat rw [if_neg (by decide)]
  rw [if_pos rfl]
theorem os_110 (t : tb_T) (a s : st_T) : op_sp t 110 a s = (if a.1 < 2 then (11, a, s) else if 30 < a.1 + s.1 + 2 then (14, a, s) else (0, st_push (st_push a (st_i a 1)) (st_i a 0), s)) := by
  unfold op_sp
  repeat rw [if_neg (by decide)]
  rw [if_pos rfl]
theorem os_115 (t : tb_T) (a s : st_T) : op_sp t 115 a s = (if a.1 < 1 then (11, a, s) else if it_t (st_i a 0) = 0 then (0, a, s) else if 30 < a.1 + s.1 + 1 then (14, a, s) else (0, st_push a (st_i a 0), s)) := by
  unfold op_sp
  repeat rw [if_neg (by decide)]
  rw [if_pos rfl]
theorem os_116 (t : tb_T) (a s : st_T) : op_sp t 116 a s = (if 30 < a.1 + s.1 + 1 then (14, a, s) else (0, st_push a (it_e ((nI a.1).toInt64)), s)) := by
  unfold op_sp
  repeat rw [if_neg (by decide)]
  rw [if_pos rfl]
theorem os_117 (t : tb_T) (a s : st_T) : op_sp t 117 a s = (if a.1 < 1 then (11, a, s) else (0, st_pop a 1, s)) := by
  unfold op_sp
  repeat rw [if_neg (by decide)]
  rw [if_pos rfl]
theorem os_118 (t : tb_T) (a s : st_T) : op_sp t 118 a s = (if a.1 < 1 then (11, a, s) else if 30 < a.1 + s.1 + 1 then (14, a, s) else (0, st_push a (st_i a 0), s)) := by
  unfold op_sp
  repeat rw [if_neg (by decide)]
  rw [if_pos rfl]
theorem os_119 (t : tb_T) (a s : st_T) : op_sp t 119 a s = (if a.1 < 2 then (11, a, s) else (0, st_pop (st_raise a 1) 1, s)) := by
  unfold op_sp
  repeat rw [if_neg (by decide)]
  rw [if_pos rfl]
theorem os_120 (t : tb_T) (a s : st_T) : op_sp t 120 a s = (if a.1 < 2 then (11, a, s) else if 30 < a.1 + s.1 + 1 then (14, a, s) else (0, st_push a (st_i a 1), s)) := by
  unfold op_sp
  repeat rw [if_neg (by decide)]
  rw [if_pos rfl]
theorem os_121 (t : tb_T) (a s : st_T) : op_sp t 121 a s = op_pick false a s := by
  unfold op_sp
  repeat rw [if_neg (by decide)]
  rw [if_pos rfl]
theorem os_122 (t : tb_T) (a s : st_T) : op_sp t 122 a s = op_pick true a s := by
  unfold op_sp
  repeat rw [if_neg (by decide)]
  rw [if_pos rfl]
theorem os_123 (t : tb_T) (a s : st_T) : op_sp t 123 a s = (if a.1 < 3 then (11, a, s) else (0, st_raise a 2, s)) := by
  unfold op_sp
  repeat rw [if_neg (by decide)]
  rw [if_pos rfl]
theorem os_124 (t : tb_T) (a s : st_T) : op_sp t 124 a s = (if a.1 < 2 then (11, a, s) else (0, st_raise a 1, s)) := by
  unfold op_sp
  repeat rw [if_neg (by decide)]
  rw [if_pos rfl]
theorem os_125 (t : tb_T) (a s : st_T) : op_sp t 125 a s = (if a.1 < 2 then (11, a, s) else if 30 < a.1 + s.1 + 1 then (14, a, s) else (0, st_sink (st_push a (st_i a 0)) 2, s)) := by
  unfold op_sp
  repeat rw [if_neg (by decide)]
  rw [if_pos rfl]
theorem os_130 (t : tb_T) (a s : st_T) : op_sp t 130 a s = (if a.1 < 1 then (11, a, s) else if 30 < a.1 + s.1 + 1 then (14, a, s) else (0, st_push a (it_e ((nI (st_i a 0).1).toInt64)), s)) := by
  unfold op_sp
  repeat rw [if_neg (by decide)]
  rw [if_pos rfl]
theorem os_135 (t : tb_T) (a s : st_T) : op_sp t 135 a s = (if a.1 < 2 then (11, a, s) else (0, st_push (st_pop a 2) (it_e (b_l (it_s (st_i a 0) (st_i a 1)))), s)) := by
  unfold op_sp
  repeat rw [if_neg (by decide)]
  rw [if_pos rfl]
theorem os_136 (t : tb_T) (a s : st_T) : op_sp t 136 a s = (if a.1 < 2 then (11, a, s) else if it_s (st_i a 0) (st_i a 1) = true then (0, st_pop a 2, s) else (9, a, s)) := by
  unfold op_sp
  repeat rw [if_neg (by decide)]
  rw [if_pos rfl]
theorem os_169 (t : tb_T) (a s : st_T) : op_sp t 169 a s = (if a.1 < 1 then (11, a, s) else (0, (a.1, va_up a.2 (a.1 - 1) (it_d (it_h (st_i a 0).2 0 (st_i a 0).1))), s)) := by
  unfold op_sp
  repeat rw [if_neg (by decide)]
  rw [if_pos rfl]
theorem os_172 (t : tb_T) (a s : st_T) : op_sp t 172 a s = (if a.1 < 2 then (11, a, s) else (0, st_push (st_pop a 2) (it_e (b_l (tb_ok t (st_i a 1) (st_i a 0)))), s)) := by
  unfold op_sp
  repeat rw [if_neg (by decide)]
  rw [if_pos rfl]
theorem os_173 (t : tb_T) (a s : st_T) : op_sp t 173 a s = (if a.1 < 2 then (11, a, s) else if tb_ok t (st_i a 1) (st_i a 0) = true then (0, st_pop a 2, s) else (9, a, s)) := by
  unfold op_sp
  repeat rw [if_neg (by decide)]
  rw [if_pos rfl]
theorem os_174 (t : tb_T) (a s : st_T) : op_sp t 174 a s = op_many t a s := by
  unfold op_sp
  repeat rw [if_neg (by decide)]
  rw [if_pos rfl]
theorem h31 : ∀ i, i < 4 → (((8 * nI i) &&& 31).toBitVec.smod 32).toNat = 8 * i := by decide +kernel
theorem u31 : ∀ i, i < 4 → (((nI (8 * i)).toUInt32 &&& Int32.toUInt32 31).toBitVec % 32).toNat = 8 * i := by decide +kernel
theorem m255 : ∀ j, j < 32 → (255 : Int32).toBitVec.getLsbD j = decide (j < 8) := by decide +kernel
/-- a byte of a hash is the same by either shift -/
theorem sh_b (x : Int32) {i : Nat} (hi : i < 4) : (x >>> ((8 * nI i) &&& 31)) &&& 255 = xh_ush x (nI (8 * i)) &&& 255 := by
  apply Int32.toBitVec_inj.mp
  apply BitVec.eq_of_getLsbD_eq
  intro j hj
  rw [Int32.toBitVec_and, Int32.toBitVec_and, BitVec.getLsbD_and, BitVec.getLsbD_and, m255 j hj]
  by_cases g : j < 8
  · rw [decide_eq_true g, Bool.and_true, Bool.and_true, Int32.toBitVec_shiftRight]
    show (x.toBitVec.sshiftRight (((8 * nI i) &&& 31).toBitVec.smod 32).toNat).getLsbD j = (x.toUInt32 >>> ((nI (8 * i)).toUInt32 &&& Int32.toUInt32 31)).toBitVec.getLsbD j
    rw [h31 i hi, UInt32.toBitVec_shiftRight]
    show _ = (x.toUInt32.toBitVec >>> (((nI (8 * i)).toUInt32 &&& Int32.toUInt32 31).toBitVec % 32).toNat).getLsbD j
    rw [u31 i hi, BitVec.getLsbD_ushiftRight, BitVec.getLsbD_sshiftRight, decide_eq_false (show ¬ 32 ≤ j by omega), if_pos (show 8 * i + j < 32 by omega)]
    rfl
  · rw [decide_eq_false g, Bool.and_false, Bool.and_false]
theorem md_118 {X : xh_T} {n : Nat} (hn : n < 33) (h : Int32) : ∀ (m i fuel : Nat) (Y : xh_T), i + m = 4 → m < fuel → pF X Y n → (∀ j, j < i → Y.1 209 (33 * n + 1 + j) = (it_d h).2 j) → Y.1 209 (33 * n) = nI 4 → pw (fx_MD_compare_b118 fuel h (nI (33 * n)) (nI i) Y) (fun r X' => r = 0 ∧ iM X' 209 n (it_d h) ∧ pF X X' n) := by
  intro m
  induction m with
  | zero =>
    intro i fuel Y hi hf hF y1 y2
    obtain ⟨fuel, rfl⟩ : ∃ k, fuel = k + 1 := ⟨fuel - 1, by omega⟩
    rw [fx_MD_compare_b118, n4, if_pos (nI_le (by omega) (by omega))]
    exact pw_some ⟨rfl, ⟨y2, by show 4 ≤ 32; omega, fun j hj => y1 j (by have hj : j < 4 := hj; omega)⟩, hF⟩
  | succ m ih =>
    intro i fuel Y hi hf hF y1 y2
    obtain ⟨fuel, rfl⟩ : ∃ k, fuel = k + 1 := ⟨fuel - 1, by omega⟩
    rw [fx_MD_compare_b118, n4, if_neg (nI_ge (by omega) (by omega)), n1, nI_add, nI_add, xo_ (by omega) (by decide), xn_, xn_, nI_add, nI_clamp (by omega), sh_b h (by omega)]
    have e : 33 * n + 1 + i = 33 * n + (1 + i) := by omega
    refine ih (i + 1) fuel _ (by omega) (by omega) (by rw [e]; exact hF.i (by omega)) (fun j hj => ?_) (by rw [hi_j _ _ _ (by omega)]; exact y2)
    by_cases e2 : j = i
    · rw [e2, hi_s]; rfl
    · rw [hi_j _ _ _ (by omega)]; exact y1 j (by omega)
theorem md_199 {X Y : xh_T} {t : tb_T} {a s : st_T} (h : mR X t a s) (hY : mS Y a) (hf : fd X Y) (h2 : 2 ≤ a.1) (c : Int32) (f : Bool) : pw (fx_MD_compare_b199 c (b_i f) Y) (mo_P t X (0, if c = 135 ∨ c = 172 then st_push (st_pop a 2) (it_e (b_l f)) else st_pop a 2, s)) := by
  have h7 := h.2.2.2
  unfold fx_MD_compare_b199
  refine pw_b (pw_m (show pw (fx_MD_pop (nI 2) Y) _ from md_pop hY h2) (fun _ Z q => ?_))
  have key : pw (fx_MD_compare_b218 (b_i f) Z) (mo_P t X (0, st_push (st_pop a 2) (it_e (b_l f)), s)) := by
    have k2 : ∀ v : Int64, pw (fx_MD_compare_b228 v Z) (mo_P t X (0, st_push (st_pop a 2) (it_e v), s)) := fun v => by
      unfold fx_MD_compare_b228
      exact pw_b (pw_m (md_num q.1 (by show a.1 - 2 ≤ 31; omega) v) (fun _ W q2 => pw_some (mo_d h q2.1 ((hf.tr q.2).tr q2.2) (by show a.1 - 2 + 1 + s.1 ≤ 30; omega))))
    unfold fx_MD_compare_b218
    cases f
    · rw [if_pos (by decide)]; exact k2 0
    · rw [if_neg (by decide)]; exact k2 1
  by_cases g : c = 135
  · rw [if_pos g, if_pos (Or.inl g)]; exact key
  · rw [if_neg g]
    by_cases g2 : c = 172
    · rw [if_pos g2, if_pos (Or.inr g2)]; exact key
    · rw [if_neg g2, if_neg (fun z => z.elim g g2)]
      exact pw_some (mo_d h q.1 (hf.tr q.2) (by show a.1 - 2 + s.1 ≤ 30; omega))
theorem md_177 {X : xh_T} {t : tb_T} {a s : st_T} (h : mR X t a s) (h2 : 2 ≤ a.1) (c : Int32) (f : Bool) : pw (fx_MD_compare_b177 c (b_i f) X) (mo_P t X (if (c = 136 ∨ c = 173) ∧ f = false then (9, a, s) else (0, if c = 135 ∨ c = 172 then st_push (st_pop a 2) (it_e (b_l f)) else st_pop a 2, s))) := by
  have k1 := md_199 h h.1 fd.rf h2 c f
  have k2 : (c = 136 ∨ c = 173) → pw (fx_MD_compare_b192 c (b_i f) X) (mo_P t X (if (c = 136 ∨ c = 173) ∧ f = false then (9, a, s) else (0, if c = 135 ∨ c = 172 then st_push (st_pop a 2) (it_e (b_l f)) else st_pop a 2, s))) := fun hc => by
    unfold fx_MD_compare_b192
    cases f
    · rw [if_pos (by decide), if_pos ⟨hc, rfl⟩]
      exact pw_some (mo_0 h)
    · rw [if_neg (by decide), if_neg (fun z => absurd z.2 (by decide))]
      exact k1
  unfold fx_MD_compare_b177
  rw [xn_]
  by_cases g : c = 136
  · rw [if_pos g]; exact k2 (Or.inl g)
  · rw [if_neg g]
    by_cases g2 : c = 173
    · rw [if_pos g2]; exact k2 (Or.inr g2)
    · rw [if_neg g2, if_neg (fun z => z.1.elim g g2)]
      exact k1
theorem md_cmp {X : xh_T} {t : tb_T} {a s : st_T} (h : mR X t a s) (hB : st_B a) {c : Int32} (hc : c = 130 ∨ c = 135 ∨ c = 136 ∨ c = 169 ∨ c = 172 ∨ c = 173 ∨ c = 174) : pw (fx_MD_compare c X) (mo_P t X (op_sp t c a s)) := by
  have h7 := h.2.2.2
  have h4 := fu_
  have hn := h.1.1
  have two : ∀ {c : Int32}, ¬ c = 174 → ¬ c = 130 → ¬ c = 169 → a.1 < 2 → fx_MD_compare_b28 c X = some (11, X) := fun {c} k1 k2 k3 hl => by
    unfold fx_MD_compare_b28 fx_MD_compare_b33
    rw [xn_, if_neg k1, hn, if_neg (show ¬ (2 : Int32) ≤ nI a.1 from nI_ge (b := 2) hl (by decide))]
  have same : ∀ {c : Int32}, ¬ c = 174 → ¬ c = 130 → ¬ c = 169 → ¬ 172 ≤ c → ¬ a.1 < 2 → fx_MD_compare_b28 c X = fx_MD_compare_b177 c (b_i (it_s (st_i a 0) (st_i a 1))) X := fun {c} k1 k2 k3 k4 hl => by
    unfold fx_MD_compare_b28 fx_MD_compare_b33
    rw [xn_, if_neg k1, hn, if_pos (show (2 : Int32) ≤ nI a.1 from nI_le (a := 2) (by omega) (by omega)), if_neg k2, if_neg k3, if_neg k4, show fx_MD_same 0 1 X = _ from md_same h.1 (k := 0) (l := 1) (by omega) (by omega), xb_]
  have valid : ∀ {c : Int32}, ¬ c = 174 → ¬ c = 130 → ¬ c = 169 → 172 ≤ c → ¬ a.1 < 2 → fx_MD_compare_b28 c X = fx_MD_compare_b177 c (b_i (tb_ok t (st_i a 1) (st_i a 0))) X := fun {c} k1 k2 k3 k4 hl => by
    unfold fx_MD_compare_b28 fx_MD_compare_b33
    rw [xn_, if_neg k1, hn, if_pos (show (2 : Int32) ≤ nI a.1 from nI_le (a := 2) (by omega) (by omega)), if_neg k2, if_neg k3, if_pos k4, show fx_MD_valid 1 0 X = _ from md_valid h.1 h.2.2.1 (k := 1) (l := 0) (by omega) (by omega) (st_B_i hB 1), xb_]
  rcases hc with rfl | rfl | rfl | rfl | rfl | rfl | rfl
  · rw [os_130]
    unfold fx_MD_compare
    rw [if_neg (by decide), if_neg (by decide), if_neg (by decide), if_neg (by decide)]
    unfold fx_MD_compare_b33
    rw [xn_, if_neg (by decide), hn]
    by_cases g : a.1 < 1
    · rw [if_neg (show ¬ (1 : Int32) ≤ nI a.1 from nI_ge (b := 1) g (by decide)), if_pos g]
      exact pw_some (mo_0 h)
    · rw [if_pos (show (1 : Int32) ≤ nI a.1 from nI_le (a := 1) (by omega) (by omega)), if_pos rfl, if_neg g, show fx_MD_full 1 X = _ from md_full h.1 h.2.1.1 (c := 1) (by omega) (by decide), xb_]
      by_cases g2 : 30 < a.1 + s.1 + 1
      · rw [if_pos g2, if_neg (by decide), if_pos g2]
        exact pw_some (mo_0 h)
      · rw [if_neg g2, if_pos rfl, if_neg g2, show fx_MD_size 0 X = _ from md_size h.1 (k := 0) (by omega), xb_]
        exact pw_b (pw_m (md_num h.1 (by omega) _) (fun _ W q => pw_some (mo_d h q.1 q.2 (by show a.1 + 1 + s.1 ≤ 30; omega))))
  · rw [os_135]
    unfold fx_MD_compare
    rw [if_pos rfl]
    by_cases g : a.1 < 2
    · rw [two (by decide) (by decide) (by decide) g, if_pos g]; exact pw_some (mo_0 h)
    · rw [same (by decide) (by decide) (by decide) (by decide) g, if_neg g]
      have k := md_177 h (by omega) 135 (it_s (st_i a 0) (st_i a 1))
      rw [if_neg (fun z => z.1.elim (by decide) (by decide)), if_pos (Or.inl rfl)] at k
      exact k
  · rw [os_136]
    unfold fx_MD_compare
    rw [if_neg (by decide), if_pos rfl]
    by_cases g : a.1 < 2
    · rw [two (by decide) (by decide) (by decide) g, if_pos g]; exact pw_some (mo_0 h)
    · rw [same (by decide) (by decide) (by decide) (by decide) g, if_neg g]
      have k := md_177 h (by omega) 136 (it_s (st_i a 0) (st_i a 1))
      cases e : it_s (st_i a 0) (st_i a 1)
      · rw [e, if_pos ⟨Or.inl rfl, rfl⟩] at k; rw [if_neg (by decide)]; exact k
      · rw [e, if_neg (fun z => absurd z.2 (by decide)), if_neg (by decide)] at k; rw [if_pos rfl]; exact k
  · rw [os_169]
    unfold fx_MD_compare
    rw [if_neg (by decide), if_neg (by decide), if_neg (by decide), if_neg (by decide)]
    unfold fx_MD_compare_b33
    rw [xn_, if_neg (by decide), hn]
    by_cases g : a.1 < 1
    · rw [if_neg (show ¬ (1 : Int32) ≤ nI a.1 from nI_ge (b := 1) g (by decide)), if_pos g]
      exact pw_some (mo_0 h)
    · rw [if_pos (show (1 : Int32) ≤ nI a.1 from nI_le (a := 1) (by omega) (by omega)), if_neg (by decide), if_pos rfl, if_neg g, show fx_MD_hash 0 X = _ from md_hash h.1 (k := 0) (by omega), xb_, xn_, show fx_MD_row 0 X = _ from md_row h.1 (k := 0) (by omega), xb_, xn_, xo_ (by omega) (by decide), xn_, xn_, nI_clamp (by omega)]
      refine pw_m (md_118 (X := X) (n := a.1 - 1 - 0) (by omega) _ 4 0 sp_fuel _ (by omega) (by omega) ((show pF X X (a.1 - 1 - 0) from ⟨rfl, fun _ _ => rfl, fun _ _ => rfl⟩).i (c := 0) (by decide)) (fun j hj => absurd hj (by omega)) (hi_s _ _ _ _)) (fun r Z q => ?_)
      have f : fd X Z := ⟨by rw [q.2.2.1], fun k _ h2 => q.2.2.2.1 k h2, fun j _ => by rw [q.2.2.2.1 206 (by decide)]⟩
      rw [q.1]
      refine mo_d h ⟨by rw [q.2.2.2.1 206 (by decide)]; exact hn, h.1.2.1, fun j hj => ?_⟩ f h7
      have hj : j < a.1 := hj
      show iM Z 209 j (va_up a.2 (a.1 - 1) _ j)
      by_cases e : j = a.1 - 1
      · rw [e, va_up_self]; exact q.2.1
      · rw [va_up_ne _ _ e]
        exact (h.1.2.2 j hj).cp (fun k hk => q.2.2.2.2 _ (by omega))
  · rw [os_172]
    unfold fx_MD_compare
    rw [if_neg (by decide), if_neg (by decide), if_pos rfl]
    by_cases g : a.1 < 2
    · rw [two (by decide) (by decide) (by decide) g, if_pos g]; exact pw_some (mo_0 h)
    · rw [valid (by decide) (by decide) (by decide) (by decide) g, if_neg g]
      have k := md_177 h (by omega) 172 (tb_ok t (st_i a 1) (st_i a 0))
      rw [if_neg (fun z => z.1.elim (by decide) (by decide)), if_pos (Or.inr rfl)] at k
      exact k
  · rw [os_173]
    unfold fx_MD_compare
    rw [if_neg (by decide), if_neg (by decide), if_neg (by decide), if_pos rfl]
    by_cases g : a.1 < 2
    · rw [two (by decide) (by decide) (by decide) g, if_pos g]; exact pw_some (mo_0 h)
    · rw [valid (by decide) (by decide) (by decide) (by decide) g, if_neg g]
      have k := md_177 h (by omega) 173 (tb_ok t (st_i a 1) (st_i a 0))
      cases e : tb_ok t (st_i a 1) (st_i a 0)
      · rw [e, if_pos ⟨Or.inr rfl, rfl⟩] at k; rw [if_neg (by decide)]; exact k
      · rw [e, if_neg (fun z => absurd z.2 (by decide)), if_neg (by decide)] at k; rw [if_pos rfl]; exact k
  · rw [os_174]
    unfold fx_MD_compare
    rw [if_neg (by decide), if_neg (by decide), if_neg (by decide), if_neg (by decide)]
    unfold fx_MD_compare_b33
    rw [xn_, if_pos rfl]
    exact pw_b (pw_m (md_many h hB) (fun r Y k => pw_some k))

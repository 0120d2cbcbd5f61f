/-! The other side: the arranging operations -/
theorem md_ne97 (X : xh_T) : fx_MD_needs 97 X = some (0, X) := by
  unfold fx_MD_needs fx_MD_needs_b82
  rw [if_pos rfl]
theorem md_ne105 (X : xh_T) : fx_MD_needs 105 X = some (1, X) := by
  unfold fx_MD_needs fx_MD_needs_b82
  repeat rw [if_neg (by decide)]
theorem md_ne107 (X : xh_T) : fx_MD_needs 107 X = some (1, X) := by
  unfold fx_MD_needs fx_MD_needs_b82
  repeat rw [if_neg (by decide)]
theorem md_ne108 (X : xh_T) : fx_MD_needs 108 X = some (0, X) := by
  unfold fx_MD_needs fx_MD_needs_b82
  repeat rw [if_neg (by decide)]
  rw [if_pos rfl]
theorem md_ne109 (X : xh_T) : fx_MD_needs 109 X = some (2, X) := by
  unfold fx_MD_needs fx_MD_needs_b82
  repeat rw [if_neg (by decide)]
  rw [if_pos rfl]
theorem md_ne110 (X : xh_T) : fx_MD_needs 110 X = some (2, X) := by
  unfold fx_MD_needs fx_MD_needs_b82
  repeat rw [if_neg (by decide)]
  rw [if_pos rfl]
theorem md_ne115 (X : xh_T) : fx_MD_needs 115 X = some (1, X) := by
  unfold fx_MD_needs fx_MD_needs_b82
  repeat rw [if_neg (by decide)]
theorem md_ne116 (X : xh_T) : fx_MD_needs 116 X = some (0, X) := by
  unfold fx_MD_needs fx_MD_needs_b82
  repeat rw [if_neg (by decide)]
  rw [if_pos rfl]
theorem md_ne117 (X : xh_T) : fx_MD_needs 117 X = some (1, X) := by
  unfold fx_MD_needs fx_MD_needs_b82
  repeat rw [if_neg (by decide)]
theorem md_ne118 (X : xh_T) : fx_MD_needs 118 X = some (1, X) := by
  unfold fx_MD_needs fx_MD_needs_b82
  repeat rw [if_neg (by decide)]
theorem md_ne119 (X : xh_T) : fx_MD_needs 119 X = some (2, X) := by
  unfold fx_MD_needs fx_MD_needs_b82
  repeat rw [if_neg (by decide)]
  rw [if_pos rfl]
theorem md_ne120 (X : xh_T) : fx_MD_needs 120 X = some (2, X) := by
  unfold fx_MD_needs fx_MD_needs_b82
  repeat rw [if_neg (by decide)]
  rw [if_pos rfl]
theorem md_ne121 (X : xh_T) : fx_MD_needs 121 X = some (0, X) := by
  unfold fx_MD_needs fx_MD_needs_b82
  repeat rw [if_neg (by decide)]
  rw [if_pos rfl]
theorem md_ne122 (X : xh_T) : fx_MD_needs 122 X = some (0, X) := by
  unfold fx_MD_needs fx_MD_needs_b82
  repeat rw [if_neg (by decide)]
  rw [if_pos rfl]
theorem md_ne123 (X : xh_T) : fx_MD_needs 123 X = some (3, X) := by
  unfold fx_MD_needs fx_MD_needs_b82
  repeat rw [if_neg (by decide)]
  rw [if_pos rfl]
theorem md_ne124 (X : xh_T) : fx_MD_needs 124 X = some (2, X) := by
  unfold fx_MD_needs fx_MD_needs_b82
  repeat rw [if_neg (by decide)]
  rw [if_pos rfl]
theorem md_ne125 (X : xh_T) : fx_MD_needs 125 X = some (2, X) := by
  unfold fx_MD_needs fx_MD_needs_b82
  repeat rw [if_neg (by decide)]
  rw [if_pos rfl]
theorem md_gr97 (X : xh_T) : fx_MD_grows 97 X = some (0, X) := by
  unfold fx_MD_grows fx_MD_grows_b32
  repeat rw [if_neg (by decide)]
theorem md_gr105 (X : xh_T) : fx_MD_grows 105 X = some (0, X) := by
  unfold fx_MD_grows fx_MD_grows_b32
  repeat rw [if_neg (by decide)]
theorem md_gr107 (X : xh_T) : fx_MD_grows 107 X = some (0, X) := by
  unfold fx_MD_grows fx_MD_grows_b32
  repeat rw [if_neg (by decide)]
theorem md_gr108 (X : xh_T) : fx_MD_grows 108 X = some (0, X) := by
  unfold fx_MD_grows fx_MD_grows_b32
  repeat rw [if_neg (by decide)]
theorem md_gr109 (X : xh_T) : fx_MD_grows 109 X = some (0, X) := by
  unfold fx_MD_grows fx_MD_grows_b32
  repeat rw [if_neg (by decide)]
theorem md_gr110 (X : xh_T) : fx_MD_grows 110 X = some (2, X) := by
  unfold fx_MD_grows fx_MD_grows_b32
  rw [if_pos rfl]
theorem md_gr116 (X : xh_T) : fx_MD_grows 116 X = some (1, X) := by
  unfold fx_MD_grows fx_MD_grows_b32
  repeat rw [if_neg (by decide)]
  rw [if_pos rfl]
theorem md_gr117 (X : xh_T) : fx_MD_grows 117 X = some (0, X) := by
  unfold fx_MD_grows fx_MD_grows_b32
  repeat rw [if_neg (by decide)]
theorem md_gr118 (X : xh_T) : fx_MD_grows 118 X = some (1, X) := by
  unfold fx_MD_grows fx_MD_grows_b32
  repeat rw [if_neg (by decide)]
  rw [if_pos rfl]
theorem md_gr119 (X : xh_T) : fx_MD_grows 119 X = some (0, X) := by
  unfold fx_MD_grows fx_MD_grows_b32
  repeat rw [if_neg (by decide)]
theorem md_gr120 (X : xh_T) : fx_MD_grows 120 X = some (1, X) := by
  unfold fx_MD_grows fx_MD_grows_b32
  repeat rw [if_neg (by decide)]
  rw [if_pos rfl]
theorem md_gr123 (X : xh_T) : fx_MD_grows 123 X = some (0, X) := by
  unfold fx_MD_grows fx_MD_grows_b32
  repeat rw [if_neg (by decide)]
theorem md_gr124 (X : xh_T) : fx_MD_grows 124 X = some (0, X) := by
  unfold fx_MD_grows fx_MD_grows_b32
  repeat rw [if_neg (by decide)]
theorem md_gr125 (X : xh_T) : fx_MD_grows 125 X = some (1, X) := by
  unfold fx_MD_grows fx_MD_grows_b32
  repeat rw [if_neg (by decide)]
  rw [if_pos rfl]
theorem md_b97 (X : xh_T) (v : Int32) : fx_MD_move_b113 97 v X = some (0, X) := by
  unfold fx_MD_move_b113
  repeat rw [if_neg (by decide)]
theorem md_b105 (X : xh_T) (v : Int32) : fx_MD_move_b113 105 v X = xh_b (fx_MD_pop 1 X) (fun (_ : Unit) (X7 : xh_T) => some (0, X7)) := by
  unfold fx_MD_move_b113
  rw [if_pos rfl]
theorem md_b107 (X : xh_T) (v : Int32) : fx_MD_move_b113 107 v X = xh_b (fx_MD_row 0 X) (fun (r30 : Int32) (X8 : xh_T) => xh_b (fx_MD_copy 209 r30 210 (33 * X8.1 206 6) X8) (fun (_ : Unit) (X9 : xh_T) => xh_n (xh_i X9 206 6 (X9.1 206 6 + 1)) (fun X10 : xh_T => xh_b (fx_MD_pop 1 X10) (fun (_ : Unit) (X11 : xh_T) => some (0, X11))))) := by
  unfold fx_MD_move_b113
  repeat rw [if_neg (by decide)]
  rw [if_pos rfl]
theorem md_b108 (X : xh_T) (v : Int32) : fx_MD_move_b113 108 v X = xh_n (xh_i X 206 6 (X.1 206 6 - 1)) (fun X12 : xh_T => xh_b (fx_MD_copy 210 (33 * X12.1 206 6) 209 (33 * X12.1 206 5) X12) (fun (_ : Unit) (X13 : xh_T) => xh_n (xh_i X13 206 5 (X13.1 206 5 + 1)) (fun X14 : xh_T => some (0, X14)))) := by
  unfold fx_MD_move_b113
  repeat rw [if_neg (by decide)]
  rw [if_pos rfl]
theorem md_b109 (X : xh_T) (v : Int32) : fx_MD_move_b113 109 v X = xh_b (fx_MD_pop 2 X) (fun (_ : Unit) (X15 : xh_T) => some (0, X15)) := by
  unfold fx_MD_move_b113
  repeat rw [if_neg (by decide)]
  rw [if_pos rfl]
theorem md_b110 (X : xh_T) (v : Int32) : fx_MD_move_b113 110 v X = xh_b (fx_MD_again 1 X) (fun (_ : Unit) (X16 : xh_T) => xh_b (fx_MD_again 1 X16) (fun (_ : Unit) (X17 : xh_T) => some (0, X17))) := by
  unfold fx_MD_move_b113
  repeat rw [if_neg (by decide)]
  rw [if_pos rfl]
theorem md_b115 (X : xh_T) (v : Int32) : fx_MD_move_b113 115 v X = (if v = 1 then xh_b (fx_MD_again 0 X) (fun (_ : Unit) (X18 : xh_T) => some (0, X18)) else some (0, X)) := by
  unfold fx_MD_move_b113
  repeat rw [if_neg (by decide)]
  rw [if_pos rfl]
theorem md_b116 (X : xh_T) (v : Int32) : fx_MD_move_b113 116 v X = xh_b (fx_MD_pushNumber ((X.1 206 5 : Int32).toInt64) X) (fun (_ : Unit) (X19 : xh_T) => some (0, X19)) := by
  unfold fx_MD_move_b113
  repeat rw [if_neg (by decide)]
  rw [if_pos rfl]
theorem md_b117 (X : xh_T) (v : Int32) : fx_MD_move_b113 117 v X = xh_b (fx_MD_pop 1 X) (fun (_ : Unit) (X20 : xh_T) => some (0, X20)) := by
  unfold fx_MD_move_b113
  repeat rw [if_neg (by decide)]
  rw [if_pos rfl]
theorem md_b118 (X : xh_T) (v : Int32) : fx_MD_move_b113 118 v X = xh_b (fx_MD_again 0 X) (fun (_ : Unit) (X21 : xh_T) => some (0, X21)) := by
  unfold fx_MD_move_b113
  repeat rw [if_neg (by decide)]
  rw [if_pos rfl]
theorem md_b119 (X : xh_T) (v : Int32) : fx_MD_move_b113 119 v X = xh_b (fx_MD_remove 1 X) (fun (_ : Unit) (X22 : xh_T) => some (0, X22)) := by
  unfold fx_MD_move_b113
  repeat rw [if_neg (by decide)]
  rw [if_pos rfl]
theorem md_b120 (X : xh_T) (v : Int32) : fx_MD_move_b113 120 v X = xh_b (fx_MD_again 1 X) (fun (_ : Unit) (X23 : xh_T) => some (0, X23)) := by
  unfold fx_MD_move_b113
  repeat rw [if_neg (by decide)]
  rw [if_pos rfl]
theorem md_b123 (X : xh_T) (v : Int32) : fx_MD_move_b113 123 v X = xh_b (fx_MD_again 2 X) (fun (_ : Unit) (X24 : xh_T) => xh_b (fx_MD_remove 3 X24) (fun (_ : Unit) (X25 : xh_T) => some (0, X25))) := by
  unfold fx_MD_move_b113
  repeat rw [if_neg (by decide)]
  rw [if_pos rfl]
theorem md_b124 (X : xh_T) (v : Int32) : fx_MD_move_b113 124 v X = xh_b (fx_MD_again 1 X) (fun (_ : Unit) (X26 : xh_T) => xh_b (fx_MD_remove 2 X26) (fun (_ : Unit) (X27 : xh_T) => if (124 : Int32) = 125 then xh_b (fx_MD_again 1 X27) (fun (_ : Unit) (X28 : xh_T) => some (0, X28)) else some (0, X27))) := by
  unfold fx_MD_move_b113
  repeat rw [if_neg (by decide)]
  rw [if_pos rfl]
theorem md_b125 (X : xh_T) (v : Int32) : fx_MD_move_b113 125 v X = xh_b (fx_MD_again 1 X) (fun (_ : Unit) (X29 : xh_T) => xh_b (fx_MD_remove 2 X29) (fun (_ : Unit) (X30 : xh_T) => if (125 : Int32) = 125 then xh_b (fx_MD_again 1 X30) (fun (_ : Unit) (X31 : xh_T) => some (0, X31)) else some (0, X30))) := by
  unfold fx_MD_move_b113
  repeat rw [if_neg (by decide)]
  rw [if_pos rfl]
theorem st_i_s {a : st_T} {x : it_T} {k : Nat} (hk : k < a.1) : st_i (st_push a x) (k + 1) = st_i a k := by
  unfold st_i
  rw [if_pos (show k + 1 < (st_push a x).1 from Nat.succ_lt_succ hk), if_pos hk]
  show va_up a.2 a.1 x (a.1 + 1 - 1 - (k + 1)) = _
  rw [va_up_ne _ _ (by omega), show a.1 + 1 - 1 - (k + 1) = a.1 - 1 - k by omega]
theorem md_raise {X : xh_T} {a : st_T} {k : Nat} (h : mS X a) (hk : k < a.1) (hn : a.1 ≤ 31) {α : Type} {K : Unit → xh_T → Option (α × xh_T)} {P : α → xh_T → Prop} (hK : ∀ Z, mS Z (st_raise a k) → fd X Z → pw (K () Z) P) : pw (xh_b (fx_MD_again (nI k) X) (fun (_ : Unit) (Y : xh_T) => xh_b (fx_MD_remove (nI (k + 1)) Y) K)) P := by
  refine pw_b (pw_m (md_again h hk hn) (fun _ Y q => ?_))
  refine pw_b (pw_m (md_rem q.1 (k := k + 1) (by show k + 1 < a.1 + 1; omega)) (fun _ Z q2 => hK Z (q2.1.to (b := st_raise a k) (by show a.1 + 1 - 1 = a.1; omega) (fun j hj => ?_)) (q.2.tr q2.2)))
  have hj : j < a.1 + 1 - 1 := hj
  show (if j < a.1 + 1 - 1 - (k + 1) then va_up a.2 a.1 (st_i a k) j else va_up a.2 a.1 (st_i a k) (j + 1)) = (if j < a.1 - 1 - k then a.2 j else if j < a.1 - 1 then a.2 (j + 1) else a.2 (a.1 - 1 - k))
  by_cases g : j < a.1 - 1 - k
  · rw [if_pos (by omega), if_pos g, va_up_ne _ _ (by omega)]
  · rw [if_neg (by omega), if_neg g]
    by_cases g2 : j < a.1 - 1
    · rw [if_pos g2, va_up_ne _ _ (by omega)]
    · rw [if_neg g2, show j + 1 = a.1 by omega, va_up_self]
      unfold st_i
      rw [if_pos hk]
theorem md_mvg {X : xh_T} {t : tb_T} {a s : st_T} (h : mR X t a s) {c : Int32} {Q : op_T} (h1 : ¬ c = 106) (h2 : ¬ c = 108) (h3 : ¬ c = 105) (h4 : ¬ c = 121) (h5 : ¬ c = 122) (h6 : ¬ c = 115) {k g : Nat} (hk : k ≤ 3) (hg : g ≤ 2) (en : fx_MD_needs c X = some (nI k, X)) (eg : fx_MD_grows c X = some (nI g, X)) (q1 : a.1 < k → Q = (11, a, s)) (q2 : k ≤ a.1 → 0 < g → 30 < a.1 + s.1 + g → Q = (14, a, s)) (q3 : k ≤ a.1 → (0 < g → a.1 + s.1 + g ≤ 30) → pw (fx_MD_move_b113 c (nI g) X) (mo_P t X Q)) : pw (fx_MD_move c X) (mo_P t X Q) := by
  have h7 := h.2.2.2
  unfold fx_MD_move
  rw [if_neg h1, en, xb_, h.1.1]
  by_cases g1 : a.1 < k
  · rw [if_pos (nI_lt g1 (by omega)), q1 g1]; exact pw_some (mo_0 h)
  · rw [if_neg (nI_nlt (by omega) (by omega)), if_neg h2]
    unfold fx_MD_move_b36 fx_MD_move_b53
    rw [if_neg h3, if_neg h4, if_neg h5, if_neg h6, eg, xb_]
    unfold fx_MD_move_b97
    rw [xn_]
    by_cases g2 : g = 0
    · rw [if_pos (show nI g ≤ 0 by rw [g2]; decide)]
      exact q3 (by omega) (fun z => absurd z (by omega))
    · rw [if_neg (nI_nle (by omega) (by omega)), md_full h.1 h.2.1.1 (by omega) (by omega), xb_]
      by_cases g3 : 30 < a.1 + s.1 + g
      · rw [if_pos g3, if_neg (by decide), q2 (by omega) (by omega) g3]; exact pw_some (mo_0 h)
      · rw [if_neg g3, if_pos rfl]; exact q3 (by omega) (fun _ => by omega)
theorem md_97 {X : xh_T} {t : tb_T} {a s : st_T} (h : mR X t a s) : pw (fx_MD_move 97 X) (mo_P t X (op_sp t 97 a s)) := by
  rw [os_97]
  refine md_mvg h (k := 0) (g := 0) (by decide) (by decide) (by decide) (by decide) (by decide) (by decide) (by decide) (by decide) (md_ne97 X) (md_gr97 X) (fun z => absurd z (by omega)) (fun _ z => absurd z (by decide)) (fun _ _ => ?_)
  rw [md_b97]
  exact pw_some (mo_0 h)
theorem md_109 {X : xh_T} {t : tb_T} {a s : st_T} (h : mR X t a s) : pw (fx_MD_move 109 X) (mo_P t X (op_sp t 109 a s)) := by
  have h7 := h.2.2.2
  rw [os_109]
  refine md_mvg h (k := 2) (g := 0) (by decide) (by decide) (by decide) (by decide) (by decide) (by decide) (by decide) (by decide) (md_ne109 X) (md_gr109 X) (fun z => if_pos z) (fun _ z => absurd z (by decide)) (fun g _ => ?_)
  rw [md_b109, if_neg (by omega)]
  exact pw_b (pw_m (show pw (fx_MD_pop (nI 2) X) _ from md_pop h.1 g) (fun _ Z q => pw_some (mo_d h q.1 q.2 (by show a.1 - 2 + s.1 ≤ 30; omega))))
theorem md_117 {X : xh_T} {t : tb_T} {a s : st_T} (h : mR X t a s) : pw (fx_MD_move 117 X) (mo_P t X (op_sp t 117 a s)) := by
  have h7 := h.2.2.2
  rw [os_117]
  refine md_mvg h (k := 1) (g := 0) (by decide) (by decide) (by decide) (by decide) (by decide) (by decide) (by decide) (by decide) (md_ne117 X) (md_gr117 X) (fun z => if_pos z) (fun _ z => absurd z (by decide)) (fun g _ => ?_)
  rw [md_b117, if_neg (by omega)]
  exact pw_b (pw_m (show pw (fx_MD_pop (nI 1) X) _ from md_pop h.1 g) (fun _ Z q => pw_some (mo_d h q.1 q.2 (by show a.1 - 1 + s.1 ≤ 30; omega))))
theorem md_110 {X : xh_T} {t : tb_T} {a s : st_T} (h : mR X t a s) : pw (fx_MD_move 110 X) (mo_P t X (op_sp t 110 a s)) := by
  have h7 := h.2.2.2
  rw [os_110]
  refine md_mvg h (k := 2) (g := 2) (by decide) (by decide) (by decide) (by decide) (by decide) (by decide) (by decide) (by decide) (md_ne110 X) (md_gr110 X) (fun z => if_pos z) (fun z1 _ z3 => by rw [if_neg (by omega), if_pos z3]) (fun g g2 => ?_)
  have g3 := g2 (by decide)
  rw [md_b110, if_neg (by omega), if_neg (by omega)]
  refine pw_b (pw_m (show pw (fx_MD_again (nI 1) X) _ from md_again h.1 (by omega) (by omega)) (fun _ Y q => ?_))
  refine pw_b (pw_m (show pw (fx_MD_again (nI 1) Y) _ from md_again q.1 (by show 1 < a.1 + 1; omega) (by show a.1 + 1 ≤ 31; omega)) (fun _ Z q2 => ?_))
  rw [st_i_s (show 0 < a.1 by omega)] at q2
  exact pw_some (mo_d h q2.1 (q.2.tr q2.2) (by show a.1 + 1 + 1 + s.1 ≤ 30; omega))
theorem md_116 {X : xh_T} {t : tb_T} {a s : st_T} (h : mR X t a s) : pw (fx_MD_move 116 X) (mo_P t X (op_sp t 116 a s)) := by
  have h7 := h.2.2.2
  rw [os_116]
  refine md_mvg h (k := 0) (g := 1) (by decide) (by decide) (by decide) (by decide) (by decide) (by decide) (by decide) (by decide) (md_ne116 X) (md_gr116 X) (fun z => absurd z (by omega)) (fun z1 _ z3 => if_pos z3) (fun g g2 => ?_)
  have g3 := g2 (by decide)
  rw [md_b116, if_neg (by omega), h.1.1]
  exact pw_b (pw_m (md_num h.1 (by omega) _) (fun _ Z q => pw_some (mo_d h q.1 q.2 (by show a.1 + 1 + s.1 ≤ 30; omega))))
theorem md_118' {X : xh_T} {t : tb_T} {a s : st_T} (h : mR X t a s) : pw (fx_MD_move 118 X) (mo_P t X (op_sp t 118 a s)) := by
  have h7 := h.2.2.2
  rw [os_118]
  refine md_mvg h (k := 1) (g := 1) (by decide) (by decide) (by decide) (by decide) (by decide) (by decide) (by decide) (by decide) (md_ne118 X) (md_gr118 X) (fun z => if_pos z) (fun z1 _ z3 => by rw [if_neg (by omega), if_pos z3]) (fun g g2 => ?_)
  have g3 := g2 (by decide)
  rw [md_b118, if_neg (by omega), if_neg (by omega)]
  exact pw_b (pw_m (show pw (fx_MD_again (nI 0) X) _ from md_again h.1 (by omega) (by omega)) (fun _ Z q => pw_some (mo_d h q.1 q.2 (by show a.1 + 1 + s.1 ≤ 30; omega))))
theorem md_120 {X : xh_T} {t : tb_T} {a s : st_T} (h : mR X t a s) : pw (fx_MD_move 120 X) (mo_P t X (op_sp t 120 a s)) := by
  have h7 := h.2.2.2
  rw [os_120]
  refine md_mvg h (k := 2) (g := 1) (by decide) (by decide) (by decide) (by decide) (by decide) (by decide) (by decide) (by decide) (md_ne120 X) (md_gr120 X) (fun z => if_pos z) (fun z1 _ z3 => by rw [if_neg (by omega), if_pos z3]) (fun g g2 => ?_)
  have g3 := g2 (by decide)
  rw [md_b120, if_neg (by omega), if_neg (by omega)]
  exact pw_b (pw_m (show pw (fx_MD_again (nI 1) X) _ from md_again h.1 (by omega) (by omega)) (fun _ Z q => pw_some (mo_d h q.1 q.2 (by show a.1 + 1 + s.1 ≤ 30; omega))))
theorem md_119 {X : xh_T} {t : tb_T} {a s : st_T} (h : mR X t a s) : pw (fx_MD_move 119 X) (mo_P t X (op_sp t 119 a s)) := by
  have h7 := h.2.2.2
  rw [os_119]
  refine md_mvg h (k := 2) (g := 0) (by decide) (by decide) (by decide) (by decide) (by decide) (by decide) (by decide) (by decide) (md_ne119 X) (md_gr119 X) (fun z => if_pos z) (fun _ z => absurd z (by decide)) (fun g _ => ?_)
  rw [md_b119, if_neg (by omega)]
  refine pw_b (pw_m (show pw (fx_MD_remove (nI 1) X) _ from md_rem h.1 (by omega)) (fun _ Z q => pw_some (mo_d h (q.1.to (b := st_pop (st_raise a 1) 1) rfl (fun j hj => ?_)) q.2 (by show a.1 - 1 + s.1 ≤ 30; omega))))
  have hj : j < a.1 - 1 := hj
  show (if j < a.1 - 1 - 1 then a.2 j else a.2 (j + 1)) = (if j < a.1 - 1 - 1 then a.2 j else if j < a.1 - 1 then a.2 (j + 1) else a.2 (a.1 - 1 - 1))
  rw [if_pos hj]
theorem md_123 {X : xh_T} {t : tb_T} {a s : st_T} (h : mR X t a s) : pw (fx_MD_move 123 X) (mo_P t X (op_sp t 123 a s)) := by
  have h7 := h.2.2.2
  rw [os_123]
  refine md_mvg h (k := 3) (g := 0) (by decide) (by decide) (by decide) (by decide) (by decide) (by decide) (by decide) (by decide) (md_ne123 X) (md_gr123 X) (fun z => if_pos z) (fun _ z => absurd z (by decide)) (fun g _ => ?_)
  rw [md_b123, if_neg (by omega)]
  exact md_raise h.1 (k := 2) (by omega) (by omega) (fun Z q1 q2 => pw_some (mo_d h q1 q2 h7))
theorem md_124 {X : xh_T} {t : tb_T} {a s : st_T} (h : mR X t a s) : pw (fx_MD_move 124 X) (mo_P t X (op_sp t 124 a s)) := by
  have h7 := h.2.2.2
  rw [os_124]
  refine md_mvg h (k := 2) (g := 0) (by decide) (by decide) (by decide) (by decide) (by decide) (by decide) (by decide) (by decide) (md_ne124 X) (md_gr124 X) (fun z => if_pos z) (fun _ z => absurd z (by decide)) (fun g _ => ?_)
  rw [md_b124, if_neg (by omega)]
  exact md_raise h.1 (k := 1) (by omega) (by omega) (fun Z q1 q2 => by rw [if_neg (by decide)]; exact pw_some (mo_d h q1 q2 h7))
theorem md_125 {X : xh_T} {t : tb_T} {a s : st_T} (h : mR X t a s) : pw (fx_MD_move 125 X) (mo_P t X (op_sp t 125 a s)) := by
  have h7 := h.2.2.2
  rw [os_125]
  refine md_mvg h (k := 2) (g := 1) (by decide) (by decide) (by decide) (by decide) (by decide) (by decide) (by decide) (by decide) (md_ne125 X) (md_gr125 X) (fun z => if_pos z) (fun z1 _ z3 => by rw [if_neg (by omega), if_pos z3]) (fun g g2 => ?_)
  have g3 := g2 (by decide)
  rw [md_b125, if_neg (by omega), if_neg (by omega)]
  refine md_raise h.1 (k := 1) (by omega) (by omega) (fun Z q1 q2 => ?_)
  rw [if_pos rfl]
  refine pw_b (pw_m (show pw (fx_MD_again (nI 1) Z) _ from md_again q1 (by show 1 < a.1; omega) (by show a.1 ≤ 31; omega)) (fun _ W q3 => pw_some (mo_d h (q3.1.to (b := st_sink (st_push a (st_i a 0)) 2) rfl (fun j hj => ?_)) (q2.tr q3.2) (by show a.1 + 1 + s.1 ≤ 30; omega))))
  have hj : j < a.1 + 1 := hj
  have e0 : st_i a 0 = a.2 (a.1 - 1) := if_pos (by omega)
  have e1 : st_i (st_raise a 1) 1 = a.2 (a.1 - 1) := by
    unfold st_i
    rw [if_pos (show 1 < (st_raise a 1).1 from g)]
    show (if a.1 - 1 - 1 < a.1 - 1 - 1 then _ else if a.1 - 1 - 1 < a.1 - 1 then a.2 (a.1 - 1 - 1 + 1) else _) = _
    rw [if_neg (by omega), if_pos (by omega), show a.1 - 1 - 1 + 1 = a.1 - 1 by omega]
  show va_up (st_raise a 1).2 a.1 (st_i (st_raise a 1) 1) j = (if j < a.1 + 1 - 1 - 2 then va_up a.2 a.1 (st_i a 0) j else if j = a.1 + 1 - 1 - 2 then va_up a.2 a.1 (st_i a 0) (a.1 + 1 - 1) else va_up a.2 a.1 (st_i a 0) (j - 1))
  rw [e0, e1]
  by_cases c1 : j = a.1
  · rw [c1, va_up_self, if_neg (by omega), if_neg (by omega), va_up_ne _ _ (by omega)]
  · rw [va_up_ne _ _ c1]
    show (if j < a.1 - 1 - 1 then a.2 j else if j < a.1 - 1 then a.2 (j + 1) else a.2 (a.1 - 1 - 1)) = _
    by_cases c2 : j < a.1 - 1 - 1
    · rw [if_pos c2, if_pos (by omega), va_up_ne _ _ (by omega)]
    · rw [if_neg c2, if_neg (show ¬ j < a.1 + 1 - 1 - 2 by omega)]
      by_cases c3 : j < a.1 - 1
      · rw [if_pos c3, if_pos (by omega), show a.1 + 1 - 1 = a.1 by omega, va_up_self, show j + 1 = a.1 - 1 by omega]
      · rw [if_neg c3, if_neg (by omega), va_up_ne _ _ (by omega), show j - 1 = a.1 - 1 - 1 by omega]

/-! The other side: the rest of the arranging operations -/
theorem md_106 {X : xh_T} {t : tb_T} {a s : st_T} (h : mR X t a s) : pw (fx_MD_move 106 X) (mo_P t X (op_sp t 106 a s)) := by
  rw [os_106]
  unfold fx_MD_move
  rw [if_pos rfl]
  exact pw_some (mo_0 h)
theorem md_105 {X : xh_T} {t : tb_T} {a s : st_T} (h : mR X t a s) : pw (fx_MD_move 105 X) (mo_P t X (op_sp t 105 a s)) := by
  have h7 := h.2.2.2
  rw [os_105]
  unfold fx_MD_move
  rw [if_neg (by decide), md_ne105, xb_, h.1.1, n1]
  by_cases g : a.1 < 1
  · rw [if_pos (nI_lt g (by decide)), if_pos g]; exact pw_some (mo_0 h)
  · rw [if_neg (nI_nlt (by omega) (by omega)), if_neg (by decide), if_neg g]
    unfold fx_MD_move_b36
    rw [if_pos rfl, show fx_MD_isTrue 0 X = _ from md_true h.1 (k := 0) (by omega), xb_]
    by_cases g2 : it_t (st_i a 0) = 0
    · rw [if_pos g2, if_pos g2]; exact pw_some (mo_0 h)
    · rw [if_neg g2, if_neg g2]
      unfold fx_MD_move_b53
      rw [if_neg (by decide), if_neg (by decide), if_neg (by decide), md_gr105, xb_]
      unfold fx_MD_move_b97
      rw [xn_, if_pos (by decide), md_b105]
      exact pw_b (pw_m (show pw (fx_MD_pop (nI 1) X) _ from md_pop h.1 (by omega)) (fun _ Z q => pw_some (mo_d h q.1 q.2 (by show a.1 - 1 + s.1 ≤ 30; omega))))
theorem md_115 {X : xh_T} {t : tb_T} {a s : st_T} (h : mR X t a s) : pw (fx_MD_move 115 X) (mo_P t X (op_sp t 115 a s)) := by
  have h7 := h.2.2.2
  rw [os_115]
  unfold fx_MD_move
  rw [if_neg (by decide), md_ne115, xb_, h.1.1, n1]
  by_cases g : a.1 < 1
  · rw [if_pos (nI_lt g (by decide)), if_pos g]; exact pw_some (mo_0 h)
  · rw [if_neg (nI_nlt (by omega) (by omega)), if_neg (by decide), if_neg g]
    unfold fx_MD_move_b36
    rw [if_neg (by decide)]
    unfold fx_MD_move_b53
    rw [if_neg (by decide), if_neg (by decide), if_pos rfl, show fx_MD_isTrue 0 X = _ from md_true h.1 (k := 0) (by omega), xb_]
    unfold fx_MD_move_b97
    by_cases g2 : it_t (st_i a 0) = 0
    · rw [if_pos g2, if_pos g2, xn_, if_pos (by decide), md_b115, if_neg (by decide)]
      exact pw_some (mo_0 h)
    · rw [if_neg g2, if_neg g2, xn_, if_neg (by decide), show fx_MD_full 1 X = _ from md_full h.1 h.2.1.1 (c := 1) (by omega) (by decide), xb_]
      by_cases g3 : 30 < a.1 + s.1 + 1
      · rw [if_pos g3, if_neg (by decide), if_pos g3]; exact pw_some (mo_0 h)
      · rw [if_neg g3, if_pos rfl, if_neg g3, md_b115, if_pos rfl]
        exact pw_b (pw_m (show pw (fx_MD_again (nI 0) X) _ from md_again h.1 (by omega) (by omega)) (fun _ Z q => pw_some (mo_d h q.1 q.2 (by show a.1 + 1 + s.1 ≤ 30; omega))))
theorem md_107 {X : xh_T} {t : tb_T} {a s : st_T} (h : mR X t a s) : pw (fx_MD_move 107 X) (mo_P t X (op_sp t 107 a s)) := by
  have h7 := h.2.2.2
  rw [os_107]
  refine md_mvg h (k := 1) (g := 0) (by decide) (by decide) (by decide) (by decide) (by decide) (by decide) (by decide) (by decide) (md_ne107 X) (md_gr107 X) (fun z => if_pos z) (fun _ z => absurd z (by decide)) (fun g _ => ?_)
  rw [md_b107, if_neg (by omega), show fx_MD_row 0 X = _ from md_row h.1 (k := 0) (by omega), xb_, h.2.1.1, show (33 : Int32) * nI s.1 = nI (33 * s.1) from nm_ 33 s.1]
  refine pw_b (pw_m (md_copy (i := a.1 - 1 - 0) (j := s.1) s209 s210 l209 l210 (by omega) (by omega) (Or.inl (by decide))) (fun _ Y q => ?_))
  rw [xn_, q.2.2.1 206 (by decide), h.2.1.1, nI_1]
  have m1 : mS (xh_i Y 206 6 (nI (s.1 + 1))) a := h.1.keep (by rw [hi_j _ _ _ (by decide : 5 ≠ 6), q.2.2.1 206 (by decide)]) (by rw [hi_k _ _ _ (by decide : 209 ≠ 206), q.2.2.1 209 (by decide)])
  refine pw_b (pw_m (show pw (fx_MD_pop (nI 1) _) _ from md_pop m1 (by omega)) (fun _ Z p => pw_some ⟨rfl, ⟨p.1, ⟨?_, fun j hj => ?_⟩, ?_, by show a.1 - 1 + (s.1 + 1) ≤ 30; omega⟩, ?_⟩))
  · rw [p.2.2.2 6 (by decide), hi_s]; rfl
  · have hj : j < s.1 + 1 := hj
    have e : Z.1 210 = Y.1 210 := by rw [p.2.2.1 210 (by decide) (by decide), hi_k _ _ _ (by decide : 210 ≠ 206)]
    show iM Z 210 j (va_up s.2 s.1 (st_i a 0) j)
    by_cases e2 : j = s.1
    · rw [e2, va_up_self]
      exact (h.1.i (k := 0) (by omega)).cp (fun k hk => by rw [e]; exact q.1 k hk)
    · rw [va_up_ne _ _ e2]
      exact (h.2.1.2 j (by omega)).cp (fun k hk => by rw [e]; exact q.2.1 _ (by omega))
  · refine h.2.2.1.keep ?_ ?_ ?_
    · rw [p.2.2.2 13 (by decide), hi_j _ _ _ (by decide : 13 ≠ 6), q.2.2.1 206 (by decide)]
    · rw [p.2.2.1 213 (by decide) (by decide), hi_k _ _ _ (by decide : 213 ≠ 206), q.2.2.1 213 (by decide)]
    · rw [p.2.2.1 214 (by decide) (by decide), hi_k _ _ _ (by decide : 214 ≠ 206), q.2.2.1 214 (by decide)]
  · refine ⟨?_, fun k h1 h2 h3 => ?_, fun j h1 h2 => ?_⟩
    · rw [p.2.1]; show Y.2.1 = _; rw [q.2.2.2]
    · rw [p.2.2.1 k h1 h2, hi_k _ _ _ h1, q.2.2.1 k h3]
    · rw [p.2.2.2 j h1, hi_j _ _ _ h2, q.2.2.1 206 (by decide)]
theorem md_108 {X : xh_T} {t : tb_T} {a s : st_T} (h : mR X t a s) : pw (fx_MD_move 108 X) (mo_P t X (op_sp t 108 a s)) := by
  have h7 := h.2.2.2
  rw [os_108]
  unfold fx_MD_move
  rw [if_neg (by decide), md_ne108, xb_, h.1.1, if_neg (nI_pos (by omega)), if_pos rfl, h.2.1.1]
  by_cases g : s.1 < 1
  · rw [if_pos (show nI s.1 = 0 by rw [show s.1 = 0 by omega]; rfl), if_pos g]; exact pw_some (mo_0 h)
  · rw [if_neg (nI_ne0 (by omega) (by omega)), if_neg g]
    unfold fx_MD_move_b36
    rw [if_neg (by decide)]
    unfold fx_MD_move_b53
    rw [if_neg (by decide), if_neg (by decide), if_neg (by decide), md_gr108, xb_]
    unfold fx_MD_move_b97
    rw [xn_, if_pos (by decide), md_b108, xn_, hi_s, hi_j _ _ _ (by decide : 5 ≠ 6), h.2.1.1, h.1.1, n1, pk_sub (by omega), show (33 : Int32) * nI (s.1 - 1) = nI (33 * (s.1 - 1)) from nm_ 33 _, show (33 : Int32) * nI a.1 = nI (33 * a.1) from nm_ 33 _]
    refine pw_b (pw_m (md_copy (i := s.1 - 1) (j := a.1) s210 s209 l210 l209 (by omega) (by omega) (Or.inl (by decide))) (fun _ Y q => ?_))
    rw [xn_, q.2.2.1 206 (by decide), hi_j _ _ _ (by decide : 5 ≠ 6), h.1.1, nI_add]
    have es : st_i s 0 = s.2 (s.1 - 1) := if_pos (by omega)
    refine pw_some ⟨rfl, ⟨h.1.push (by omega) (hi_s _ _ _ _) (fun m hm => ?_) ?_, ⟨?_, fun j hj => ?_⟩, ?_, by show a.1 + 1 + (s.1 - 1) ≤ 30; omega⟩, ?_⟩
    · rw [hi_k _ _ _ (by decide : 209 ≠ 206), q.2.1 m (by omega), hi_k _ _ _ (by decide : 209 ≠ 206)]
    · rw [es]
      exact (h.2.1.2 (s.1 - 1) (by omega)).cp (fun k hk => by rw [hi_k _ _ _ (by decide : 209 ≠ 206), q.1 k hk, hi_k _ _ _ (by decide : 210 ≠ 206)])
    · rw [hi_j _ _ _ (by decide : 6 ≠ 5), q.2.2.1 206 (by decide), hi_s]; rfl
    · have hj : j < s.1 - 1 := hj
      exact (h.2.1.2 j (by omega)).cp (fun k hk => by rw [hi_k _ _ _ (by decide : 210 ≠ 206), q.2.2.1 210 (by decide), hi_k _ _ _ (by decide : 210 ≠ 206)])
    · refine h.2.2.1.keep ?_ ?_ ?_
      · rw [hi_j _ _ _ (by decide : 13 ≠ 5), q.2.2.1 206 (by decide), hi_j _ _ _ (by decide : 13 ≠ 6)]
      · rw [hi_k _ _ _ (by decide : 213 ≠ 206), q.2.2.1 213 (by decide), hi_k _ _ _ (by decide : 213 ≠ 206)]
      · rw [hi_k _ _ _ (by decide : 214 ≠ 206), q.2.2.1 214 (by decide), hi_k _ _ _ (by decide : 214 ≠ 206)]
    · refine ⟨?_, fun k h1 h2 h3 => ?_, fun j h1 h2 => ?_⟩
      · show Y.2.1 = _; rw [q.2.2.2]; rfl
      · rw [hi_k _ _ _ h1, q.2.2.1 k h2, hi_k _ _ _ h1]
      · rw [hi_j _ _ _ h1, q.2.2.1 206 (by decide), hi_j _ _ _ h2]
theorem m1_lt : ∀ n : Nat, n < 2 ^ 31 → ((-1 : Int32).toInt64) < lN n := fun n hn => by
  rw [Int64.lt_iff_toInt_lt, lN_toInt hn, show ((-1 : Int32).toInt64).toInt = -1 from rfl]
  omega
theorem md_pick {X : xh_T} {t : tb_T} {a s : st_T} (h : mR X t a s) (hB : st_B a) {c : Int32} (b : Bool) (hc : b = decide (c = 122)) : pw (fx_MD_pick c X) (mo_P t X (op_pick b a s)) := by
  have h7 := h.2.2.2
  have z3 : ∀ K : Option (Int32 × xh_T), xh_o 0 3 K = K := fun K => xo_ (i := 0) (by decide) (by decide)
  have zc : (0 : Int32).toNatClampNeg = 0 := rfl
  unfold fx_MD_pick op_pick
  rw [show fx_MD_take 0 X = _ from md_take h.1 (k := 0) (by decide), xb_, xn_]
  by_cases g : nf a 0 = 0
  · have h0 : 0 < a.1 := by
      refine Classical.byContradiction (fun z => ?_)
      unfold nf at g
      rw [if_neg z] at g
      exact absurd g (by decide)
    rw [if_pos g, if_pos g, g, if_pos (show (0 : Int32) ≤ 0 by decide), z3, zc, hl_s]
    by_cases g1 : num a 0 < 0
    · rw [if_neg (fun z => lc_ge.mp z g1), if_pos g1]
      exact pw_some (mo_d h h.1.l fd.l h7)
    · rw [if_pos (lc_ge.mpr g1), z3, if_neg g1, hl_1, h.1.1]
      have hK := num_pos hB g1
      have key : lg_cmp (num a 0) ((nI a.1 - 2).toInt64) ≤ 0 ↔ ¬ a.1 ≤ nn a 0 + 1 := by
        rw [lc_le, hK.1]
        by_cases e : a.1 = 1
        · rw [e, show (nI 1 - 2 : Int32) = -1 by decide]
          exact ⟨fun z => absurd (m1_lt _ hK.2) z, fun z => absurd (by omega) z⟩
        · rw [show nI a.1 - 2 = nI (a.1 - 2) from pk_sub (b := 2) (by omega), nI_l (by omega), lN_lt (by omega) hK.2]
          omega
      by_cases g2 : a.1 ≤ nn a 0 + 1
      · rw [if_neg (fun z => key.mp z g2), if_pos g2]
        exact pw_some (mo_d h h.1.l fd.l h7)
      · rw [if_pos (key.mpr g2), z3, xn_, if_neg g2, (nk_lN hB g1).1]
        refine pw_b (pw_m (show pw (fx_MD_pop (nI 1) _) _ from md_pop (h.1.l) (c := 1) h0) (fun _ Y q => ?_))
        have f1 : fd X Y := fd.l.tr q.2
        cases b
        · have hne : ¬ c = 122 := of_decide_eq_false hc.symm
          refine pw_b (pw_m (md_again q.1 (k := nn a 0) (by show nn a 0 < a.1 - 1; omega) (by show a.1 - 1 ≤ 31; omega)) (fun _ Z p => ?_))
          rw [if_neg hne, if_neg (show ¬ false = true by decide)]
          exact pw_some (mo_d h p.1 (f1.tr p.2) (by show a.1 - 1 + 1 + s.1 ≤ 30; omega))
        · have he : c = 122 := of_decide_eq_true hc.symm
          have k2 := md_raise q.1 (k := nn a 0) (by show nn a 0 < a.1 - 1; omega) (by show a.1 - 1 ≤ 31; omega) (K := fun _ X4 => some ((0 : Int32), X4)) (P := mo_P t X (0, st_raise (st_pop a 1) (nn a 0), s)) (fun Z p1 p2 => pw_some (mo_d h p1 (f1.tr p2) (by show a.1 - 1 + s.1 ≤ 30; omega)))
          rw [if_pos (show true = true from rfl)]
          simp only [if_pos he, nI_1]
          exact k2
  · rw [if_neg g, if_neg (nf_pos g), if_neg g]
    exact pw_some (mo_0 h)
theorem md_121' {X : xh_T} {t : tb_T} {a s : st_T} (h : mR X t a s) (hB : st_B a) : pw (fx_MD_move 121 X) (mo_P t X (op_sp t 121 a s)) := by
  have h7 := h.2.2.2
  rw [os_121]
  unfold fx_MD_move
  rw [if_neg (by decide), md_ne121, xb_, h.1.1, if_neg (nI_pos (by omega)), if_neg (by decide)]
  unfold fx_MD_move_b36
  rw [if_neg (by decide)]
  unfold fx_MD_move_b53
  rw [if_pos rfl]
  unfold fx_MD_move_b65
  exact pw_b (pw_m (md_pick h hB false (by decide)) (fun r Y k => pw_some k))
theorem md_122 {X : xh_T} {t : tb_T} {a s : st_T} (h : mR X t a s) (hB : st_B a) : pw (fx_MD_move 122 X) (mo_P t X (op_sp t 122 a s)) := by
  have h7 := h.2.2.2
  rw [os_122]
  unfold fx_MD_move
  rw [if_neg (by decide), md_ne122, xb_, h.1.1, if_neg (nI_pos (by omega)), if_neg (by decide)]
  unfold fx_MD_move_b36
  rw [if_neg (by decide)]
  unfold fx_MD_move_b53
  rw [if_neg (by decide), if_pos rfl]
  unfold fx_MD_move_b65
  exact pw_b (pw_m (md_pick h hB true (by decide)) (fun r Y k => pw_some k))
theorem md_move {X : xh_T} {t : tb_T} {a s : st_T} (h : mR X t a s) (hB : st_B a) {c : Int32} (hc : c = 97 ∨ c = 105 ∨ c = 106 ∨ c = 107 ∨ c = 108 ∨ c = 109 ∨ c = 110 ∨ c = 115 ∨ c = 116 ∨ c = 117 ∨ c = 118 ∨ c = 119 ∨ c = 120 ∨ c = 121 ∨ c = 122 ∨ c = 123 ∨ c = 124 ∨ c = 125) : pw (fx_MD_move c X) (mo_P t X (op_sp t c a s)) := by
  rcases hc with rfl | rfl | rfl | rfl | rfl | rfl | rfl | rfl | rfl | rfl | rfl | rfl | rfl | rfl | rfl | rfl | rfl | rfl
  · exact md_97 h
  · exact md_105 h
  · exact md_106 h
  · exact md_107 h
  · exact md_108 h
  · exact md_109 h
  · exact md_110 h
  · exact md_115 h
  · exact md_116 h
  · exact md_117 h
  · exact md_118' h
  · exact md_119 h
  · exact md_120 h
  · exact md_121' h hB
  · exact md_122 h hB
  · exact md_123 h
  · exact md_124 h
  · exact md_125 h

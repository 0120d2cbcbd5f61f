/-! The class's machine -/
def mc_R (X : xh_T) (t : tb_T) (R : rs_T) : Prop := op_R X t R.1 R.2.1 ∧ br_R X R.2.2.1 ∧ X.1 138 4 = nI R.2.2.2.1 ∧ R.2.2.2.1 ≤ 25 ∧ X.1 138 6 = nI R.2.2.2.2
def fr_m (X X' : xh_T) : Prop := X'.2.2 = X.2.2 ∧ (∀ k, ¬ (10 ≤ k ∧ k < 72) → ¬ (139 ≤ k ∧ k < 201) → k ≠ 138 → k ≠ 203 → k ≠ 204 → X'.1 k = X.1 k) ∧ ∀ k, k ≠ 11 → k ≠ 140 → X'.2.1 k = X.2.1 k
theorem fr_m.rf {X : xh_T} : fr_m X X := ⟨rfl, fun _ _ _ _ _ _ => rfl, fun _ _ _ => rfl⟩
theorem fr_m.tr {X X' X'' : xh_T} (h : fr_m X X') (h' : fr_m X' X'') : fr_m X X'' := ⟨h'.1.trans h.1, fun k h1 h2 h3 h4 h5 => (h'.2.1 k h1 h2 h3 h4 h5).trans (h.2.1 k h1 h2 h3 h4 h5), fun k h1 h2 => (h'.2.2 k h1 h2).trans (h.2.2 k h1 h2)⟩
theorem fr_o.m {X X' : xh_T} (h : fr_o X X') : fr_m X X' := ⟨h.1, fun k h1 h2 _ _ _ => h.2.1 k h1 h2, h.2.2⟩
theorem fr_b.m {X X' : xh_T} (h : fr_b X X') : fr_m X X' := ⟨by rw [h.1], fun k _ _ _ h4 h5 => h.2 k h4 h5, fun k _ _ => by rw [h.1]⟩
theorem fr_m.i {X : xh_T} {j : Nat} {v : Int32} : fr_m X (xh_i X 138 j v) := ⟨rfl, fun k _ _ h3 _ _ => hi_k _ _ _ h3, fun _ _ _ => rfl⟩
theorem fr_m.bs {X X' : xh_T} {o : Nat} {a : it_T} (h : fr_m X X') (ho : o < 9) (hb : bs_R X o a) : bs_R X' o a := hb.keep (h.2.1 o (by omega) (by omega) (by omega) (by omega) (by omega)) (h.2.1 (o + 1) (by omega) (by omega) (by omega) (by omega) (by omega))
theorem op_R.i8 {X : xh_T} {t : tb_T} {a s : st_T} {j : Nat} {v : Int32} (h : op_R X t a s) : op_R (xh_i X 138 j v) t a s := ⟨h.1.keep rfl (fun k h1 h2 => hi_k _ _ _ (by omega)), h.2.1.keep rfl (fun k h1 h2 => hi_k _ _ _ (by omega)), h.2.2.1.keep (hi_k _ _ _ (by decide)) (hi_k _ _ _ (by decide)) (hi_k _ _ _ (by decide)), h.2.2.2⟩
theorem br_R.i8 {X : xh_T} {b : br_T} {j : Nat} {v : Int32} (h : br_R X b) : br_R (xh_i X 138 j v) b := h.keep (hi_k _ _ _ (by decide)) (hi_k _ _ _ (by decide))
theorem op_R.b {X X' : xh_T} {t : tb_T} {a s : st_T} (h : op_R X t a s) (hf : fr_b X X') : op_R X' t a s := ⟨h.1.keep (by rw [hf.1]) (fun k h1 h2 => hf.2 k (by omega) (by omega)), h.2.1.keep (by rw [hf.1]) (fun k h1 h2 => hf.2 k (by omega) (by omega)), h.2.2.1.keep (hf.2 7 (by decide) (by decide)) (hf.2 8 (by decide) (by decide)) (hf.2 9 (by decide) (by decide)), h.2.2.2⟩
theorem fr_o.br {X X' : xh_T} {b : br_T} (hf : fr_o X X') (h : br_R X b) : br_R X' b := h.keep (hf.2.1 203 (by omega) (by omega)) (hf.2.1 204 (by omega) (by omega))
theorem mc_R.o {X X' : xh_T} {t : tb_T} {R : rs_T} {a s : st_T} (h : mc_R X t R) (ho : op_R X' t a s) (hf : fr_o X X') : mc_R X' t (a, s, R.2.2) := ⟨ho, hf.br h.2.1, by rw [hf.2.1 138 (by omega) (by omega)]; exact h.2.2.1, h.2.2.2.1, by rw [hf.2.1 138 (by omega) (by omega)]; exact h.2.2.2.2⟩
theorem mc_R.b {X X' : xh_T} {t : tb_T} {R : rs_T} {b : br_T} (h : mc_R X t R) (hb : br_R X' b) (hf : fr_b X X') : mc_R X' t (R.1, R.2.1, b, R.2.2.2) := ⟨h.1.b hf, hb, by rw [hf.2 138 (by decide) (by decide)]; exact h.2.2.1, h.2.2.2.1, by rw [hf.2 138 (by decide) (by decide)]; exact h.2.2.2.2⟩
theorem mc_R.done {X : xh_T} {t : tb_T} {R : rs_T} (h : mc_R X t R) : mc_R (xh_i X 138 6 (X.1 138 6 + 1)) t (R.1, R.2.1, R.2.2.1, R.2.2.2.1, R.2.2.2.2 + 1) := ⟨h.1.i8, h.2.1.i8, by rw [hi_j _ _ _ (by decide : 4 ≠ 6)]; exact h.2.2.1, h.2.2.2.1, by rw [hi_s, h.2.2.2.2, nI_1]⟩
theorem mc_R.met {X : xh_T} {t : tb_T} {R : rs_T} (h : mc_R X t R) (hm : R.2.2.2.1 < 25) : mc_R (xh_i X 138 4 (X.1 138 4 + 1)) t (r_met R) := ⟨h.1.i8, h.2.1.i8, by rw [hi_s, h.2.2.1, nI_1]; rfl, hm, by rw [hi_j _ _ _ (by decide : 6 ≠ 4)]; exact h.2.2.2.2⟩
theorem mc_R.pl {X : xh_T} {t : tb_T} {R : rs_T} (h : mc_R X t R) (v : Int32) : mc_R (xh_i X 138 5 v) t R := ⟨h.1.i8, h.2.1.i8, by rw [hi_j _ _ _ (by decide : 4 ≠ 5)]; exact h.2.2.1, h.2.2.2.1, by rw [hi_j _ _ _ (by decide : 6 ≠ 5)]; exact h.2.2.2.2⟩
-- which bytes are known
theorem k_ite {p : Prop} {hp : Decidable p} {x y : Bool} {X : xh_T} : some (b_i (if p then x else y), X) = if p then some (b_i x, X) else some (b_i y, X) := by
  by_cases h : p
  · rw [if_pos h, if_pos h]
  · rw [if_neg h, if_neg h]
def kb5 (c : Int32) : Bool := if c = 169 then true else if c < 172 then false else if 174 < c then false else true
def kb4 (c : Int32) : Bool := if c < 154 then kb5 c else if c ≤ 165 then true else kb5 c
def kb3 (c : Int32) : Bool := if c = 130 then true else if c = 135 then true else if c = 136 then true else if c = 139 then true else if c = 140 then true else if c < 143 then kb4 c else if c ≤ 148 then true else kb4 c
def kb2 (c : Int32) : Bool := if c < 115 then kb3 c else if c ≤ 125 then true else kb3 c
def kb1 (c : Int32) : Bool := if c = 97 then true else if c = 99 then true else if c = 100 then true else if c < 103 then kb2 c else if c ≤ 110 then true else kb2 c
theorem kb_ok : ∀ n, n < 256 → kb1 (nI n) = kn (nI n) := by decide +kernel
theorem mc_known {X : xh_T} {n : Nat} (hn : n < 256) : fx_OP_isKnown (nI n) X = some (b_i (kn (nI n)), X) := by
  rw [← kb_ok n hn]
  have e5 : ∀ c, fx_OP_isKnown_b105 c X = some (b_i (kb5 c), X) := fun c => by
    unfold fx_OP_isKnown_b105 kb5
    simp only [k_ite]
    rfl
  have e4 : ∀ c, fx_OP_isKnown_b91 c X = some (b_i (kb4 c), X) := fun c => by
    unfold fx_OP_isKnown_b91 kb4
    simp only [k_ite, e5]
    rfl
  have e3 : ∀ c, fx_OP_isKnown_b42 c X = some (b_i (kb3 c), X) := fun c => by
    unfold fx_OP_isKnown_b42 kb3
    simp only [k_ite, e4]
    rfl
  have e2 : ∀ c, fx_OP_isKnown_b30 c X = some (b_i (kb2 c), X) := fun c => by
    unfold fx_OP_isKnown_b30 kb2
    simp only [k_ite, e3]
    rfl
  unfold fx_OP_isKnown kb1
  simp only [k_ite, e2]
  rfl
theorem mc_form {X : xh_T} {o p : Nat} {sc : it_T} (h : bs_R X o sc) (hB : it_B sc) (hp : p < sc.1) (hpl : X.1 138 5 = nI p) : fx_MC_formFault o (nI (bn sc p)) X = some (r_pf sc p, X) := by
  have hl := h.lt
  have hs := h.2.2.1
  have h9 := sp_len_le (o + 1)
  have hb := (bn_of hB hp).2
  have fin : ∀ v : Int32, fx_MC_formFault_b74 o (nI (bn sc p)) v X = some (if bn sc p = 1 ∧ ¬ v = 0 then 5 else 0, X) := fun v => by
    unfold fx_MC_formFault_b74
    rw [xn_, n1]
    by_cases g : bn sc p = 1
    · rw [if_pos (by rw [g])]
      by_cases g2 : v = 0
      · rw [if_pos g2, if_neg (fun z => z.2 g2)]
      · rw [if_neg g2, if_pos ⟨g, g2⟩]
    · rw [if_neg (fun z => g ((nI_eq (by omega) (by decide)).mp z)), if_neg (fun z => g z.1)]
  unfold fx_MC_formFault r_pf
  rw [xk_ h.1, hpl, nI_1, n32]
  by_cases g : bn sc p ≤ 32
  · rw [if_pos (nI_le g (by decide)), if_pos g, bs_hasPart h, it_p_n hl (by omega) (by omega), xb_]
    by_cases g1 : sc.1 < p + 1 + bn sc p
    · rw [if_neg (show ¬ p + 1 + bn sc p ≤ sc.1 by omega), if_pos rfl, if_pos g1]
    · rw [if_pos (show p + 1 + bn sc p ≤ sc.1 by omega), if_neg (show ¬ (1 : Int32) = 0 by decide), if_neg g1, hpl, nI_1, bs_byteAt h, xb_, xn_]
      have e1 : bn sc p = 1 → it_at sc (nI (p + 1)) = sc.2 (p + 1) := fun e => it_at_n (by omega) hl
      by_cases g2 : bn sc p = 1
      · rw [e1 g2]
        unfold fx_MC_formFault_b69 fx_MC_formFault_b73
        rw [fin, fin]
        by_cases g3 : sc.2 (p + 1) = 129
        · rw [if_pos g3, if_pos ⟨g2, by decide⟩, if_pos ⟨g2, Or.inl g3⟩]
        · rw [if_neg g3]
          by_cases g4 : sc.2 (p + 1) < 1
          · rw [if_pos g4, if_neg (fun z => z.2 rfl), if_neg (fun z => z.2.elim g3 (fun z => z.1 g4))]
          · rw [if_neg g4]
            by_cases g5 : 16 < sc.2 (p + 1)
            · rw [if_pos g5, if_neg (fun z => z.2 rfl), if_neg (fun z => z.2.elim g3 (fun z => z.2 g5))]
            · rw [if_neg g5, if_pos ⟨g2, by decide⟩, if_pos ⟨g2, Or.inr ⟨g4, g5⟩⟩]
      · unfold fx_MC_formFault_b69 fx_MC_formFault_b73
        have f0 : ∀ v : Int32, fx_MC_formFault_b74 o (nI (bn sc p)) v X = some (0, X) := fun v => by rw [fin, if_neg (fun z => g2 z.1)]
        rw [f0, f0, if_neg (show ¬ (bn sc p = 1 ∧ (sc.2 (p + 1) = 129 ∨ (¬ sc.2 (p + 1) < 1 ∧ ¬ 16 < sc.2 (p + 1)))) from fun z => g2 z.1)]
        repeat' split
        all_goals rfl
  · rw [if_neg (nI_ge (by omega) (by omega)), if_neg g]
    unfold fx_MC_formFault_b18
    by_cases g1 : bn sc p = 79
    · rw [if_pos (show nI (bn sc p) = 79 by rw [g1]; rfl), if_pos (Or.inl g1)]
    · rw [if_neg (show ¬ nI (bn sc p) = 79 from fun z => g1 ((nI_eq (a := bn sc p) (b := 79) (by omega) (by decide)).mp z))]
      by_cases g2 : bn sc p < 81
      · rw [if_pos (show nI (bn sc p) < 81 from nI_lt (b := 81) g2 (by decide)), if_neg (by omega)]
      · rw [if_neg (show ¬ nI (bn sc p) < 81 from nI_nlt (b := 81) (by omega) (by omega)), if_pos (Or.inr (by omega))]
def mc_P (t : tb_T) (X : xh_T) (q : Int32 × rs_T) : Int32 → xh_T → Prop := fun r X' => r = q.1 ∧ mc_R X' t q.2 ∧ fr_m X X' ∧ X'.1 138 5 = X.1 138 5
theorem mc_push {X : xh_T} {t : tb_T} {R : rs_T} {o p : Nat} {sc : it_T} (hR : mc_R X t R) (h : bs_R X o sc) (ho : o < 9) (hB : it_B sc) (hp : p < sc.1) (hpl : X.1 138 5 = nI p) : pw (fx_MC_meetPush o (nI (bn sc p)) X) (mc_P t X (r_push sc p R)) := by
  have hl := h.lt
  have hb := (bn_of hB hp).2
  have h5 := hR.1.1.2.2.1
  have h6 := hR.1.2.1.2.2.1
  unfold fx_MC_meetPush r_push
  rw [xk_ h.1, mc_form h hB hp hpl, xb_, xn_]
  by_cases g : r_pf sc p = 0
  · rw [if_pos g, if_pos g, br_active hR.2.1, xb_]
    cases g1 : br_all R.2.2.1
    · rw [if_pos (by decide), if_neg (by decide)]
      exact pw_some ⟨g, hR, fr_m.rf, rfl⟩
    · rw [if_neg (by decide), if_pos rfl, is_size hR.1.1, xb_, is_size hR.1.2.1, xb_, nI_add, n30]
      by_cases g2 : 30 ≤ R.1.1 + R.2.1.1
      · rw [if_neg (nI_nlt g2 (by omega)), if_pos g2]
        exact pw_some ⟨rfl, hR, fr_m.rf, rfl⟩
      · rw [if_pos (nI_lt (by omega) (by decide)), if_neg g2]
        have hn : R.1.1 < 30 := by omega
        have hq := hR.1.1.bsr (i := R.1.1) hn
        obtain ⟨j, hj, ej⟩ := hR.1.1.2.2.2.1.1 R.1.1 hn
        have tail : ∀ {X' : xh_T} {x : it_T}, bs_R X' (X.2.1 (10 + 1) R.1.1) x → fr_q (X.2.1 (10 + 1) R.1.1) (xh_i X 10 2 (nI (R.1.1 + 1))) X' → it_eq x (r_it sc p) → pw (fx_MC_meetPush_b88 o X') (mc_P t X (0, st_push R.1 (r_it sc p), R.2.1, R.2.2.1, R.2.2.2.1, R.2.2.2.2 + 1)) := fun {X' x} k1 k2 k3 => by
          obtain ⟨m1, m2⟩ := is_pushed hR.1.1 hn k2 (k1.to k3)
          have m3 := hR.1.st m1 m2 (by show R.1.1 + 1 + R.2.1.1 ≤ 30; omega)
          have m4 := hR.o m3.1 m3.2
          unfold fx_MC_meetPush_b88
          rw [xn_]
          exact pw_some ⟨rfl, m4.done, m3.2.m.tr fr_m.i, by rw [hi_j _ _ _ (by decide : 5 ≠ 6), m3.2.2.1 138 (by omega) (by omega)]⟩
        rw [is_push hR.1.1 hn, xb_, xb_, n32]
        by_cases g3 : 32 < bn sc p
        · rw [if_pos (nI_lt g3 (by omega))]
          refine pw_b (pw_m (bs_num hq.1 (by omega) _) (fun _ X' k => ?_))
          refine tail k.1 k.2 ?_
          unfold r_it
          rw [if_neg (by omega)]
          exact it_eq.rf
        · rw [if_neg (nI_nlt (by omega) (by decide)), hi_k _ _ _ (by decide : 138 ≠ 10), hpl, nI_1]
          have g4 : p + 1 + bn sc p ≤ sc.1 := by
            unfold r_pf at g
            rw [if_pos (by omega)] at g
            by_cases g5 : sc.1 < p + 1 + bn sc p
            · rw [if_pos g5] at g; exact absurd g (by decide)
            · omega
          have hb2 : bs_R (xh_i X 10 2 (nI (R.1.1 + 1))) o sc := h.keep (hi_k _ _ _ (by omega)) (hi_k _ _ _ (by omega))
          refine pw_b (pw_m (bs_part hq.1 hb2 (by show X.2.1 (10 + 1) R.1.1 ≠ o; rw [ej]; omega) (f := p + 1) (c := bn sc p) g4 (by omega)) (fun _ X' k => ?_))
          refine tail k.1 k.2 ?_
          unfold r_it
          rw [if_pos (by omega)]
          exact it_eq.rf
  · rw [if_neg g, if_neg g]
    exact pw_some ⟨rfl, hR, fr_m.rf, rfl⟩
theorem mc_open {X : xh_T} {t : tb_T} {R : rs_T} (hR : mc_R X t R) (c : Bool) : pw (fx_MC_openBranch (b_i c) X) (mc_P t X (r_open c R)) := by
  have h5 := hR.2.1.2.1
  unfold fx_MC_openBranch r_open
  rw [br_may hR.2.1, xb_]
  by_cases g : R.2.2.1.1 = 8
  · rw [if_pos g, if_pos rfl, if_pos g]
    exact pw_some ⟨rfl, hR, fr_m.rf, rfl⟩
  · rw [if_neg g, if_neg (by decide), if_neg g, br_active hR.2.1, xb_]
    cases g1 : br_all R.2.2.1
    · rw [if_pos (by decide), if_neg (by decide)]
      refine pw_b (pw_m (br_openR hR.2.1 (by omega) false) (fun _ X' k => pw_some ⟨rfl, hR.b k.1 k.2, k.2.m, by rw [k.2.2 138 (by decide) (by decide)]⟩))
    · rw [if_neg (by decide), if_pos rfl, n0, is_has_n hR.1.1 (by decide), xb_]
      by_cases g2 : R.1.1 = 0
      · rw [if_neg (show ¬ 0 < R.1.1 by omega), if_pos (show (0 : Int32) = nI 0 from rfl), if_pos g2]
        exact pw_some ⟨rfl, hR, fr_m.rf, rfl⟩
      · rw [if_pos (show 0 < R.1.1 by omega), if_neg (show ¬ (1 : Int32) = nI 0 by decide), if_neg g2]
        obtain ⟨q, e1, e2⟩ := op_true hR.1
        rw [← n0, e1, xb_, e2, xb_]
        have key : ∀ d : Bool, d = decide (it_t (st_i R.1 0) = b_i c) → pw (fx_MC_openBranch_b71 (b_i d) X) (mc_P t X (0, st_pop R.1 1, R.2.1, br_open R.2.2.1 (decide (it_t (st_i R.1 0) = b_i c)), R.2.2.2)) := fun d hd => by
          unfold fx_MC_openBranch_b71
          rw [← hd]
          refine pw_b (pw_m (br_openR hR.2.1 (by omega) d) (fun _ X' k => ?_))
          have k2 := hR.b k.1 k.2
          refine pw_b (pw_m (op_drop k2.1 (c := 1) (by show 1 ≤ R.1.1; omega)) (fun _ X2 m => pw_some ⟨rfl, k2.o m.1 m.2, k.2.m.tr m.2.m, by rw [m.2.2.1 138 (by omega) (by omega), k.2.2 138 (by decide) (by decide)]⟩))
        by_cases g3 : it_t (st_i R.1 0) = b_i c
        · rw [if_pos g3]; exact key true (decide_eq_true g3).symm
        · rw [if_neg g3]; exact key false (decide_eq_false g3).symm
theorem mc_turn {X : xh_T} {t : tb_T} {R : rs_T} (hR : mc_R X t R) (c : Bool) : pw (fx_MC_turnBranch (b_i c) X) (mc_P t X (r_turn c R)) := by
  unfold fx_MC_turnBranch r_turn
  rw [br_any hR.2.1, xb_]
  by_cases g : R.2.2.1.1 = 0
  · rw [if_pos g, if_pos rfl, if_pos g]
    exact pw_some ⟨rfl, hR, fr_m.rf, rfl⟩
  · rw [if_neg g, if_neg (by decide), if_neg g]
    cases c
    · rw [if_pos (by decide), if_neg (by decide)]
      exact pw_b (pw_m (br_flipR hR.2.1 (by omega)) (fun _ X' k => pw_some ⟨rfl, hR.b k.1 k.2, k.2.m, by rw [k.2.2 138 (by decide) (by decide)]⟩))
    · rw [if_neg (by decide), if_pos rfl]
      exact pw_b (pw_m (br_shutR hR.2.1 (by omega)) (fun _ X' k => pw_some ⟨rfl, hR.b k.1 k.2, k.2.m, by rw [k.2.2 138 (by decide) (by decide)]⟩))
theorem mc_fin {X X' : xh_T} {t : tb_T} {q : Int32 × rs_T} {r : Int32} (h : mc_P t X q r X') : pw (fx_MC_meetOperation_b117 r X') (mc_P t X (r_done q.1 q.2)) := by
  obtain ⟨rfl, h1, h2, h3⟩ := h
  unfold fx_MC_meetOperation_b117 r_done
  by_cases g : q.1 = 0
  · rw [if_pos g, if_pos g, xn_]
    exact pw_some ⟨rfl, h1.done, h2.tr fr_m.i, by rw [hi_j _ _ _ (by decide : 5 ≠ 6)]; exact h3⟩
  · rw [if_neg g, if_neg g]
    exact pw_some ⟨rfl, h1, h2, h3⟩
theorem mc_op {X : xh_T} {t : tb_T} {R : rs_T} (hR : mc_R X t R) (hB : rs_B R) {n : Nat} (hn : n < 256) : pw (fx_MC_meetOperation (nI n) X) (mc_P t X (r_op t (nI n) R)) := by
  have h5 := hR.2.2.2.1
  unfold fx_MC_meetOperation r_op
  rw [mc_known hn, xb_]
  cases g : kn (nI n)
  · rw [if_pos (by decide), if_neg (by decide)]
    exact pw_some ⟨rfl, hR, fr_m.rf, rfl⟩
  · rw [if_neg (by decide), if_pos rfl, hR.2.2.1, n25]
    by_cases g1 : R.2.2.2.1 = 25
    · rw [if_neg (nI_nlt (by omega) (by omega)), if_pos g1]
      exact pw_some ⟨rfl, hR, fr_m.rf, rfl⟩
    · rw [if_pos (nI_lt (by omega) (by decide)), if_neg g1, xn_, ← hR.2.2.1]
      have hM := hR.met (by omega)
      have up : ∀ {q : Int32 × rs_T} {r : Int32} {Y : xh_T}, mc_P t (xh_i X 138 4 (X.1 138 4 + 1)) q r Y → mc_P t X q r Y := fun k => ⟨k.1, k.2.1, fr_m.i.tr k.2.2.1, by rw [k.2.2.2, hi_j _ _ _ (by decide : 5 ≠ 4)]⟩
      by_cases c1 : nI n = 99 ∨ nI n = 100
      · rw [if_pos c1]
        have key : pw (fx_MC_meetOperation_b43 (nI n) (xh_i X 138 4 (X.1 138 4 + 1))) (mc_P t X (r_done (r_open (decide (nI n = 99)) (r_met R)).1 (r_open (decide (nI n = 99)) (r_met R)).2)) := by
          have k2 : ∀ b : Bool, pw (fx_MC_meetOperation_b55 (b_i b) (xh_i X 138 4 (X.1 138 4 + 1))) (mc_P t X (r_done (r_open b (r_met R)).1 (r_open b (r_met R)).2)) := fun b => by
            unfold fx_MC_meetOperation_b55
            exact pw_b (pw_m (mc_open hM b) (fun r Y k => pw_n (mc_fin (up k))))
          unfold fx_MC_meetOperation_b43
          by_cases c2 : nI n = 99
          · rw [if_pos c2, decide_eq_true c2]; exact k2 true
          · rw [if_neg c2, decide_eq_false c2]; exact k2 false
        by_cases c2 : nI n = 99
        · rw [if_pos c2]; exact key
        · rw [if_neg c2, if_pos (c1.resolve_left c2)]; exact key
      · rw [if_neg c1, if_neg (fun z => c1 (Or.inl z)), if_neg (fun z => c1 (Or.inr z))]
        by_cases c3 : nI n = 103 ∨ nI n = 104
        · rw [if_pos c3]
          have key : pw (fx_MC_meetOperation_b74 (nI n) (xh_i X 138 4 (X.1 138 4 + 1))) (mc_P t X (r_done (r_turn (decide (nI n = 104)) (r_met R)).1 (r_turn (decide (nI n = 104)) (r_met R)).2)) := by
            have k2 : ∀ b : Bool, pw (fx_MC_meetOperation_b86 (b_i b) (xh_i X 138 4 (X.1 138 4 + 1))) (mc_P t X (r_done (r_turn b (r_met R)).1 (r_turn b (r_met R)).2)) := fun b => by
              unfold fx_MC_meetOperation_b86
              exact pw_b (pw_m (mc_turn hM b) (fun r Y k => pw_n (mc_fin (up k))))
            unfold fx_MC_meetOperation_b74
            by_cases c2 : nI n = 104
            · rw [if_pos c2, decide_eq_true c2]; exact k2 true
            · rw [if_neg c2, decide_eq_false c2]; exact k2 false
          by_cases c2 : nI n = 103
          · rw [if_pos c2]; exact key
          · rw [if_neg c2, if_pos (c3.resolve_left c2)]; exact key
        · rw [if_neg c3, if_neg (fun z => c3 (Or.inl z)), if_neg (fun z => c3 (Or.inr z)), br_active hM.2.1, xb_]
          have hk : nI n ∈ op_ks := by
            rcases of_decide_eq_true g with k | k | k | k | k
            · exact k
            · exact absurd (Or.inl k) c1
            · exact absurd (Or.inr k) c1
            · exact absurd (Or.inl k) c3
            · exact absurd (Or.inr k) c3
          show pw (if b_i (br_all R.2.2.1) = 0 then _ else _) _
          cases g4 : br_all R.2.2.1
          · rw [if_pos (by decide), if_neg (by decide)]
            exact pw_some (up ⟨rfl, hM, fr_m.rf, rfl⟩)
          · rw [if_neg (by decide), if_pos rfl]
            refine pw_b (pw_m (op_every hM.1 hB.1 hk) (fun r Y k => pw_n (mc_fin (up (q := r_oper t (nI n) (r_met R)) ⟨k.1, hM.o k.2.1 k.2.2, k.2.2.m, ?_⟩))))
            rw [k.2.2.2.1 138 (by omega) (by omega)]

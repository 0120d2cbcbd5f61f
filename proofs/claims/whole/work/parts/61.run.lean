/-! A script's run, said of counts and items -/
abbrev rs_T : Type := st_T × st_T × br_T × Nat × Nat
def bn (sc : it_T) (p : Nat) : Nat := (sc.2 p).toNatClampNeg
theorem bn_of {sc : it_T} (h : it_B sc) {p : Nat} (hp : p < sc.1) : sc.2 p = nI (bn sc p) ∧ bn sc p < 256 := by
  obtain ⟨b, hb, e⟩ := h p hp
  unfold bn
  rw [e, nI_clamp (by omega)]
  exact ⟨rfl, hb⟩
def dl (n : Nat) : Nat := if 1 ≤ n ∧ n ≤ 32 then n else 0
def r_pf (sc : it_T) (p : Nat) : Int32 := if bn sc p ≤ 32 then (if sc.1 < p + 1 + bn sc p then 3 else if bn sc p = 1 ∧ (sc.2 (p + 1) = 129 ∨ (¬ sc.2 (p + 1) < 1 ∧ ¬ 16 < sc.2 (p + 1))) then 5 else 0) else if bn sc p = 79 ∨ 81 ≤ bn sc p then 0 else 2
def r_it (sc : it_T) (p : Nat) : it_T := if bn sc p ≤ 32 then (bn sc p, fun i => sc.2 (p + 1 + i)) else it_e ((nI (bn sc p) - 80).toInt64)
def r_push (sc : it_T) (p : Nat) (R : rs_T) : Int32 × rs_T := if r_pf sc p = 0 then (if br_all R.2.2.1 = true then (if 30 ≤ R.1.1 + R.2.1.1 then (14, R) else (0, st_push R.1 (r_it sc p), R.2.1, R.2.2.1, R.2.2.2.1, R.2.2.2.2 + 1)) else (0, R)) else (r_pf sc p, R)
def r_done (f : Int32) (R : rs_T) : Int32 × rs_T := if f = 0 then (f, R.1, R.2.1, R.2.2.1, R.2.2.2.1, R.2.2.2.2 + 1) else (f, R)
def r_open (c : Bool) (R : rs_T) : Int32 × rs_T := if R.2.2.1.1 = 8 then (8, R) else if br_all R.2.2.1 = true then (if R.1.1 = 0 then (11, R) else (0, st_pop R.1 1, R.2.1, br_open R.2.2.1 (decide (it_t (st_i R.1 0) = b_i c)), R.2.2.2)) else (0, R.1, R.2.1, br_open R.2.2.1 false, R.2.2.2)
def r_turn (c : Bool) (R : rs_T) : Int32 × rs_T := if R.2.2.1.1 = 0 then (7, R) else (0, R.1, R.2.1, if c = true then br_shut R.2.2.1 else br_flip R.2.2.1, R.2.2.2)
def r_oper (t : tb_T) (c : Int32) (R : rs_T) : Int32 × rs_T := ((op_sp t c R.1 R.2.1).1, (op_sp t c R.1 R.2.1).2.1, (op_sp t c R.1 R.2.1).2.2, R.2.2)
def r_met (R : rs_T) : rs_T := (R.1, R.2.1, R.2.2.1, R.2.2.2.1 + 1, R.2.2.2.2)
def kn (c : Int32) : Bool := decide (c ∈ op_ks ∨ c = 99 ∨ c = 100 ∨ c = 103 ∨ c = 104)
def r_op (t : tb_T) (c : Int32) (R : rs_T) : Int32 × rs_T :=
  if kn c = true then (if R.2.2.2.1 = 25 then (6, R)
    else if c = 99 ∨ c = 100 then r_done (r_open (decide (c = 99)) (r_met R)).1 (r_open (decide (c = 99)) (r_met R)).2
    else if c = 103 ∨ c = 104 then r_done (r_turn (decide (c = 104)) (r_met R)).1 (r_turn (decide (c = 104)) (r_met R)).2
    else if br_all R.2.2.1 = true then r_done (r_oper t c (r_met R)).1 (r_oper t c (r_met R)).2 else (0, r_met R)) else (2, R)
def r_step (po : Bool) (t : tb_T) (sc : it_T) (p : Nat) (R : rs_T) : Int32 × rs_T := if bn sc p ≤ 96 then r_push sc p R else if po = true then (15, R) else r_op t (sc.2 p) R
/-- the whole run: the fault, the place, the state -/
def r_run (po : Bool) (t : tb_T) (sc : it_T) : Nat → Nat → rs_T → Int32 × Nat × rs_T
  | 0, p, R => (0, p, R)
  | k + 1, p, R => if sc.1 ≤ p then (if R.2.2.1.1 = 0 then 0 else 7, sc.1, R) else if (r_step po t sc p R).1 = 0 then r_run po t sc k (p + 1 + dl (bn sc p)) (r_step po t sc p R).2 else ((r_step po t sc p R).1, p, (r_step po t sc p R).2)
-- every byte stays a byte
theorem it_B_d (h : Int32) : it_B (it_d h) := fun i _ => by
  obtain ⟨j, hj, e⟩ := pk_andE (xh_ush h (nI (8 * i))) (m := 255) 8 (by decide)
  exact ⟨j, hj, e⟩
theorem en_l_B : ∀ (k : Nat) (w : Int64) (a : it_T) (l : Int32), it_B a → (∃ b : Nat, b < 256 ∧ l = nI b) → it_B (en_l k w a l).1 ∧ ∃ b : Nat, b < 256 ∧ (en_l k w a l).2 = nI b
  | 0, _, a, l, h1, h2 => ⟨h1, h2⟩
  | k + 1, w, a, l, h1, h2 => by
    unfold en_l
    by_cases h : lg_cmp w 0 ≤ 0
    · rw [if_pos h]; exact ⟨h1, h2⟩
    · rw [if_neg h]
      refine en_l_B k _ _ _ (fun i hi => ?_) (en_b w)
      have hi : i < a.1 + 1 := hi
      show ∃ b, b < 256 ∧ va_up a.2 a.1 _ i = nI b
      by_cases e : i = a.1
      · rw [e, va_up_self]; exact en_b w
      · rw [va_up_ne _ _ e]; exact h1 i (by omega)
theorem en_or : ∀ b, b < 128 → (nI b ||| 128 = nI (b + 128)) ∧ nI b ||| 0 = nI b := by decide +kernel
theorem it_B_e (v : Int64) : it_B (it_e v) := by
  obtain ⟨h1, b, hb, e⟩ := en_l_B 5 (if 0 < v then v else -v) (0, fun _ => 0) 0 (fun i hi => absurd hi (Nat.not_lt_zero i)) ⟨0, by decide, rfl⟩
  have hg : en_g v = 0 ∨ en_g v = 128 := by
    unfold en_g
    split
    · exact Or.inl rfl
    · exact Or.inr rfl
  unfold it_e en_e
  by_cases g : (en_q v).2 < 128
  · rw [if_pos g]
    by_cases g2 : (en_q v).1.1 = 0
    · rw [if_pos g2]; exact h1
    · rw [if_neg g2]
      intro i hi
      have hi : i < (en_q v).1.1 := hi
      show ∃ b, b < 256 ∧ va_up (en_q v).1.2 ((en_q v).1.1 - 1) _ i = nI b
      by_cases e1 : i = (en_q v).1.1 - 1
      · rw [e1, va_up_self]
        have e' : (en_q v).2 = nI b := e
        rw [e'] at g ⊢
        have hb2 : b < 128 := (nI_ltI (a := b) (b := 128) (by omega) (by decide)).mp g
        rcases hg with h0 | h0
        · rw [h0, (en_or b hb2).2]; exact ⟨b, hb, rfl⟩
        · rw [h0, (en_or b hb2).1]; exact ⟨b + 128, by omega, rfl⟩
      · rw [va_up_ne _ _ e1]; exact h1 i hi
  · rw [if_neg g]
    intro i hi
    have hi : i < (en_q v).1.1 + 1 := hi
    show ∃ b, b < 256 ∧ va_up (en_q v).1.2 (en_q v).1.1 _ i = nI b
    by_cases e1 : i = (en_q v).1.1
    · rw [e1, va_up_self]
      rcases hg with h0 | h0
      · rw [h0]; exact ⟨0, by decide, by decide⟩
      · rw [h0]; exact ⟨128, by decide, by decide⟩
    · rw [va_up_ne _ _ e1]; exact h1 i (show i < (en_q v).1.1 by omega)
theorem st_B_i {a : st_T} (h : st_B a) (k : Nat) : it_B (st_i a k) := by
  unfold st_i
  by_cases g : k < a.1
  · rw [if_pos g]; exact h _ (by omega)
  · rw [if_neg g]; exact fun i hi => absurd hi (Nat.not_lt_zero i)
theorem st_B_push {a : st_T} {x : it_T} (h : st_B a) (hx : it_B x) : st_B (st_push a x) := fun i hi => by
  have hi : i < a.1 + 1 := hi
  show it_B (va_up a.2 a.1 x i)
  by_cases e : i = a.1
  · rw [e, va_up_self]; exact hx
  · rw [va_up_ne _ _ e]; exact h i (by omega)
theorem st_B_pop {a : st_T} (h : st_B a) (c : Nat) : st_B (st_pop a c) := fun i hi => h i (by have hi : i < a.1 - c := hi; omega)
theorem st_B_raise {a : st_T} (h : st_B a) (k : Nat) : st_B (st_raise a k) := fun i hi => by
  have hi : i < a.1 := hi
  show it_B (if i < a.1 - 1 - k then a.2 i else if i < a.1 - 1 then a.2 (i + 1) else a.2 (a.1 - 1 - k))
  split
  · exact h _ (by omega)
  · split
    · exact h _ (by omega)
    · exact h _ (by omega)
theorem st_B_sink {a : st_T} (h : st_B a) (k : Nat) : st_B (st_sink a k) := fun i hi => by
  have hi : i < a.1 := hi
  show it_B (if i < a.1 - 1 - k then a.2 i else if i = a.1 - 1 - k then a.2 (a.1 - 1) else a.2 (i - 1))
  split
  · exact h _ (by omega)
  · split
    · exact h _ (by omega)
    · exact h _ (by omega)
theorem pi_ {α : Type} {P : α → Prop} {c : Prop} {hc : Decidable c} {x y : α} (h1 : c → P x) (h2 : ¬ c → P y) : P (if c then x else y) := by
  by_cases h : c
  · rw [if_pos h]; exact h1 h
  · rw [if_neg h]; exact h2 h
def op_Bq (q : op_T) : Prop := st_B q.2.1 ∧ st_B q.2.2
theorem op_B {t : tb_T} {c : Int32} {a s : st_T} (ha : st_B a) (hs : st_B s) : st_B (op_sp t c a s).2.1 ∧ st_B (op_sp t c a s).2.2 := by
  have hi := fun k => st_B_i ha k
  have hp : ∀ b, st_B (op_pick b a s).2.1 ∧ st_B (op_pick b a s).2.2 := fun b => by
    unfold op_pick
    repeat' split
    all_goals first
      | exact ⟨ha, hs⟩
      | exact ⟨st_B_raise (st_B_pop ha 1) _, hs⟩
      | exact ⟨st_B_push (st_B_pop ha 1) (st_B_i (st_B_pop ha 1) _), hs⟩
  have hc : ∀ n, st_B (op_calc c n a s).2.1 ∧ st_B (op_calc c n a s).2.2 := fun n => by
    unfold op_calc
    repeat' split
    all_goals first
      | exact ⟨ha, hs⟩
      | exact ⟨st_B_pop ha 2, hs⟩
      | exact ⟨st_B_push (st_B_pop ha n) (it_B_e _), hs⟩
  have hm : st_B (op_many t a s).2.1 ∧ st_B (op_many t a s).2.2 := by
    unfold op_many
    repeat' split
    all_goals first
      | exact ⟨ha, hs⟩
      | exact ⟨st_B_push (st_B_pop ha _) (it_B_e _), hs⟩
  have hd : st_B (a.1, va_up a.2 (a.1 - 1) (it_d (it_h (st_i a 0).2 0 (st_i a 0).1))) := fun i hi => by
    have hi : i < a.1 := hi
    show it_B (va_up a.2 (a.1 - 1) (it_d (it_h (st_i a 0).2 0 (st_i a 0).1)) i)
    by_cases e : i = a.1 - 1
    · rw [e, va_up_self]; exact it_B_d _
    · rw [va_up_ne _ _ e]; exact ha i hi
  have hsi := st_B_i hs 0
  show op_Bq (op_sp t c a s)
  unfold op_sp
  refine pi_ (P := op_Bq) (fun _ => ⟨ha, hs⟩) (fun _ => ?_)
  refine pi_ (P := op_Bq) (fun _ => pi_ (P := op_Bq) (fun _ => ⟨ha, hs⟩) (fun _ => pi_ (P := op_Bq) (fun _ => ⟨ha, hs⟩) (fun _ => ⟨st_B_pop ha 1, hs⟩))) (fun _ => ?_)
  refine pi_ (P := op_Bq) (fun _ => ⟨ha, hs⟩) (fun _ => ?_)
  refine pi_ (P := op_Bq) (fun _ => pi_ (P := op_Bq) (fun _ => ⟨ha, hs⟩) (fun _ => ⟨st_B_pop ha 1, st_B_push hs (hi 0)⟩)) (fun _ => ?_)
  refine pi_ (P := op_Bq) (fun _ => pi_ (P := op_Bq) (fun _ => ⟨ha, hs⟩) (fun _ => ⟨st_B_push ha hsi, st_B_pop hs 1⟩)) (fun _ => ?_)
  refine pi_ (P := op_Bq) (fun _ => pi_ (P := op_Bq) (fun _ => ⟨ha, hs⟩) (fun _ => ⟨st_B_pop ha 2, hs⟩)) (fun _ => ?_)
  refine pi_ (P := op_Bq) (fun _ => pi_ (P := op_Bq) (fun _ => ⟨ha, hs⟩) (fun _ => pi_ (P := op_Bq) (fun _ => ⟨ha, hs⟩) (fun _ => ⟨st_B_push (st_B_push ha (hi 1)) (hi 0), hs⟩))) (fun _ => ?_)
  refine pi_ (P := op_Bq) (fun _ => pi_ (P := op_Bq) (fun _ => ⟨ha, hs⟩) (fun _ => pi_ (P := op_Bq) (fun _ => ⟨ha, hs⟩) (fun _ => pi_ (P := op_Bq) (fun _ => ⟨ha, hs⟩) (fun _ => ⟨st_B_push ha (hi 0), hs⟩)))) (fun _ => ?_)
  refine pi_ (P := op_Bq) (fun _ => pi_ (P := op_Bq) (fun _ => ⟨ha, hs⟩) (fun _ => ⟨st_B_push ha (it_B_e _), hs⟩)) (fun _ => ?_)
  refine pi_ (P := op_Bq) (fun _ => pi_ (P := op_Bq) (fun _ => ⟨ha, hs⟩) (fun _ => ⟨st_B_pop ha 1, hs⟩)) (fun _ => ?_)
  refine pi_ (P := op_Bq) (fun _ => pi_ (P := op_Bq) (fun _ => ⟨ha, hs⟩) (fun _ => pi_ (P := op_Bq) (fun _ => ⟨ha, hs⟩) (fun _ => ⟨st_B_push ha (hi 0), hs⟩))) (fun _ => ?_)
  refine pi_ (P := op_Bq) (fun _ => pi_ (P := op_Bq) (fun _ => ⟨ha, hs⟩) (fun _ => ⟨st_B_pop (st_B_raise ha 1) 1, hs⟩)) (fun _ => ?_)
  refine pi_ (P := op_Bq) (fun _ => pi_ (P := op_Bq) (fun _ => ⟨ha, hs⟩) (fun _ => pi_ (P := op_Bq) (fun _ => ⟨ha, hs⟩) (fun _ => ⟨st_B_push ha (hi 1), hs⟩))) (fun _ => ?_)
  refine pi_ (P := op_Bq) (fun _ => hp false) (fun _ => ?_)
  refine pi_ (P := op_Bq) (fun _ => hp true) (fun _ => ?_)
  refine pi_ (P := op_Bq) (fun _ => pi_ (P := op_Bq) (fun _ => ⟨ha, hs⟩) (fun _ => ⟨st_B_raise ha 2, hs⟩)) (fun _ => ?_)
  refine pi_ (P := op_Bq) (fun _ => pi_ (P := op_Bq) (fun _ => ⟨ha, hs⟩) (fun _ => ⟨st_B_raise ha 1, hs⟩)) (fun _ => ?_)
  refine pi_ (P := op_Bq) (fun _ => pi_ (P := op_Bq) (fun _ => ⟨ha, hs⟩) (fun _ => pi_ (P := op_Bq) (fun _ => ⟨ha, hs⟩) (fun _ => ⟨st_B_sink (st_B_push ha (hi 0)) 2, hs⟩))) (fun _ => ?_)
  refine pi_ (P := op_Bq) (fun _ => pi_ (P := op_Bq) (fun _ => ⟨ha, hs⟩) (fun _ => pi_ (P := op_Bq) (fun _ => ⟨ha, hs⟩) (fun _ => ⟨st_B_push ha (it_B_e _), hs⟩))) (fun _ => ?_)
  refine pi_ (P := op_Bq) (fun _ => pi_ (P := op_Bq) (fun _ => ⟨ha, hs⟩) (fun _ => ⟨st_B_push (st_B_pop ha 2) (it_B_e _), hs⟩)) (fun _ => ?_)
  refine pi_ (P := op_Bq) (fun _ => pi_ (P := op_Bq) (fun _ => ⟨ha, hs⟩) (fun _ => pi_ (P := op_Bq) (fun _ => ⟨st_B_pop ha 2, hs⟩) (fun _ => ⟨ha, hs⟩))) (fun _ => ?_)
  refine pi_ (P := op_Bq) (fun _ => pi_ (P := op_Bq) (fun _ => ⟨ha, hs⟩) (fun _ => ⟨hd, hs⟩)) (fun _ => ?_)
  refine pi_ (P := op_Bq) (fun _ => pi_ (P := op_Bq) (fun _ => ⟨ha, hs⟩) (fun _ => ⟨st_B_push (st_B_pop ha 2) (it_B_e _), hs⟩)) (fun _ => ?_)
  refine pi_ (P := op_Bq) (fun _ => pi_ (P := op_Bq) (fun _ => ⟨ha, hs⟩) (fun _ => pi_ (P := op_Bq) (fun _ => ⟨st_B_pop ha 2, hs⟩) (fun _ => ⟨ha, hs⟩))) (fun _ => ?_)
  refine pi_ (P := op_Bq) (fun _ => hm) (fun _ => ?_)
  exact hc _
def rs_B (R : rs_T) : Prop := st_B R.1 ∧ st_B R.2.1
theorem r_it_B {sc : it_T} (h : it_B sc) {p : Nat} (hf : r_pf sc p = 0) : it_B (r_it sc p) := by
  unfold r_it
  by_cases g : bn sc p ≤ 32
  · rw [if_pos g]
    unfold r_pf at hf
    rw [if_pos g] at hf
    by_cases g2 : sc.1 < p + 1 + bn sc p
    · rw [if_pos g2] at hf; exact absurd hf (by decide)
    · exact fun i hi => h _ (by have hi : i < bn sc p := hi; omega)
  · rw [if_neg g]; exact it_B_e _
theorem r_step_B {po : Bool} {t : tb_T} {sc : it_T} {p : Nat} {R : rs_T} (hsc : it_B sc) (h : rs_B R) : rs_B (r_step po t sc p R).2 := by
  have hd : ∀ (f : Int32) (Q : rs_T), rs_B Q → rs_B (r_done f Q).2 := fun f Q hq => by
    unfold r_done
    split <;> exact hq
  unfold r_step
  split
  · unfold r_push
    split
    · rename_i g
      split
      · split
        · exact h
        · exact ⟨st_B_push h.1 (r_it_B hsc g), h.2⟩
      · exact h
    · exact h
  · split
    · exact h
    · unfold r_op
      split
      · split
        · exact h
        · split
          · refine hd _ _ ?_
            unfold r_open
            repeat' split
            all_goals first
              | exact h
              | exact ⟨st_B_pop h.1 1, h.2⟩
          · split
            · refine hd _ _ ?_
              unfold r_turn
              split <;> exact h
            · split
              · exact hd _ _ (op_B h.1 h.2)
              · exact h
      · exact h

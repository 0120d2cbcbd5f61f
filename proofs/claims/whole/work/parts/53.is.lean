/-! ItemStack: a count and a row of items, the lowest first -/
abbrev st_T : Type := Nat × (Nat → it_T)
theorem is_lab {S j : Nat} (hS : sp_is S = true) (hj : j < 30) : sp_bs (S + 2 + 2 * j) = true ∧ sp_len (S + 2 + 2 * j + 1) = 32 := by
  have h0 := of_decide_eq_true hS
  have h1 : (List.range 30).all (fun j => sp_bs (S + 2 + 2 * j) && decide (sp_len (S + 2 + 2 * j + 1) = 32)) = true := by
    rcases h0 with rfl | rfl | rfl <;> decide +kernel
  have h2 := List.all_eq_true.mp h1 j (List.mem_range.mpr hj)
  rw [Bool.and_eq_true] at h2
  exact ⟨h2.1, of_decide_eq_true h2.2⟩
theorem is_no {S : Nat} (hS : sp_is S = true) : sp_bs (S + 62) = true := (sp_is_of hS).2.2.2.2
def is_L (X : xh_T) (S : Nat) : Prop := (∀ i, i < 30 → ∃ j, j < 30 ∧ X.2.1 (S + 1) i = S + 2 + 2 * j) ∧ ∀ i j, i < 30 → j < 30 → X.2.1 (S + 1) i = X.2.1 (S + 1) j → i = j
def is_R (X : xh_T) (S : Nat) (a : st_T) : Prop := sp_is S = true ∧ X.1 S 2 = nI a.1 ∧ a.1 ≤ 30 ∧ is_L X S ∧ (∀ i, i < a.1 → bs_R X (X.2.1 (S + 1) i) (a.2 i)) ∧ X.1 (S + 62) 1 = 0
/-- only the stack S has changed -/
def fr_s (S : Nat) (X X' : xh_T) : Prop := X'.2.2 = X.2.2 ∧ (∀ k, ¬ (S ≤ k ∧ k < S + 62) → X'.1 k = X.1 k) ∧ ∀ k, k ≠ S + 1 → X'.2.1 k = X.2.1 k
theorem fr_s.rf {S : Nat} {X : xh_T} : fr_s S X X := ⟨rfl, fun _ _ => rfl, fun _ _ => rfl⟩
theorem fr_s.tr {S : Nat} {X X' X'' : xh_T} (h : fr_s S X X') (h' : fr_s S X' X'') : fr_s S X X'' := ⟨h'.1.trans h.1, fun k hk => (h'.2.1 k hk).trans (h.2.1 k hk), fun k hk => (h'.2.2 k hk).trans (h.2.2 k hk)⟩
theorem fr_s.i {S j : Nat} {X : xh_T} {v : Int32} : fr_s S X (xh_i X S j v) := ⟨rfl, fun k hk => hi_k X j v (by omega), fun _ _ => rfl⟩
theorem fr_s.q {S q j : Nat} {X X' : xh_T} (h : fr_q q X X') (hj : j < 30) (e : q = S + 2 + 2 * j) : fr_s S X X' := ⟨by rw [h.1], fun k hk => h.2 k (by omega) (by omega), fun k _ => by rw [h.1]⟩
theorem is_R.bsr {X : xh_T} {S i : Nat} {a : st_T} (h : is_R X S a) (hi : i < 30) : sp_bs (X.2.1 (S + 1) i) = true ∧ sp_len (X.2.1 (S + 1) i + 1) = 32 := by
  obtain ⟨j, hj, e⟩ := h.2.2.2.1.1 i hi
  rw [e]
  exact is_lab h.1 hj
theorem is_R.no {X : xh_T} {S : Nat} {a : st_T} (h : is_R X S a) (f : Nat → Int32) : bs_R X (S + 62) (0, f) := ⟨is_no h.1, h.2.2.2.2.2, Nat.zero_le _, fun i hi => absurd hi (Nat.not_lt_zero i)⟩
theorem is_R.off {X X' : xh_T} {S T : Nat} {a : st_T} (h : is_R X T a) (hf : fr_s S X X') (hS : sp_is S = true) (hne : T ≠ S) : is_R X' T a := by
  have h1 := of_decide_eq_true h.1
  have h2 := of_decide_eq_true hS
  have hr : X'.2.1 (T + 1) = X.2.1 (T + 1) := hf.2.2 (T + 1) (by omega)
  have hk : ∀ k, T ≤ k → k < T + 64 → X'.1 k = X.1 k := fun k g1 g2 => hf.2.1 k (by omega)
  refine ⟨h.1, by rw [hk T (by omega) (by omega)]; exact h.2.1, h.2.2.1, ⟨fun i hi => by rw [hr]; exact h.2.2.2.1.1 i hi, fun i j hi hj => by rw [hr]; exact h.2.2.2.1.2 i j hi hj⟩, fun i hi => ?_, by rw [hk (T + 62) (by omega) (by omega)]; exact h.2.2.2.2.2⟩
  have h5 := h.2.2.1
  obtain ⟨j, hj, e⟩ := h.2.2.2.1.1 i (by omega)
  rw [hr]
  exact (h.2.2.2.2.1 i hi).keep (hk _ (by omega) (by omega)) (hk _ (by omega) (by omega))
/-- nothing of the stack has changed -/
theorem is_R.keep {X X' : xh_T} {S : Nat} {a : st_T} (h : is_R X S a) (hr : X'.2.1 (S + 1) = X.2.1 (S + 1)) (hk : ∀ k, S ≤ k → k < S + 64 → X'.1 k = X.1 k) : is_R X' S a := by
  refine ⟨h.1, by rw [hk S (by omega) (by omega)]; exact h.2.1, h.2.2.1, ⟨fun i hi => by rw [hr]; exact h.2.2.2.1.1 i hi, fun i j hi hj => by rw [hr]; exact h.2.2.2.1.2 i j hi hj⟩, fun i hi => ?_, by rw [hk (S + 62) (by omega) (by omega)]; exact h.2.2.2.2.2⟩
  have h5 := h.2.2.1
  obtain ⟨j, hj, e⟩ := h.2.2.2.1.1 i (by omega)
  rw [hr]
  exact (h.2.2.2.2.1 i hi).keep (hk _ (by omega) (by omega)) (hk _ (by omega) (by omega))
theorem is_R.to {X : xh_T} {S : Nat} {a b : st_T} (h : is_R X S a) (e1 : a.1 = b.1) (e : ∀ i, i < a.1 → it_eq (a.2 i) (b.2 i)) : is_R X S b := ⟨h.1, by rw [← e1]; exact h.2.1, by rw [← e1]; exact h.2.2.1, h.2.2.2.1, fun i hi => (h.2.2.2.2.1 i (by omega)).to (e i (by omega)), h.2.2.2.2.2⟩
theorem it_eq.rf {a : it_T} : it_eq a a := ⟨rfl, fun _ _ => rfl⟩
theorem is_size {X : xh_T} {S : Nat} {a : st_T} (h : is_R X S a) : fx_IS_size S X = some (nI a.1, X) := by
  unfold fx_IS_size
  rw [xk_ h.1, h.2.1]
theorem is_has {X : xh_T} {S : Nat} {a : st_T} (h : is_R X S a) (p : Int32) : fx_IS_has S p X = some (if p < 0 then 0 else if nI a.1 ≤ p then 0 else 1, X) := by
  unfold fx_IS_has
  rw [xk_ h.1, h.2.1]
  repeat' split
  all_goals rfl
theorem is_has_n {X : xh_T} {S : Nat} {a : st_T} (h : is_R X S a) {k : Nat} (hk : k < 2 ^ 31) : fx_IS_has S (nI k) X = some (if k < a.1 then 1 else 0, X) := by
  have h5 := h.2.2.1
  rw [is_has h, if_neg (nI_pos hk)]
  by_cases g : k < a.1
  · rw [if_neg (nI_ge g (by omega)), if_pos g]
  · rw [if_pos (nI_le (by omega) hk), if_neg g]
def it_0 : it_T := (0, fun _ => 0)
/-- the item at a depth, or the empty one -/
def st_i (a : st_T) (k : Nat) : it_T := if k < a.1 then a.2 (a.1 - 1 - k) else it_0
def st_ip (a : st_T) (p : Int32) : it_T := if p < 0 then it_0 else if nI a.1 ≤ p then it_0 else a.2 (a.1 - 1 - p.toNatClampNeg)
theorem is_item {X : xh_T} {S : Nat} {a : st_T} (h : is_R X S a) {k : Nat} (hk : k < a.1) : fx_IS_item S (nI k) X = some (X.2.1 (S + 1) (a.1 - 1 - k), X) := by
  have h5 := h.2.2.1
  unfold fx_IS_item
  rw [xk_ h.1, h.2.1, if_neg (nI_pos (by omega)), if_neg (nI_ge hk (by omega)), n1, pk_sub (by omega), pk_sub (by omega), xo_ (by omega) (by decide), nI_clamp (by omega)]
theorem is_itemp {X : xh_T} {S : Nat} {a : st_T} (h : is_R X S a) (p : Int32) : ∃ q, fx_IS_item S p X = some (q, X) ∧ bs_R X q (st_ip a p) := by
  have h5 := h.2.2.1
  unfold st_ip
  by_cases g : p < 0
  · rw [if_pos g]
    refine ⟨S + 62, ?_, h.no _⟩
    unfold fx_IS_item
    rw [xk_ h.1, if_pos g]
  · rw [if_neg g]
    by_cases g2 : nI a.1 ≤ p
    · rw [if_pos g2]
      refine ⟨S + 62, ?_, h.no _⟩
      unfold fx_IS_item
      rw [xk_ h.1, h.2.1, if_neg g, if_pos g2]
    · rw [if_neg g2]
      rcases pk_ix p (n := a.1) (by omega) with g3 | g3 | ⟨j, hj, rfl⟩
      · exact absurd g3 g
      · exact absurd g3 g2
      · rw [nI_clamp (by omega)]
        exact ⟨_, is_item h hj, h.2.2.2.2.1 _ (by omega)⟩
theorem st_ip_n {a : st_T} (ha : a.1 < 2 ^ 31) {k : Nat} (hk : k < 2 ^ 31) : st_ip a (nI k) = st_i a k := by
  unfold st_ip st_i
  rw [if_neg (nI_pos hk)]
  by_cases g : k < a.1
  · rw [if_neg (nI_ge g ha), if_pos g, nI_clamp hk]
  · rw [if_pos (nI_le (by omega) hk), if_neg g]
theorem is_itemn {X : xh_T} {S : Nat} {a : st_T} (h : is_R X S a) {k : Nat} (hk : k < 2 ^ 31) : ∃ q, fx_IS_item S (nI k) X = some (q, X) ∧ bs_R X q (st_i a k) := by
  have h5 := h.2.2.1
  have := is_itemp h (nI k)
  rw [st_ip_n (by omega) hk] at this
  exact this
theorem is_push {X : xh_T} {S : Nat} {a : st_T} (h : is_R X S a) (hn : a.1 < 30) : fx_IS_push S X = some (X.2.1 (S + 1) a.1, xh_i X S 2 (nI (a.1 + 1))) := by
  unfold fx_IS_push
  rw [xk_ h.1, h.2.1, n30, if_pos (nI_lt hn (by decide)), nI_1, xn_, hi_s, n1, pk_sub (by omega), xo_ (by omega) (by decide), nI_clamp (by omega), show a.1 + 1 - 1 = a.1 by omega]
  rfl
def st_push (a : st_T) (x : it_T) : st_T := (a.1 + 1, va_up a.2 a.1 x)
def st_pop (a : st_T) (c : Nat) : st_T := (a.1 - c, a.2)
/-- behind push, and the new row filled -/
theorem is_pushed {X X' : xh_T} {S : Nat} {a : st_T} {x : it_T} (h : is_R X S a) (hn : a.1 < 30) (hf : fr_q (X.2.1 (S + 1) a.1) (xh_i X S 2 (nI (a.1 + 1))) X') (hx : bs_R X' (X.2.1 (S + 1) a.1) x) : is_R X' S (st_push a x) ∧ fr_s S X X' := by
  obtain ⟨j, hj, ej⟩ := h.2.2.2.1.1 a.1 hn
  have hfs : fr_s S X X' := fr_s.i.tr (fr_s.q hf hj ej)
  have hr : X'.2 = X.2 := hf.1
  refine ⟨⟨h.1, ?_, hn, ⟨fun i hi => by rw [hr]; exact h.2.2.2.1.1 i hi, fun i j hi hj => by rw [hr]; exact h.2.2.2.1.2 i j hi hj⟩, fun i hi => ?_, ?_⟩, hfs⟩
  · rw [hf.2 S (by omega) (by omega), hi_s]; rfl
  · have hi : i < a.1 + 1 := hi
    rw [hr]
    show bs_R X' (X.2.1 (S + 1) i) (va_up a.2 a.1 x i)
    by_cases e : i = a.1
    · rw [e, va_up_self]; exact hx
    · rw [va_up_ne _ _ e]
      obtain ⟨j', hj', ej'⟩ := h.2.2.2.1.1 i (by omega)
      have hne : X.2.1 (S + 1) i ≠ X.2.1 (S + 1) a.1 := fun k => e (h.2.2.2.1.2 i a.1 (by omega) hn k)
      refine (h.2.2.2.2.1 i (by omega)).keep ?_ ?_
      · rw [hf.2 _ hne (by omega), hi_k _ _ _ (by omega)]
      · rw [hf.2 _ (by omega) (by omega), hi_k _ _ _ (by omega)]
  · rw [hfs.2.1 (S + 62) (by omega)]; exact h.2.2.2.2.2
theorem is_drop {X : xh_T} {S : Nat} {a : st_T} (h : is_R X S a) {c : Nat} (hc : c ≤ a.1) : pw (fx_IS_drop S (nI c) X) (fun _ X' => is_R X' S (st_pop a c) ∧ fr_s S X X') := by
  have h5 := h.2.2.1
  unfold fx_IS_drop
  rw [xk_ h.1, xn_, h.2.1, pk_sub hc]
  have e : (if 0 < nI (a.1 - c) then nI (a.1 - c) else 0) = nI (a.1 - c) := by
    by_cases g : a.1 - c = 0
    · rw [g]; decide
    · rw [n0, if_pos (nI_lt (by omega) (by omega))]
  rw [e]
  refine pw_some ⟨⟨h.1, hi_s _ _ _ _, by show a.1 - c ≤ 30; omega, h.2.2.2.1, fun i hi => ?_, ?_⟩, fr_s.i⟩
  · have hi : i < a.1 - c := hi
    obtain ⟨j, hj, e⟩ := h.2.2.2.1.1 i (by omega)
    exact (h.2.2.2.2.1 i (by omega)).keep (hi_k _ _ _ (by rw [e]; omega)) (hi_k _ _ _ (by rw [e]; omega))
  · rw [hi_k _ _ _ (by omega)]; exact h.2.2.2.2.2
theorem is_empty {X : xh_T} {S : Nat} {a : st_T} (h : is_R X S a) (f : Nat → it_T) : pw (fx_IS_makeEmpty S X) (fun _ X' => is_R X' S (0, f) ∧ fr_s S X X') := by
  unfold fx_IS_makeEmpty
  rw [xk_ h.1, xn_]
  exact pw_some ⟨⟨h.1, hi_s _ _ _ _, Nat.zero_le _, h.2.2.2.1, fun i hi => absurd hi (Nat.not_lt_zero i), by rw [hi_k _ _ _ (by omega)]; exact h.2.2.2.2.2⟩, fr_s.i⟩
theorem is_pushCopy {X : xh_T} {S : Nat} {a : st_T} (h : is_R X S a) (hn : a.1 < 30) {k : Nat} (hk : k < a.1) (hb : (a.2 (a.1 - 1 - k)).1 ≤ 32) : pw (fx_IS_pushCopy S (nI k) X) (fun _ X' => is_R X' S (st_push a (a.2 (a.1 - 1 - k))) ∧ fr_s S X X') := by
  unfold fx_IS_pushCopy
  rw [xk_ h.1, is_item h hk, xb_, xn_, is_push h hn, xb_]
  have hq := h.bsr (i := a.1) hn
  have hne : X.2.1 (S + 1) a.1 ≠ X.2.1 (S + 1) (a.1 - 1 - k) := fun e => by
    have := h.2.2.2.1.2 a.1 (a.1 - 1 - k) hn (by omega) e
    omega
  obtain ⟨j, hj, ej⟩ := h.2.2.2.1.1 (a.1 - 1 - k) (by omega)
  have h2 : bs_R (xh_i X S 2 (nI (a.1 + 1))) (X.2.1 (S + 1) (a.1 - 1 - k)) (a.2 (a.1 - 1 - k)) := (h.2.2.2.2.1 _ (by omega)).keep (hi_k _ _ _ (by rw [ej]; omega)) (hi_k _ _ _ (by rw [ej]; omega))
  refine pw_b (pw_m (bs_copy hq.1 h2 hne (by rw [hq.2]; exact hb)) (fun _ X' h3 => pw_some (is_pushed h hn h3.2 h3.1)))
/-- the rows in another order -/
theorem is_perm {X X' : xh_T} {S : Nat} {a b : st_T} (h : is_R X S a) (e1 : X'.1 = X.1) (e2 : X'.2.2 = X.2.2) (e3 : ∀ k, k ≠ S + 1 → X'.2.1 k = X.2.1 k) (π : Nat → Nat) (hp : ∀ i, i < 30 → π i < 30) (hi : ∀ i j, i < 30 → j < 30 → π i = π j → i = j) (hr : ∀ i, i < 30 → X'.2.1 (S + 1) i = X.2.1 (S + 1) (π i)) (hab : a.1 = b.1) (hb : ∀ i, i < a.1 → π i < a.1 ∧ b.2 i = a.2 (π i)) : is_R X' S b ∧ fr_s S X X' := by
  have h5 := h.2.2.1
  refine ⟨⟨h.1, by rw [e1, ← hab]; exact h.2.1, by omega, ⟨fun i h1 => by rw [hr i h1]; exact h.2.2.2.1.1 _ (hp i h1), fun i j h1 h2 e => hi i j h1 h2 (h.2.2.2.1.2 _ _ (hp i h1) (hp j h2) (by rw [← hr i h1, ← hr j h2]; exact e))⟩, fun i h1 => ?_, by rw [e1]; exact h.2.2.2.2.2⟩, ⟨e2, fun k _ => by rw [e1], e3⟩⟩
  rw [hr i (by omega), (hb i (by omega)).2]
  exact (h.2.2.2.2.1 (π i) (hb i (by omega)).1).keep (by rw [e1]) (by rw [e1])
def st_raise (a : st_T) (k : Nat) : st_T := (a.1, fun j => if j < a.1 - 1 - k then a.2 j else if j < a.1 - 1 then a.2 (j + 1) else a.2 (a.1 - 1 - k))
theorem is_raise_b {X : xh_T} {S : Nat} {a : st_T} (h : is_R X S a) {d : Nat} (hd : d < a.1) {q : Nat} (hq : sp_bs q = true) : ∀ (m i fuel : Nat) (Y : xh_T), i + m = a.1 - 1 → d ≤ i → m < fuel → Y.1 = X.1 → Y.2.2 = X.2.2 → (∀ k, k ≠ S + 1 → Y.2.1 k = X.2.1 k) → (∀ j, Y.2.1 (S + 1) j = if d ≤ j ∧ j < i then X.2.1 (S + 1) (j + 1) else X.2.1 (S + 1) j) →
    pw (fx_IS_raise_b24 S fuel q (nI i) Y) (fun _ Z => Z.1 = X.1 ∧ Z.2.2 = X.2.2 ∧ (∀ k, k ≠ S + 1 → Z.2.1 k = X.2.1 k) ∧ ∀ j, Z.2.1 (S + 1) j = if d ≤ j ∧ j < a.1 - 1 then X.2.1 (S + 1) (j + 1) else if j = a.1 - 1 then q else X.2.1 (S + 1) j) := by
  have h5 := h.2.2.1
  intro m
  induction m with
  | zero =>
    intro i fuel Y hi hdi hf y1 y2 y3 y4
    obtain ⟨fuel, rfl⟩ : ∃ k, fuel = k + 1 := ⟨fuel - 1, by omega⟩
    rw [fx_IS_raise_b24, y1, h.2.1, n1, pk_sub (by omega), if_pos (nI_le (by omega) (by omega)), xo_ (by omega) (by decide), xk_ hq, xn_, nI_clamp (by omega)]
    refine pw_some ⟨y1, y2, fun k hk => by rw [hr_k _ _ _ hk]; exact y3 k hk, fun j => ?_⟩
    by_cases e : j = a.1 - 1
    · rw [e, hr_s, if_neg (by omega), if_pos rfl]
    · rw [hr_j _ _ _ e, y4 j, if_neg e, show i = a.1 - 1 by omega]
  | succ m ih =>
    intro i fuel Y hi hdi hf y1 y2 y3 y4
    obtain ⟨fuel, rfl⟩ : ∃ k, fuel = k + 1 := ⟨fuel - 1, by omega⟩
    have hb : sp_bs (Y.2.1 (S + 1) (i + 1)) = true := by
      rw [y4, if_neg (by omega)]
      exact (h.bsr (by omega)).1
    rw [fx_IS_raise_b24, y1, h.2.1, n1, pk_sub (by omega), if_neg (nI_ge (by omega) (by omega)), nI_add, xo_ (by omega) (by decide), xo_ (by omega) (by decide), nI_clamp (by omega), xk_ hb, xn_, xn_, nI_clamp (by omega)]
    refine ih (i + 1) fuel _ (by omega) (by omega) (by omega) y1 y2 (fun k hk => by rw [hr_k _ _ _ hk]; exact y3 k hk) (fun j => ?_)
    by_cases e : j = i
    · rw [e, hr_s, if_pos (by omega), y4, if_neg (by omega)]
    · rw [hr_j _ _ _ e, y4]
      by_cases g : d ≤ j ∧ j < i
      · rw [if_pos g, if_pos (by omega)]
      · rw [if_neg g, if_neg (by omega)]
theorem is_raise {X : xh_T} {S : Nat} {a : st_T} (h : is_R X S a) {k : Nat} (hk : k < a.1) : pw (fx_IS_raise S (nI k) X) (fun _ X' => is_R X' S (st_raise a k) ∧ fr_s S X X') := by
  have h5 := h.2.2.1
  have h4 := fu_
  unfold fx_IS_raise
  rw [xk_ h.1, is_has_n h (by omega), if_pos hk, xb_, if_neg (by decide), is_item h hk, xb_, xn_, xn_, h.2.1, n1, pk_sub (by omega), pk_sub (by omega)]
  refine pw_m (is_raise_b h (d := a.1 - 1 - k) (by omega) (h.bsr (by omega)).1 k (a.1 - 1 - k) sp_fuel X (by omega) (Nat.le_refl _) (by omega) rfl rfl (fun _ _ => rfl) (fun j => by rw [if_neg (by omega)])) (fun _ Z hz => ?_)
  obtain ⟨z1, z2, z3, z4⟩ := hz
  refine is_perm h z1 z2 z3 (fun i => if i < a.1 - 1 - k then i else if i < a.1 - 1 then i + 1 else if i = a.1 - 1 then a.1 - 1 - k else i) (fun i hi => ?_) (fun i j hi hj e => ?_) (fun i hi => ?_) rfl (fun i hi => ?_)
  · split
    · omega
    · split
      · omega
      · split <;> omega
  · repeat' split at e
    all_goals omega
  · rw [z4]
    by_cases g1 : i < a.1 - 1 - k
    · rw [if_neg (by omega), if_neg (by omega), if_pos g1]
    · by_cases g2 : i < a.1 - 1
      · rw [if_pos (by omega), if_neg g1, if_pos g2]
      · by_cases g3 : i = a.1 - 1
        · rw [if_neg (by omega), if_pos g3, if_neg g1, if_neg g2, if_pos g3]
        · rw [if_neg (by omega), if_neg g3, if_neg g1, if_neg g2, if_neg g3]
  · dsimp only [st_raise]
    by_cases g1 : i < a.1 - 1 - k
    · rw [if_pos g1, if_pos g1]; exact ⟨by omega, rfl⟩
    · by_cases g2 : i < a.1 - 1
      · rw [if_neg g1, if_pos g2, if_neg g1, if_pos g2]; exact ⟨by omega, rfl⟩
      · rw [if_neg g1, if_neg g2, if_pos (by omega), if_neg g1, if_neg g2]; exact ⟨by omega, rfl⟩
def st_sink (a : st_T) (k : Nat) : st_T := (a.1, fun j => if j < a.1 - 1 - k then a.2 j else if j = a.1 - 1 - k then a.2 (a.1 - 1) else a.2 (j - 1))
theorem is_sink_b {X : xh_T} {S : Nat} {a : st_T} (h : is_R X S a) {k : Nat} (hk : k < a.1) {q : Nat} (hq : sp_bs q = true) : ∀ (m i fuel : Nat) (Y : xh_T), i = a.1 - 1 - k + m → i < a.1 → m < fuel → Y.1 = X.1 → Y.2.2 = X.2.2 → (∀ k, k ≠ S + 1 → Y.2.1 k = X.2.1 k) → (∀ j, Y.2.1 (S + 1) j = if i < j ∧ j < a.1 then X.2.1 (S + 1) (j - 1) else X.2.1 (S + 1) j) →
    pw (fx_IS_sinkTop_b22 S fuel (nI k) q (nI i) Y) (fun _ Z => Z.1 = X.1 ∧ Z.2.2 = X.2.2 ∧ (∀ k, k ≠ S + 1 → Z.2.1 k = X.2.1 k) ∧ ∀ j, Z.2.1 (S + 1) j = if a.1 - 1 - k < j ∧ j < a.1 then X.2.1 (S + 1) (j - 1) else if j = a.1 - 1 - k then q else X.2.1 (S + 1) j) := by
  have h5 := h.2.2.1
  intro m
  induction m with
  | zero =>
    intro i fuel Y hi hia hf y1 y2 y3 y4
    obtain ⟨fuel, rfl⟩ : ∃ k, fuel = k + 1 := ⟨fuel - 1, by omega⟩
    rw [fx_IS_sinkTop_b22, y1, h.2.1, n1, pk_sub (by omega), pk_sub (by omega), if_pos (nI_le (by omega) (by omega)), xo_ (by omega) (by decide), xk_ hq, xn_, nI_clamp (by omega)]
    refine pw_some ⟨y1, y2, fun k hk => by rw [hr_k _ _ _ hk]; exact y3 k hk, fun j => ?_⟩
    by_cases e : j = a.1 - 1 - k
    · rw [e, hr_s, if_neg (by omega), if_pos rfl]
    · rw [hr_j _ _ _ e, y4 j, if_neg e, show i = a.1 - 1 - k by omega]
  | succ m ih =>
    intro i fuel Y hi hia hf y1 y2 y3 y4
    obtain ⟨fuel, rfl⟩ : ∃ k, fuel = k + 1 := ⟨fuel - 1, by omega⟩
    have hb : sp_bs (Y.2.1 (S + 1) (i - 1)) = true := by
      rw [y4, if_neg (by omega)]
      exact (h.bsr (by omega)).1
    rw [fx_IS_sinkTop_b22, y1, h.2.1, n1, pk_sub (by omega), pk_sub (by omega), if_neg (nI_ge (by omega) (by omega)), pk_sub (by omega), xo_ (by omega) (by decide), xo_ (by omega) (by decide), nI_clamp (by omega), xk_ hb, xn_, xn_, nI_clamp (by omega), ← Int32.sub_eq_add_neg, pk_sub (by omega)]
    refine ih (i - 1) fuel _ (by omega) (by omega) (by omega) y1 y2 (fun k hk => by rw [hr_k _ _ _ hk]; exact y3 k hk) (fun j => ?_)
    by_cases e : j = i
    · rw [e, hr_s, if_pos (by omega), y4, if_neg (by omega)]
    · rw [hr_j _ _ _ e, y4]
      by_cases g : i < j ∧ j < a.1
      · rw [if_pos g, if_pos (by omega)]
      · rw [if_neg g, if_neg (by omega)]
theorem is_sink {X : xh_T} {S : Nat} {a : st_T} (h : is_R X S a) {k : Nat} (hk : k < a.1) : pw (fx_IS_sinkTop S (nI k) X) (fun _ X' => is_R X' S (st_sink a k) ∧ fr_s S X X') := by
  have h5 := h.2.2.1
  have h4 := fu_
  unfold fx_IS_sinkTop
  rw [xk_ h.1, is_has_n h (by omega), if_pos hk, xb_, if_neg (by decide), n0, is_item h (k := 0) (by omega), xb_, xn_, xn_, h.2.1, n1, pk_sub (by omega)]
  refine pw_m (is_sink_b h hk (h.bsr (by omega)).1 k (a.1 - 1) sp_fuel X (by omega) (by omega) (by omega) rfl rfl (fun _ _ => rfl) (fun j => by rw [if_neg (by omega)])) (fun _ Z hz => ?_)
  obtain ⟨z1, z2, z3, z4⟩ := hz
  refine is_perm h z1 z2 z3 (fun i => if i < a.1 - 1 - k then i else if i = a.1 - 1 - k then a.1 - 1 else if i < a.1 then i - 1 else i) (fun i hi => ?_) (fun i j hi hj e => ?_) (fun i hi => ?_) rfl (fun i hi => ?_)
  · split
    · omega
    · split
      · omega
      · split <;> omega
  · repeat' split at e
    all_goals omega
  · rw [z4]
    by_cases g1 : i < a.1 - 1 - k
    · rw [if_neg (by omega), if_neg (by omega), if_pos g1]
    · by_cases g2 : i = a.1 - 1 - k
      · rw [if_neg (by omega), if_pos g2, if_neg g1, if_pos g2, show a.1 - 1 - 0 = a.1 - 1 by omega]
      · by_cases g3 : i < a.1
        · rw [if_pos (by omega), if_neg g1, if_neg g2, if_pos g3]
        · rw [if_neg (by omega), if_neg g2, if_neg g1, if_neg g2, if_neg g3]
  · dsimp only [st_sink]
    by_cases g1 : i < a.1 - 1 - k
    · rw [if_pos g1, if_pos g1]; exact ⟨by omega, rfl⟩
    · by_cases g2 : i = a.1 - 1 - k
      · rw [if_neg g1, if_pos g2, if_neg g1, if_pos g2]; exact ⟨by omega, rfl⟩
      · rw [if_neg g1, if_neg g2, if_pos hi, if_neg g1, if_neg g2]; exact ⟨by omega, rfl⟩

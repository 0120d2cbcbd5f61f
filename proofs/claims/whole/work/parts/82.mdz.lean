/-! The other side: spend -/
def fk (X X' : xh_T) : Prop := X'.2.1 = X.2.1 ∧ ∀ k, k < 206 → X'.1 k = X.1 k
theorem fk.rf {X : xh_T} : fk X X := ⟨rfl, fun _ _ => rfl⟩
theorem fk.tr {X X' X'' : xh_T} (h : fk X X') (h' : fk X' X'') : fk X X'' := ⟨h'.1.trans h.1, fun k hk => (h'.2 k hk).trans (h.2 k hk)⟩
theorem fk.i {X : xh_T} {o j : Nat} {v : Int32} (ho : 206 ≤ o) : fk X (xh_i X o j v) := ⟨rfl, fun k hk => hi_k _ _ _ (by omega)⟩
theorem fm.k {X X' : xh_T} (h : fm X X') : fk X X' := ⟨h.1, fun k hk => h.2.1 k (by omega) (by omega) (by omega) (by omega)⟩
def mC (X : xh_T) (a b : it_T) (t : tb_T) (st : st_T) (d : Nat) : Prop := sM X 0 a ∧ sM X 1 b ∧ it_B a ∧ it_B b ∧ rM X t st d
def md_R (X : xh_T) (σ : ss_T) : Prop := mC X σ.1 σ.2.1 σ.2.2.1 σ.2.2.2.1 σ.2.2.2.2.2.2.2 ∧ X.1 206 14 = σ.2.2.2.2.1 ∧ X.1 206 15 = σ.2.2.2.2.2.1 ∧ X.1 206 16 = σ.2.2.2.2.2.2.1
theorem mC.i {X : xh_T} {a b : it_T} {t : tb_T} {st : st_T} {d j : Nat} {v : Int32} (h : mC X a b t st d) (hj : 14 ≤ j ∧ j ≤ 16) : mC (xh_i X 206 j v) a b t st d :=
  ⟨h.1.keep (hi_k _ _ _ (by decide)) (hi_k _ _ _ (by decide)), h.2.1.keep (hi_k _ _ _ (by decide)) (hi_k _ _ _ (by decide)), h.2.2.1, h.2.2.2.1, h.2.2.2.2.1.keep (hi_j _ _ _ (by omega)) (hi_k _ _ _ (by decide)), h.2.2.2.2.2.1, h.2.2.2.2.2.2.1, h.2.2.2.2.2.2.2.1.keep (hi_j _ _ _ (by omega)) (hi_k _ _ _ (by decide)) (hi_k _ _ _ (by decide)), by rw [hi_j _ _ _ (by omega)]; exact h.2.2.2.2.2.2.2.2⟩
theorem mC.run {X X' : xh_T} {a b : it_T} {t : tb_T} {st : st_T} {d : Nat} {q : Int32 × Nat × rs_T} {r : Int32} (h : mC X a b t st d) (hq : md_Q t X q r X') : mC X' a b t q.2.2.1 q.2.2.2.2.2.2 := ⟨hq.2.2.2.1.s h.1, hq.2.2.2.1.s h.2.1, h.2.2.1, h.2.2.2.1, rM.of hq.2.1 hq.2.2.1⟩
theorem md_250 {Y : xh_T} {a b : it_T} {t : tb_T} {st : st_T} {d : Nat} {e f : Int32} {p : Nat} (h : mC Y a b t st d) (hf : Y.1 206 14 = f) (he : Y.1 206 15 = e) (hp : Y.1 206 16 = nI p) : pw (fx_MD_spend_b250 Y) (fun r X' => r = f ∧ md_R X' (a, b, t, st, f, e, if f = 0 then -1 else nI p, d) ∧ fk Y X') := by
  unfold fx_MD_spend_b250
  rw [hf]
  by_cases g : f = 0
  · rw [if_pos g, xn_]
    refine pw_some ⟨?_, ⟨h.i (by decide), ?_, ?_, ?_⟩, fk.i (by decide)⟩
    · rw [hi_j _ _ _ (by decide : 14 ≠ 16)]; exact hf
    · rw [hi_j _ _ _ (by decide : 14 ≠ 16)]; exact hf
    · rw [hi_j _ _ _ (by decide : 15 ≠ 16)]; exact he
    · show _ = if f = 0 then -1 else nI p
      rw [hi_s, if_pos g]
  · rw [if_neg g]
    refine pw_some ⟨rfl, ⟨h, hf, he, ?_⟩, fk.rf⟩
    show _ = if f = 0 then -1 else nI p
    rw [if_neg g]; exact hp
def md_t1 (a1 : Int32) (X : xh_T) : Option (Int32 × xh_T) :=
  xh_n (xh_i X 206 15 1) (fun X7 : xh_T => xh_b (fx_MD_run 1 X7) (fun (r7 : Int32) (X8 : xh_T) => xh_n (xh_i X8 206 14 r7) (fun X9 : xh_T => if X9.1 206 14 = 0 then if X9.1 206 5 = 0 then fx_MD_spend_b103 a1 X9 else xh_b (fx_MD_isTrue 0 X9) (fun (r12 : Int32) (X10 : xh_T) => if r12 = 0 then fx_MD_spend_b103 a1 X10 else fx_MD_spend_b109 a1 X10) else fx_MD_spend_b109 a1 X9)))
theorem md_38s {X : xh_T} {n : Nat} {a1 : Int32} (h5 : X.1 206 5 = nI n) (hn : n ≤ 30) {P : Int32 → xh_T → Prop} (hP : ∀ Z, (∀ j, j < 33 * n → Z.1 211 j = X.1 209 j) → (∀ k, k ≠ 211 → Z.1 k = X.1 k) → Z.2 = X.2 → pw (md_t1 a1 Z) P) : ∀ (m i fuel : Nat) (Y : xh_T), i + m = 33 * n → m < fuel → (∀ j, j < i → Y.1 211 j = X.1 209 j) → (∀ k, k ≠ 211 → Y.1 k = X.1 k) → Y.2 = X.2 → pw (fx_MD_spend_b38 fuel a1 (nI i) Y) P := by
  intro m
  induction m with
  | zero =>
    intro i fuel Y hi hf y1 y2 y3
    obtain ⟨fuel, rfl⟩ : ∃ k, fuel = k + 1 := ⟨fuel - 1, by omega⟩
    rw [fx_MD_spend_b38, y2 206 (by decide), h5, show (33 : Int32) * nI n = nI (33 * n) from nm_ 33 n, if_pos (nI_le (by omega) (by omega))]
    exact hP Y (fun j hj => y1 j (by omega)) y2 y3
  | succ m ih =>
    intro i fuel Y hi hf y1 y2 y3
    obtain ⟨fuel, rfl⟩ : ∃ k, fuel = k + 1 := ⟨fuel - 1, by omega⟩
    rw [fx_MD_spend_b38, y2 206 (by decide), h5, show (33 : Int32) * nI n = nI (33 * n) from nm_ 33 n, if_neg (nI_ge (by omega) (by omega)), xo_ (by omega) (by decide), xo_ (by omega) (by decide), xn_, xn_, nI_clamp (by omega), nI_1, y2 209 (by decide)]
    refine ih (i + 1) fuel _ (by omega) (by omega) (fun j hj => ?_) (fun k hk => by rw [hi_k _ _ _ hk]; exact y2 k hk) y3
    by_cases e : j = i
    · rw [e, hi_s]
    · rw [hi_j _ _ _ e]; exact y1 j (by omega)
def md_t2 (X : xh_T) : Option (Int32 × xh_T) :=
  xh_b (fx_MD_size 0 X) (fun (r21 : Int32) (X15 : xh_T) => xh_o 2 3 (xh_n (xh_i X15 208 (2 : Int32).toNatClampNeg r21) (fun X16 : xh_T => xh_n 0 (fun v25 : Int32 => fx_MD_spend_b172 sp_fuel v25 X16))))
theorem md_130s {X : xh_T} {n : Nat} (h5 : X.1 206 5 = nI n) (hn : n ≤ 30) {P : Int32 → xh_T → Prop} (hP : ∀ Z, (∀ j, j < 33 * n → Z.1 209 j = X.1 211 j) → (∀ k, k ≠ 209 → Z.1 k = X.1 k) → Z.2 = X.2 → pw (md_t2 Z) P) : ∀ (m i fuel : Nat) (Y : xh_T), i + m = 33 * n → m < fuel → (∀ j, j < i → Y.1 209 j = X.1 211 j) → (∀ k, k ≠ 209 → Y.1 k = X.1 k) → Y.2 = X.2 → pw (fx_MD_spend_b130 fuel (nI i) Y) P := by
  intro m
  induction m with
  | zero =>
    intro i fuel Y hi hf y1 y2 y3
    obtain ⟨fuel, rfl⟩ : ∃ k, fuel = k + 1 := ⟨fuel - 1, by omega⟩
    rw [fx_MD_spend_b130, y2 206 (by decide), h5, show (33 : Int32) * nI n = nI (33 * n) from nm_ 33 n, if_pos (nI_le (by omega) (by omega))]
    exact hP Y (fun j hj => y1 j (by omega)) y2 y3
  | succ m ih =>
    intro i fuel Y hi hf y1 y2 y3
    obtain ⟨fuel, rfl⟩ : ∃ k, fuel = k + 1 := ⟨fuel - 1, by omega⟩
    rw [fx_MD_spend_b130, y2 206 (by decide), h5, show (33 : Int32) * nI n = nI (33 * n) from nm_ 33 n, if_neg (nI_ge (by omega) (by omega)), xo_ (by omega) (by decide), xo_ (by omega) (by decide), xn_, xn_, nI_clamp (by omega), nI_1, y2 211 (by decide)]
    refine ih (i + 1) fuel _ (by omega) (by omega) (fun j hj => ?_) (fun k hk => by rw [hi_k _ _ _ hk]; exact y2 k hk) y3
    by_cases e : j = i
    · rw [e, hi_s]
    · rw [hi_j _ _ _ e]; exact y1 j (by omega)
def md_t3 (X : xh_T) : Option (Int32 × xh_T) :=
  xh_b (fx_MD_pop 1 X) (fun (_ : Unit) (X19 : xh_T) => xh_n (xh_i X19 206 15 2) (fun X20 : xh_T => xh_b (fx_MD_run 2 X20) (fun (r35 : Int32) (X21 : xh_T) => xh_n (xh_i X21 206 14 r35) (fun X22 : xh_T => if X22.1 206 14 = 0 then if X22.1 206 5 = 0 then fx_MD_spend_b244 X22 else xh_b (fx_MD_isTrue 0 X22) (fun (r40 : Int32) (X23 : xh_T) => if r40 = 0 then fx_MD_spend_b244 X23 else fx_MD_spend_b250 X23) else fx_MD_spend_b250 X22))))
theorem md_172s {X : xh_T} {st : st_T} (h : mS X st) (h0 : 0 < st.1) {P : Int32 → xh_T → Prop} (hP : ∀ Z, (∀ j, j < (st_i st 0).1 → Z.1 207 (240 + j) = (st_i st 0).2 j) → (∀ j, j < 240 → Z.1 207 j = X.1 207 j) → (∀ k, k ≠ 207 → Z.1 k = X.1 k) → Z.2 = X.2 → pw (md_t3 Z) P) : ∀ (m i fuel : Nat) (Y : xh_T), i + m = (st_i st 0).1 → m < fuel → (∀ j, j < i → Y.1 207 (240 + j) = (st_i st 0).2 j) → (∀ j, j < 240 → Y.1 207 j = X.1 207 j) → (∀ k, k ≠ 207 → Y.1 k = X.1 k) → Y.2 = X.2 → pw (fx_MD_spend_b172 fuel (nI i) Y) P := by
  have h3 := (h.i h0).2.1
  intro m
  induction m with
  | zero =>
    intro i fuel Y hi hf y1 y2 y3 y4
    obtain ⟨fuel, rfl⟩ : ∃ k, fuel = k + 1 := ⟨fuel - 1, by omega⟩
    have hY : mS Y st := h.keep (by rw [y3 206 (by decide)]) (y3 209 (by decide))
    rw [fx_MD_spend_b172, show fx_MD_size 0 Y = _ from md_size hY (k := 0) h0, xb_, if_pos (nI_le (by omega) (by omega))]
    exact hP Y (fun j hj => y1 j (by omega)) y2 y3 y4
  | succ m ih =>
    intro i fuel Y hi hf y1 y2 y3 y4
    obtain ⟨fuel, rfl⟩ : ∃ k, fuel = k + 1 := ⟨fuel - 1, by omega⟩
    have hY : mS Y st := h.keep (by rw [y3 206 (by decide)]) (y3 209 (by decide))
    rw [fx_MD_spend_b172, show fx_MD_size 0 Y = _ from md_size hY (k := 0) h0, xb_, if_neg (nI_ge (by omega) (by omega)), show fx_MD_at 0 (nI i) Y = _ from md_at hY (k := 0) h0 (by omega), xb_, n240, nI_add, xo_ (by omega) (by decide), xn_, xn_, nI_clamp (by omega), nI_1]
    refine ih (i + 1) fuel _ (by omega) (by omega) (fun j hj => ?_) (fun j hj => by rw [hi_j _ _ _ (by omega)]; exact y2 j hj) (fun k hk => by rw [hi_k _ _ _ hk]; exact y3 k hk) y4
    by_cases e : j = i
    · rw [e, hi_s]
    · rw [hi_j _ _ _ (by omega)]; exact y1 j (by omega)
theorem tf_0 {a : st_T} (h : a.1 = 0) : tf a = 16 := by
  have e : st_i a 0 = it_0 := if_neg (by omega)
  unfold tf
  rw [e]
  rfl
theorem md_tr {Y : xh_T} {st : st_T} (h : mS Y st) {K1 K2 : xh_T → Option (Int32 × xh_T)} {P : Int32 → xh_T → Prop} (h1 : tf st = 16 → pw (K1 Y) P) (h2 : tf st = 0 → pw (K2 Y) P) : pw (if Y.1 206 5 = 0 then K1 Y else xh_b (fx_MD_isTrue 0 Y) (fun (r : Int32) (Z : xh_T) => if r = 0 then K1 Z else K2 Z)) P := by
  have hn := h.2.1
  rw [h.1]
  by_cases g : st.1 = 0
  · rw [if_pos (by rw [g]; rfl)]; exact h1 (tf_0 g)
  · rw [if_neg (nI_ne0 (by omega) (by omega)), show fx_MD_isTrue 0 Y = _ from md_true h (k := 0) (by omega), xb_]
    by_cases g2 : it_t (st_i st 0) = 0
    · rw [if_pos g2]; exact h1 (if_pos g2)
    · rw [if_neg g2]; exact h2 (if_neg g2)
theorem md_form {X : xh_T} {b : it_T} (h : sM X 1 b) : fx_MD_isForm X = some (b_i (lk b), X) := by
  have hl := h.2.1
  have c1 : (1 : Int32).toNatClampNeg = 1 := rfl
  have c2 : (120 : Int32).toNatClampNeg = 120 := rfl
  have c3 : (121 : Int32).toNatClampNeg = 121 := rfl
  have c4 : (126 : Int32).toNatClampNeg = 126 := rfl
  have z1 : ∀ K : Option (Int32 × xh_T), xh_o 1 3 K = K := fun K => xo_ (i := 1) (by decide) (by decide)
  have z2 : ∀ K : Option (Int32 × xh_T), xh_o 120 360 K = K := fun K => xo_ (i := 120) (by decide) (by decide)
  have z3 : ∀ K : Option (Int32 × xh_T), xh_o 121 360 K = K := fun K => xo_ (i := 121) (by decide) (by decide)
  have z4 : ∀ K : Option (Int32 × xh_T), xh_o 126 360 K = K := fun K => xo_ (i := 126) (by decide) (by decide)
  have hn : ¬ (b.1 = 7 ∧ b.2 0 = 169 ∧ b.2 1 = 4 ∧ b.2 6 = 135) → some ((0 : Int32), X) = some (b_i (lk b), X) := fun g => by
    unfold lk
    rw [decide_eq_false g]
    rfl
  unfold fx_MD_isForm
  rw [z1, c1, h.1]
  by_cases g1 : b.1 = 7
  · rw [if_pos (show nI b.1 = 7 by rw [g1]; rfl), z2, c2, show X.1 207 120 = b.2 0 from h.2.2 0 (by omega)]
    by_cases g2 : b.2 0 = 169
    · rw [if_pos g2, z3, c3, show X.1 207 121 = b.2 1 from h.2.2 1 (by omega)]
      by_cases g3 : b.2 1 = 4
      · rw [if_pos g3, z4, c4, show X.1 207 126 = b.2 6 from h.2.2 6 (by omega)]
        by_cases g4 : b.2 6 = 135
        · rw [if_pos g4]
          unfold lk
          rw [decide_eq_true ⟨g1, g2, g3, g4⟩]
          rfl
        · rw [if_neg g4]; exact hn (fun z => g4 z.2.2.2)
      · rw [if_neg g3]; exact hn (fun z => g3 z.2.2.1)
    · rw [if_neg g2]; exact hn (fun z => g2 z.2.1)
  · rw [if_neg (show ¬ nI b.1 = 7 from fun z => g1 ((nI_eq (b := 7) (by omega) (by decide)).mp z))]; exact hn (fun z => g1 z.1)

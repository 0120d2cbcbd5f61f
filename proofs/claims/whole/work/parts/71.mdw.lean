/-! The other side: copies, pushes, numbers -/
def fd (X X' : xh_T) : Prop := X'.2.1 = X.2.1 ∧ (∀ k, k ≠ 206 → k ≠ 209 → X'.1 k = X.1 k) ∧ ∀ j, j ≠ 5 → X'.1 206 j = X.1 206 j
theorem fd.rf {X : xh_T} : fd X X := ⟨rfl, fun _ _ _ => rfl, fun _ _ => rfl⟩
theorem fd.tr {X X' X'' : xh_T} (h : fd X X') (h' : fd X' X'') : fd X X'' := ⟨h'.1.trans h.1, fun k h1 h2 => (h'.2.1 k h1 h2).trans (h.2.1 k h1 h2), fun j h1 => (h'.2.2 j h1).trans (h.2.2 j h1)⟩
theorem fd.n {X : xh_T} {v : Int32} : fd X (xh_i X 206 5 v) := ⟨rfl, fun k h1 _ => hi_k _ _ _ h1, fun j h1 => hi_j _ _ _ h1⟩
theorem fd.l {X : xh_T} {k j : Nat} {v : Int64} : fd X (xh_l X k j v) := ⟨rfl, fun _ _ _ => rfl, fun _ _ => rfl⟩
theorem mT.fd {X X' : xh_T} {t : tb_T} (h : mT X t) (hf : fd X X') : mT X' t := h.keep (hf.2.2 13 (by decide)) (hf.2.1 213 (by decide) (by decide)) (hf.2.1 214 (by decide) (by decide))
theorem mS.push {X X' : xh_T} {a : st_T} {x : it_T} (h : mS X a) (hn : a.1 ≤ 31) (h5 : X'.1 206 5 = nI (a.1 + 1)) (hr : ∀ m, m < 33 * a.1 → X'.1 209 m = X.1 209 m) (hx : iM X' 209 a.1 x) : mS X' (st_push a x) := by
  refine ⟨h5, by show a.1 + 1 ≤ 32; omega, fun j hj => ?_⟩
  have hj : j < a.1 + 1 := hj
  show iM X' 209 j (va_up a.2 a.1 x j)
  by_cases e : j = a.1
  · rw [e, va_up_self]; exact hx
  · rw [va_up_ne _ _ e]
    exact (h.2.2 j (by omega)).cp (fun k hk => hr _ (by omega))
theorem mS.to {X : xh_T} {a b : st_T} (h : mS X a) (e1 : a.1 = b.1) (e : ∀ j, j < a.1 → a.2 j = b.2 j) : mS X b := ⟨by rw [← e1]; exact h.1, by rw [← e1]; exact h.2.1, fun j hj => by rw [← e j (by omega)]; exact h.2.2 j (by omega)⟩
theorem md_pop {X : xh_T} {a : st_T} {c : Nat} (h : mS X a) (hc : c ≤ a.1) : pw (fx_MD_pop (nI c) X) (fun _ X' => mS X' (st_pop a c) ∧ fd X X') := by
  have h2 := h.2.1
  unfold fx_MD_pop
  rw [xn_, h.1, pk_sub hc]
  exact pw_some ⟨⟨hi_s _ _ _ _, by show a.1 - c ≤ 32; omega, fun j hj => (h.2.2 j (by have hj : j < a.1 - c := hj; omega)).cp (fun k _ => by rw [hi_k _ _ _ (by decide : 209 ≠ 206)])⟩, fd.n⟩
def cpQ (X : xh_T) (o1 i o3 j : Nat) (X' : xh_T) : Prop := (∀ k, k < 33 → X'.1 o3 (33 * j + k) = X.1 o1 (33 * i + k)) ∧ (∀ m, ¬ (33 * j ≤ m ∧ m < 33 * j + 33) → X'.1 o3 m = X.1 o3 m) ∧ (∀ L, L ≠ o3 → X'.1 L = X.1 L) ∧ X'.2 = X.2
theorem md_copy_b {X : xh_T} {o1 o3 i j : Nat} (l1 : sp_len o1 = 1089) (l3 : sp_len o3 = 1089) (hi : i < 33) (hj : j < 33) (hd : o1 ≠ o3 ∨ i ≠ j) : ∀ (m c fuel : Nat) (Y : xh_T), c + m = 33 → m < fuel → (∀ k, k < c → Y.1 o3 (33 * j + k) = X.1 o1 (33 * i + k)) → (∀ m, ¬ (33 * j ≤ m ∧ m < 33 * j + 33) → Y.1 o3 m = X.1 o3 m) → (∀ L, L ≠ o3 → Y.1 L = X.1 L) → Y.2 = X.2 → pw (fx_MD_copy_b3 o1 o3 fuel (nI (33 * i)) (nI (33 * j)) (nI c) Y) (fun _ X' => cpQ X o1 i o3 j X') := by
  intro m
  induction m with
  | zero =>
    intro c fuel Y hc hf y1 y2 y3 y4
    obtain ⟨fuel, rfl⟩ : ∃ k, fuel = k + 1 := ⟨fuel - 1, by omega⟩
    rw [fx_MD_copy_b3, n33, if_pos (nI_le (by omega) (by omega))]
    exact pw_some ⟨fun k hk => y1 k (by omega), y2, y3, y4⟩
  | succ m ih =>
    intro c fuel Y hc hf y1 y2 y3 y4
    obtain ⟨fuel, rfl⟩ : ∃ k, fuel = k + 1 := ⟨fuel - 1, by omega⟩
    have es : Y.1 o1 (33 * i + c) = X.1 o1 (33 * i + c) := by
      by_cases e : o1 = o3
      · have hne : i ≠ j := hd.resolve_left (fun z => z e)
        rw [e]
        exact y2 _ (by omega)
      · rw [y3 o1 e]
    rw [fx_MD_copy_b3, n33, if_neg (nI_ge (by omega) (by omega)), nI_add, nI_add, l1, l3, xo_ (by omega) (by decide), xo_ (by omega) (by decide), xn_, xn_, nI_clamp (by omega), nI_clamp (by omega), es, nI_1]
    refine ih (c + 1) fuel _ (by omega) (by omega) (fun k hk => ?_) (fun m hm => ?_) (fun L hL => by rw [hi_k _ _ _ hL]; exact y3 L hL) y4
    · by_cases e : k = c
      · rw [e, hi_s]
      · rw [hi_j _ _ _ (by omega)]; exact y1 k (by omega)
    · rw [hi_j _ _ _ (by omega)]; exact y2 m hm
theorem md_copy {X : xh_T} {o1 o3 i j : Nat} (s1 : sp_ia o1 = true) (s3 : sp_ia o3 = true) (l1 : sp_len o1 = 1089) (l3 : sp_len o3 = 1089) (hi : i < 33) (hj : j < 33) (hd : o1 ≠ o3 ∨ i ≠ j) : pw (fx_MD_copy o1 (nI (33 * i)) o3 (nI (33 * j)) X) (fun _ X' => cpQ X o1 i o3 j X') := by
  have h4 := fu_
  unfold fx_MD_copy
  rw [xk_ s1, xk_ s3, xn_]
  exact md_copy_b l1 l3 hi hj hd 33 0 sp_fuel X (by omega) (by omega) (fun k hk => absurd hk (by omega)) (fun _ _ => rfl) (fun _ _ => rfl) rfl
theorem s209 : sp_ia 209 = true := by decide +kernel
theorem s210 : sp_ia 210 = true := by decide +kernel
theorem l209 : sp_len 209 = 1089 := by decide +kernel
theorem l210 : sp_len 210 = 1089 := by decide +kernel
theorem md_again {X : xh_T} {a : st_T} {k : Nat} (h : mS X a) (hk : k < a.1) (hn : a.1 ≤ 31) : pw (fx_MD_again (nI k) X) (fun _ X' => mS X' (st_push a (st_i a k)) ∧ fd X X') := by
  unfold fx_MD_again
  rw [md_row h hk, xb_, h.1, n33, nm_]
  refine pw_b (pw_m (md_copy (i := a.1 - 1 - k) (j := a.1) s209 s209 l209 l209 (by omega) (by omega) (Or.inr (by omega))) (fun _ X1 q => ?_))
  rw [xn_, q.2.2.1 206 (by decide), h.1, nI_1]
  refine pw_some ⟨h.push hn (hi_s _ _ _ _) (fun m hm => by rw [hi_k _ _ _ (by decide : 209 ≠ 206)]; exact q.2.1 m (by omega)) ((h.i hk).cp (fun c hc => by rw [hi_k _ _ _ (by decide : 209 ≠ 206)]; exact q.1 c hc)), by show X1.2.1 = _; rw [q.2.2.2], fun k h1 h2 => by rw [hi_k _ _ _ h1, q.2.2.1 k h2], fun j hj => by rw [hi_j _ _ _ hj, q.2.2.1 206 (by decide)]⟩
def st_rem (a : st_T) (k : Nat) : st_T := (a.1 - 1, fun j => if j < a.1 - 1 - k then a.2 j else a.2 (j + 1))
theorem md_rem_b {X : xh_T} {a : st_T} {k : Nat} (hk : k < a.1) (hn : a.1 ≤ 32) : ∀ (m i fuel : Nat) (Y : xh_T), i + m = a.1 - 1 → a.1 - 1 - k ≤ i → m < fuel → Y.1 206 5 = nI a.1 → (∀ j, j < a.1 → iM Y 209 j (if j < a.1 - 1 - k then a.2 j else if j < i then a.2 (j + 1) else a.2 j)) → fd X Y → pw (fx_MD_remove_b9 fuel (nI i) Y) (fun _ X' => mS X' (st_rem a k) ∧ fd X X') := by
  intro m
  induction m with
  | zero =>
    intro i fuel Y hi hd hf y1 y2 y3
    obtain ⟨fuel, rfl⟩ : ∃ k, fuel = k + 1 := ⟨fuel - 1, by omega⟩
    rw [fx_MD_remove_b9, y1, n1, pk_sub (by omega), if_pos (nI_le (by omega) (by omega)), xn_]
    refine pw_some ⟨⟨hi_s _ _ _ _, by show a.1 - 1 ≤ 32; omega, fun j hj => ?_⟩, y3.tr fd.n⟩
    have hj : j < a.1 - 1 := hj
    have hy := y2 j (by omega)
    show iM _ 209 j (if j < a.1 - 1 - k then a.2 j else a.2 (j + 1))
    refine iM.cp (j := j) (L := 209) (X := Y) ?_ (fun c _ => by rw [hi_k _ _ _ (by decide : 209 ≠ 206)])
    by_cases g : j < a.1 - 1 - k
    · rw [if_pos g] at hy ⊢; exact hy
    · rw [if_neg g, if_pos (by omega)] at hy; rw [if_neg g]; exact hy
  | succ m ih =>
    intro i fuel Y hi hd hf y1 y2 y3
    obtain ⟨fuel, rfl⟩ : ∃ k, fuel = k + 1 := ⟨fuel - 1, by omega⟩
    have e1 : nI (33 * i) + 33 = nI (33 * (i + 1)) := by rw [n33, nI_add]; exact congrArg nI (by omega)
    rw [fx_MD_remove_b9, y1, n1, pk_sub (by omega), if_neg (nI_ge (by omega) (by omega)), show (33 : Int32) * nI i = nI (33 * i) from nm_ 33 i, e1]
    refine pw_b (pw_m (md_copy (i := i + 1) (j := i) s209 s209 l209 l209 (by omega) (by omega) (Or.inr (by omega))) (fun _ Z q => ?_))
    rw [xn_, nI_add]
    refine ih (i + 1) fuel Z (by omega) (by omega) (by omega) (by rw [q.2.2.1 206 (by decide)]; exact y1) (fun j hj => ?_) (y3.tr ⟨by rw [q.2.2.2], fun k _ h2 => q.2.2.1 k h2, fun j _ => by rw [q.2.2.1 206 (by decide)]⟩)
    by_cases e : j = i
    · have hy := y2 (i + 1) (by omega)
      rw [if_neg (by omega), if_neg (by omega)] at hy
      rw [e, if_neg (by omega), if_pos (by omega)]
      exact hy.cp q.1
    · have hy := y2 j hj
      have e2 : (if j < a.1 - 1 - k then a.2 j else if j < i + 1 then a.2 (j + 1) else a.2 j) = (if j < a.1 - 1 - k then a.2 j else if j < i then a.2 (j + 1) else a.2 j) := by
        by_cases g : j < a.1 - 1 - k
        · rw [if_pos g, if_pos g]
        · rw [if_neg g, if_neg g]
          by_cases g2 : j < i
          · rw [if_pos g2, if_pos (by omega)]
          · rw [if_neg g2, if_neg (by omega)]
      rw [e2]
      exact hy.cp (fun c hc => q.2.1 _ (by omega))
theorem md_rem {X : xh_T} {a : st_T} {k : Nat} (h : mS X a) (hk : k < a.1) : pw (fx_MD_remove (nI k) X) (fun _ X' => mS X' (st_rem a k) ∧ fd X X') := by
  have h2 := h.2.1
  have h4 := fu_
  unfold fx_MD_remove
  rw [xn_, h.1, n1, pk_sub (by omega), pk_sub (by omega)]
  refine md_rem_b hk h2 k (a.1 - 1 - k) sp_fuel X (by omega) (by omega) (by omega) h.1 (fun j hj => ?_) fd.rf
  have hy := h.2.2 j hj
  by_cases g : j < a.1 - 1 - k
  · rw [if_pos g]; exact hy
  · rw [if_neg g, if_neg g]; exact hy
-- numbers pushed
theorem le127 (x : Int32) : x ≤ 127 ↔ x < 128 := by
  rw [Int32.le_iff_toInt_le, Int32.lt_iff_toInt_lt, show (127 : Int32).toInt = 127 from rfl, show (128 : Int32).toInt = 128 from rfl]
  omega
def pF (X Y : xh_T) (n : Nat) : Prop := Y.2 = X.2 ∧ (∀ k, k ≠ 209 → Y.1 k = X.1 k) ∧ ∀ m, ¬ (33 * n ≤ m ∧ m < 33 * n + 33) → Y.1 209 m = X.1 209 m
theorem pF.i {X Y : xh_T} {n c : Nat} {v : Int32} (h : pF X Y n) (hc : c < 33) : pF X (xh_i Y 209 (33 * n + c) v) n := ⟨h.1, fun k hk => by rw [hi_k _ _ _ hk]; exact h.2.1 k hk, fun m hm => by rw [hi_j _ _ _ (by omega)]; exact h.2.2 m hm⟩
def pB (Y : xh_T) (n : Nat) (x : it_T) : Prop := ∀ i, i < x.1 → Y.1 209 (33 * n + 1 + i) = x.2 i
theorem pB.app {Y : xh_T} {n : Nat} {x : it_T} {v : Int32} (h : pB Y n x) : pB (xh_i Y 209 (33 * n + (x.1 + 1)) v) n (x.1 + 1, va_up x.2 x.1 v) := fun i hi => by
  have hi : i < x.1 + 1 := hi
  show _ = va_up x.2 x.1 v i
  by_cases e : i = x.1
  · rw [e, va_up_self, show 33 * n + 1 + x.1 = 33 * n + (x.1 + 1) by omega, hi_s]
  · rw [va_up_ne _ _ e, hi_j _ _ _ (by omega)]; exact h i (by omega)
theorem md_149 {X Y : xh_T} {n : Nat} {x : it_T} (hF : pF X Y n) (hB : pB Y n x) (hn : n < 33) (hx : x.1 ≤ 32) : pw (fx_MD_pushNumber_b149 (nI (33 * n)) (nI x.1) Y) (fun _ X' => iM X' 209 n x ∧ pF X X' n) := by
  unfold fx_MD_pushNumber_b149
  rw [xo_ (by omega) (by decide), xn_, nI_clamp (by omega)]
  refine pw_some ⟨⟨hi_s _ _ _ _, hx, fun i hi => ?_⟩, hF.i (c := 0) (by decide)⟩
  rw [hi_j _ _ _ (by omega)]
  exact hB i hi
theorem md_121 {X Y : xh_T} {n : Nat} {x : it_T} (v : Int64) (hF : pF X Y n) (hB : pB Y n x) (hn : n < 33) (hx : x.1 ≤ 32) : pw (fx_MD_pushNumber_b121 v (nI (33 * n)) (nI x.1) Y) (fun _ X' => iM X' 209 n (if 0 ≤ lg_cmp v 0 ∨ x.1 = 0 then x else (x.1, va_up x.2 (x.1 - 1) (x.2 (x.1 - 1) + 128))) ∧ pF X X' n) := by
  unfold fx_MD_pushNumber_b121
  by_cases g : 0 ≤ lg_cmp v 0
  · rw [if_pos g, if_pos (Or.inl g)]
    exact md_149 hF hB hn hx
  · rw [if_neg g, nI_add, xo_ (by omega) (by decide), xo_ (by omega) (by decide), xn_, nI_clamp (by omega)]
    by_cases g2 : x.1 = 0
    · rw [if_pos (Or.inr g2)]
      exact md_149 (hF.i (by omega)) (fun i hi => absurd hi (by omega)) hn hx
    · rw [if_neg (fun z => z.elim g g2)]
      have e : 33 * n + x.1 = 33 * n + 1 + (x.1 - 1) := by omega
      refine md_149 (x := (x.1, va_up x.2 (x.1 - 1) (x.2 (x.1 - 1) + 128))) (hF.i (by omega)) (fun i hi => ?_) hn hx
      have hi : i < x.1 := hi
      show _ = va_up x.2 (x.1 - 1) (x.2 (x.1 - 1) + 128) i
      by_cases e2 : i = x.1 - 1
      · rw [e2, va_up_self, ← e, hi_s, e, hB _ (by omega)]
      · rw [va_up_ne _ _ e2, hi_j _ _ _ (by omega)]; exact hB i hi
theorem en_l_0 {w : Int64} (h : lg_cmp w 0 ≤ 0) (x : it_T) (l : Int32) : ∀ m, en_l m w x l = (x, l)
  | 0 => rfl
  | m + 1 => by unfold en_l; rw [if_pos h]
theorem md_38 {X : xh_T} {n : Nat} (hn : n < 33) (v : Int64) : ∀ (m k fuel : Nat) (w : Int64) (x : it_T) (l : Int32) (Y : xh_T), k + m = 5 → m < fuel → x.1 ≤ k → (0 < x.1 → l = x.2 (x.1 - 1)) → (x.1 = 0 → l = 0) → (∃ b : Nat, b < 256 ∧ l = nI b) → pF X Y n → pB Y n x → pw (fx_MD_pushNumber_b38 fuel v (nI (33 * n)) w (nI x.1) (nI k) Y) (fun _ X' => iM X' 209 n (en_e (en_l m w x l) (en_g v)) ∧ pF X X' n) := by
  intro m
  induction m with
  | zero =>
    intro k fuel w x l Y hk hf hx hl1 hl0 hlb hF hB
    obtain ⟨fuel, rfl⟩ : ∃ k, fuel = k + 1 := ⟨fuel - 1, by omega⟩
    obtain ⟨b, hb, eb⟩ := hlb
    rw [fx_MD_pushNumber_b38, n5, if_pos (nI_le (by omega) (by omega))]
    have eg : en_g v = if 0 ≤ lg_cmp v 0 then 0 else 128 := rfl
    show pw _ (fun _ X' => iM X' 209 n (en_e (x, l) (en_g v)) ∧ pF X X' n)
    unfold en_e
    by_cases g : x.1 = 0
    · rw [if_pos (show nI x.1 ≤ 0 by rw [g]; decide), if_pos (show l < 128 by rw [hl0 g]; decide), if_pos g]
      refine pw_m (md_121 v hF hB hn (by omega)) (fun _ X' q => ?_)
      rw [if_pos (Or.inr g)] at q
      exact q
    · have e : 33 * n + x.1 = 33 * n + 1 + (x.1 - 1) := by omega
      have el : Y.1 209 (33 * n + x.1) = l := by rw [e, hB _ (by omega), hl1 (by omega)]
      rw [if_neg (nI_nle (by omega) (by omega)), nI_add, xo_ (by omega) (by decide), nI_clamp (by omega), el]
      by_cases g2 : l < 128
      · rw [if_pos ((le127 l).mpr g2), if_pos g2, if_neg g]
        have hb2 : b < 128 := by rw [eb] at g2; exact (nI_ltI (a := b) (b := 128) (by omega) (by decide)).mp g2
        refine pw_m (md_121 v hF hB hn (by omega)) (fun _ X' q => ⟨q.1.to ?_, q.2⟩)
        rw [eg]
        by_cases g3 : 0 ≤ lg_cmp v 0
        · rw [if_pos (Or.inl g3), if_pos g3, eb, (en_or b hb2).2, ← eb]
          refine ⟨rfl, fun i hi => ?_⟩
          show x.2 i = va_up x.2 (x.1 - 1) l i
          by_cases e2 : i = x.1 - 1
          · rw [e2, va_up_self, hl1 (by omega)]
          · rw [va_up_ne _ _ e2]
        · rw [if_neg (fun z => z.elim g3 g), if_neg g3, eb, (en_or b hb2).1, ← hl1 (by omega), eb, show nI b + 128 = nI (b + 128) from nI_add b 128]
          exact ⟨rfl, fun i hi => rfl⟩
      · rw [if_neg (fun z => g2 ((le127 l).mp z)), if_neg g2, xn_, nI_1, nI_add, xo_ (by omega) (by decide), xn_, nI_clamp (by omega)]
        refine pw_m (md_121 (x := (x.1 + 1, va_up x.2 x.1 0)) v (hF.i (by omega)) hB.app hn (by show x.1 + 1 ≤ 32; omega)) (fun _ X' q => ⟨q.1.to ?_, q.2⟩)
        rw [eg]
        by_cases g3 : 0 ≤ lg_cmp v 0
        · rw [if_pos (Or.inl g3), if_pos g3]
          exact ⟨rfl, fun i hi => rfl⟩
        · rw [if_neg (fun z => z.elim g3 (fun z => absurd (show x.1 + 1 = 0 from z) (by omega))), if_neg g3]
          refine ⟨rfl, fun i hi => ?_⟩
          show va_up (va_up x.2 x.1 0) (x.1 + 1 - 1) (va_up x.2 x.1 0 (x.1 + 1 - 1) + 128) i = va_up x.2 x.1 (128 &&& 255) i
          rw [Nat.add_sub_cancel, va_up_self]
          by_cases e2 : i = x.1
          · rw [e2, va_up_self, va_up_self]; decide
          · rw [va_up_ne _ _ e2, va_up_ne _ _ e2, va_up_ne _ _ e2]
  | succ m ih =>
    intro k fuel w x l Y hk hf hx hl1 hl0 hlb hF hB
    obtain ⟨fuel, rfl⟩ : ∃ k, fuel = k + 1 := ⟨fuel - 1, by omega⟩
    rw [fx_MD_pushNumber_b38, n5, if_neg (nI_ge (by omega) (by decide))]
    by_cases g : lg_cmp w 0 ≤ 0
    · rw [if_pos g, xn_, nI_1, en_l_0 g]
      have := ih (k + 1) fuel w x l Y (by omega) (by omega) (by omega) hl1 hl0 hlb hF hB
      rw [en_l_0 g] at this
      exact this
    · rw [if_neg g, xn_, nI_1, nI_add, xo_ (by omega) (by decide), xn_, xn_, xn_, nI_1, nI_clamp (by omega), en_l, if_neg g]
      exact ih (k + 1) fuel _ (x.1 + 1, va_up x.2 x.1 ((w &&& 255).toInt32)) _ _ (by omega) (by omega) (by show x.1 + 1 ≤ k + 1; omega) (fun _ => by show _ = va_up x.2 x.1 _ (x.1 + 1 - 1); rw [Nat.add_sub_cancel, va_up_self]) (fun z => absurd (show x.1 + 1 = 0 from z) (by omega)) (en_b w) (hF.i (by omega)) hB.app
theorem md_num {X : xh_T} {a : st_T} (h : mS X a) (hn : a.1 ≤ 31) (v : Int64) : pw (fx_MD_pushNumber v X) (fun _ X' => mS X' (st_push a (it_e v)) ∧ fd X X') := by
  have h4 := fu_
  have fin : ∀ w : Int64, w = (if 0 < v then v else -v) → pw (fx_MD_pushNumber_b30 v (nI (33 * a.1)) w (xh_i X 206 5 (nI (a.1 + 1)))) (fun _ X' => mS X' (st_push a (it_e v)) ∧ fd X X') := fun w hw => by
    unfold fx_MD_pushNumber_b30
    rw [xn_, xn_, xn_, hw]
    refine pw_m (md_38 (X := xh_i X 206 5 (nI (a.1 + 1))) (n := a.1) (by omega) v 5 0 sp_fuel _ (0, fun _ => 0) 0 _ (by omega) (by omega) (by show 0 ≤ 0; omega) (fun z => absurd z (Nat.lt_irrefl 0)) (fun _ => rfl) ⟨0, by decide, rfl⟩ ⟨rfl, fun _ _ => rfl, fun _ _ => rfl⟩ (fun i hi => absurd hi (Nat.not_lt_zero i))) (fun _ X' q => ⟨h.push hn ?_ (fun m hm => ?_) q.1, ?_⟩)
    · rw [q.2.2.1 206 (by decide), hi_s]
    · rw [q.2.2.2 m (by omega), hi_k _ _ _ (by decide : 209 ≠ 206)]
    · exact fd.n.tr ⟨by rw [q.2.1], fun k h1 h2 => q.2.2.1 k h2, fun j _ => by rw [q.2.2.1 206 (by decide)]⟩
  unfold fx_MD_pushNumber
  rw [xn_, xn_, h.1, nI_1, show (33 : Int32) * nI a.1 = nI (33 * a.1) from nm_ 33 a.1]
  by_cases g : 0 ≤ lg_cmp v 0
  · rw [if_pos g]
    refine fin v ?_
    by_cases g2 : 0 < v
    · rw [if_pos g2]
    · rw [if_neg g2]
      have e : v = 0 := by
        have k1 := lc_ge.mp g
        rw [Int64.lt_iff_toInt_lt] at k1 g2
        apply Int64.toInt_inj.mp
        omega
      rw [e]; decide
  · rw [if_neg g]
    refine fin (-v) ?_
    rw [if_neg (fun z => g (lc_ge.mpr (fun k => Int64.lt_irrefl (Int64.lt_trans z k))))]
theorem md_full {X : xh_T} {a : st_T} {s c : Nat} (h : mS X a) (hs : X.1 206 6 = nI s) (hs2 : s ≤ 100) (hc : c ≤ 100) : fx_MD_full (nI c) X = some (if 30 < a.1 + s + c then 1 else 0, X) := by
  have h2 := h.2.1
  unfold fx_MD_full
  rw [h.1, hs, nI_add, nI_add, n30]
  by_cases g : 30 < a.1 + s + c
  · rw [if_neg (nI_ge g (by omega)), if_pos g]
  · rw [if_pos (nI_le (by omega) (by decide)), if_neg g]

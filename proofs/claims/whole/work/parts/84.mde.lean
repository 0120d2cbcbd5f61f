/-! The other side: the other calls -/
def md_P (X : xh_T) (q : Int32 × ss_T) : Int32 → xh_T → Prop := fun r X' => r = q.1 ∧ md_R X' q.2 ∧ fk X X'
theorem md_sc {X : xh_T} (w : Int32) : fx_MD_isScript w X = some (if w = 0 ∨ w = 1 then 1 else 0, X) := by
  unfold fx_MD_isScript fx_MD_isScript_b9
  by_cases g : w = 0
  · rw [if_pos g, if_pos (Or.inl g)]
  · rw [if_neg g]
    by_cases g2 : w = 1
    · rw [if_pos g2, if_pos (Or.inr g2)]
    · rw [if_neg g2, if_neg (fun z => z.elim g g2)]
theorem rM.s {X X' : xh_T} {t : tb_T} {a : st_T} {d : Nat} (h : rM X t a d) (e : ∀ k, k ≠ 207 → k ≠ 208 → X'.1 k = X.1 k) : rM X' t a d := ⟨h.1.keep (by rw [e 206 (by decide) (by decide)]) (e 209 (by decide) (by decide)), h.2.1, h.2.2.1, h.2.2.2.1.keep (by rw [e 206 (by decide) (by decide)]) (e 213 (by decide) (by decide)) (e 214 (by decide) (by decide)), by rw [e 206 (by decide) (by decide)]; exact h.2.2.2.2⟩
theorem md_R.s {X X' : xh_T} {σ : ss_T} {a b : it_T} (h : md_R X σ) (e : ∀ k, k ≠ 207 → k ≠ 208 → X'.1 k = X.1 k) (h0 : sM X' 0 a) (h1 : sM X' 1 b) (ha : it_B a) (hb : it_B b) : md_R X' (a, b, σ.2.2) := ⟨⟨h0, h1, ha, hb, h.1.2.2.2.2.s e⟩, by rw [e 206 (by decide) (by decide)]; exact h.2.1, by rw [e 206 (by decide) (by decide)]; exact h.2.2.1, by rw [e 206 (by decide) (by decide)]; exact h.2.2.2⟩
theorem md_feedu {X : xh_T} {u : Nat} {sc : it_T} (hu : u < 2) (h : sM X u sc) (hn : ¬ sc.1 = 120) (v : Int32) : sM (xh_i (xh_i X 207 (120 * u + sc.1) (v &&& 255)) 208 u (nI (sc.1 + 1))) u (it_app sc v) ∧ ∀ u' b, u' < 2 → u' ≠ u → sM X u' b → sM (xh_i (xh_i X 207 (120 * u + sc.1) (v &&& 255)) 208 u (nI (sc.1 + 1))) u' b := by
  have h2 := h.2.1
  refine ⟨⟨hi_s _ _ _ _, by show sc.1 + 1 ≤ 120; omega, fun i hi => ?_⟩, fun u' b h3 h4 h5 => ⟨?_, h5.2.1, fun i hi => ?_⟩⟩
  · have hi : i < sc.1 + 1 := hi
    rw [hi_k _ _ _ (by decide : 207 ≠ 208)]
    show _ = va_up sc.2 sc.1 (v &&& 255) i
    by_cases e : i = sc.1
    · rw [e, hi_s, va_up_self]
    · rw [hi_j _ _ _ (by omega), va_up_ne _ _ e]; exact h.2.2 i (by omega)
  · rw [hi_j _ _ _ h4, hi_k _ _ _ (by decide : 208 ≠ 207)]; exact h5.1
  · have h6 := h5.2.1
    rw [hi_k _ _ _ (by decide : 207 ≠ 208), hi_j _ _ _ (by omega)]; exact h5.2.2 i hi
theorem md_feedx {X : xh_T} {u : Nat} {sc : it_T} (hu : u < 2) (h : sM X u sc) (v : Int32) : fx_MD_feed (nI u) v X = if sc.1 = 120 then some (0, X) else some (1, xh_i (xh_i X 207 (120 * u + sc.1) (v &&& 255)) 208 u (nI (sc.1 + 1))) := by
  have h2 := h.2.1
  have hu2 : nI u = 0 ∨ nI u = 1 := by
    by_cases e : u = 0
    · exact Or.inl (by rw [e]; rfl)
    · exact Or.inr (by rw [show u = 1 by omega]; rfl)
  unfold fx_MD_feed
  rw [md_sc, xb_, if_pos hu2, if_neg (by decide), xo_ (by omega) (by decide), nI_clamp (by omega), h.1]
  by_cases g : sc.1 = 120
  · rw [if_pos (show nI sc.1 = 120 by rw [g]; rfl), if_pos g]
  · rw [if_neg (show ¬ nI sc.1 = 120 from fun z => g ((nI_eq (b := 120) (by omega) (by decide)).mp z)), if_neg g, xo_ (by omega) (by decide), show (120 : Int32) * nI u = nI (120 * u) from nm_ 120 u, nI_add, xo_ (by omega) (by decide), xn_, xo_ (by omega) (by decide), xo_ (by omega) (by decide), xn_, nI_clamp (by omega), hi_k _ _ _ (by decide : 208 ≠ 207), h.1, nI_1]
theorem md_feed {X : xh_T} {σ : ss_T} (h : md_R X σ) (w v : Int32) : pw (fx_MD_feed w v X) (md_P X (ss_feed w v σ)) := by
  unfold ss_feed
  by_cases g : w = 0
  · rw [if_pos g, g, show fx_MD_feed 0 v X = _ from md_feedx (u := 0) (by decide) h.1.1 v]
    by_cases g2 : σ.1.1 = 120
    · rw [if_pos g2, if_pos g2]; exact pw_some ⟨rfl, h, fk.rf⟩
    · rw [if_neg g2, if_neg g2]
      have k := md_feedu (u := 0) (by decide) h.1.1 g2 v
      exact pw_some ⟨rfl, h.s (fun k h1 h2 => by rw [hi_k _ _ _ h2, hi_k _ _ _ h1]) k.1 (k.2 1 _ (by decide) (by decide) h.1.2.1) (it_B_app h.1.2.2.1 v) h.1.2.2.2.1, (fk.i (by decide)).tr (fk.i (by decide))⟩
  · rw [if_neg g]
    by_cases g1 : w = 1
    · rw [if_pos g1, g1, show fx_MD_feed 1 v X = _ from md_feedx (u := 1) (by decide) h.1.2.1 v]
      by_cases g2 : σ.2.1.1 = 120
      · rw [if_pos g2, if_pos g2]; exact pw_some ⟨rfl, h, fk.rf⟩
      · rw [if_neg g2, if_neg g2]
        have k := md_feedu (u := 1) (by decide) h.1.2.1 g2 v
        exact pw_some ⟨rfl, h.s (fun k h1 h2 => by rw [hi_k _ _ _ h2, hi_k _ _ _ h1]) (k.2 0 _ (by decide) (by decide) h.1.1) k.1 h.1.2.2.1 (it_B_app h.1.2.2.2.1 v), (fk.i (by decide)).tr (fk.i (by decide))⟩
    · rw [if_neg g1]
      unfold fx_MD_feed
      rw [md_sc, xb_, if_neg (show ¬ (w = 0 ∨ w = 1) from fun z => z.elim g g1), if_pos rfl]
      exact pw_some ⟨rfl, h, fk.rf⟩
theorem md_len {X : xh_T} {σ : ss_T} (h : md_R X σ) (w : Int32) : fx_MD_length w X = some (ss_len w σ, X) := by
  unfold fx_MD_length ss_len
  rw [md_sc, xb_]
  by_cases g : w = 0
  · rw [if_pos (Or.inl g), if_neg (by decide), if_pos g, g, show ∀ K : Option (Int32 × xh_T), xh_o 0 3 K = K from fun K => xo_ (i := 0) (by decide) (by decide), show X.1 208 (0 : Int32).toNatClampNeg = _ from h.1.1.1]
  · by_cases g1 : w = 1
    · rw [if_pos (Or.inr g1), if_neg (by decide), if_neg g, if_pos g1, g1, show ∀ K : Option (Int32 × xh_T), xh_o 1 3 K = K from fun K => xo_ (i := 1) (by decide) (by decide), show X.1 208 (1 : Int32).toNatClampNeg = _ from h.1.2.1.1]
    · rw [if_neg (show ¬ (w = 0 ∨ w = 1) from fun z => z.elim g g1), if_pos rfl, if_neg g, if_neg g1]
theorem md_clear {X : xh_T} {σ : ss_T} (h : md_R X σ) (w : Int32) : pw (fx_MD_clear w X) (md_P X (ss_clear w σ)) := by
  have z : it_B it_0 := fun i hi => absurd hi (Nat.not_lt_zero i)
  unfold fx_MD_clear ss_clear
  rw [md_sc, xb_]
  by_cases g : w = 0
  · rw [if_pos (Or.inl g), if_neg (by decide), if_pos g, g, show ∀ K : Option (Int32 × xh_T), xh_o 0 3 K = K from fun K => xo_ (i := 0) (by decide) (by decide), xn_]
    exact pw_some ⟨rfl, h.s (fun k _ h2 => hi_k _ _ _ h2) ⟨hi_s _ _ _ _, Nat.zero_le _, fun i hi => absurd hi (Nat.not_lt_zero i)⟩ ⟨by rw [hi_j _ _ _ (show 1 ≠ (0 : Int32).toNatClampNeg by decide)]; exact h.1.2.1.1, h.1.2.1.2.1, fun i hi => by rw [hi_k _ _ _ (by decide : 207 ≠ 208)]; exact h.1.2.1.2.2 i hi⟩ z h.1.2.2.2.1, fk.i (by decide)⟩
  · by_cases g1 : w = 1
    · rw [if_pos (Or.inr g1), if_neg (by decide), if_neg g, if_pos g1, g1, show ∀ K : Option (Int32 × xh_T), xh_o 1 3 K = K from fun K => xo_ (i := 1) (by decide) (by decide), xn_]
      exact pw_some ⟨rfl, h.s (fun k _ h2 => hi_k _ _ _ h2) ⟨by rw [hi_j _ _ _ (show 0 ≠ (1 : Int32).toNatClampNeg by decide)]; exact h.1.1.1, h.1.1.2.1, fun i hi => by rw [hi_k _ _ _ (by decide : 207 ≠ 208)]; exact h.1.1.2.2 i hi⟩ ⟨hi_s _ _ _ _, Nat.zero_le _, fun i hi => absurd hi (Nat.not_lt_zero i)⟩ h.1.2.2.1 z, fk.i (by decide)⟩
    · rw [if_neg (show ¬ (w = 0 ∨ w = 1) from fun z => z.elim g g1), if_pos rfl, if_neg g, if_neg g1]
      exact pw_some ⟨rfl, h, fk.rf⟩
theorem md_conf {X : xh_T} {σ : ss_T} (h : md_R X σ) (x y : Int32) : pw (fx_MD_confirm x y X) (md_P X (ss_conf x y σ)) := by
  have ht := h.1.2.2.2.2.2.2.2.1
  have h5 := ht.2.1
  unfold fx_MD_confirm ss_conf
  rw [ht.1]
  by_cases g : σ.2.2.1.1 < 8
  · rw [if_neg (show ¬ nI σ.2.2.1.1 = 8 from fun z => by have := (nI_eq (b := 8) (by omega) (by decide)).mp z; omega), if_pos g, xo_ g (by decide), xn_, nI_clamp (by omega), hi_k _ _ _ (by decide : 206 ≠ 213), ht.1, xo_ g (by decide), xn_, nI_clamp (by omega), hi_k _ _ _ (by decide : 206 ≠ 214), hi_k _ _ _ (by decide : 206 ≠ 213), ht.1, nI_1, xn_]
    have e : ∀ k, k ≠ 206 → k ≠ 213 → k ≠ 214 → (xh_i (xh_i (xh_i X 213 σ.2.2.1.1 x) 214 σ.2.2.1.1 y) 206 13 (nI (σ.2.2.1.1 + 1))).1 k = X.1 k := fun k h1 h2 h3 => by rw [hi_k _ _ _ h1, hi_k _ _ _ h3, hi_k _ _ _ h2]
    have ej : ∀ j, j ≠ 13 → (xh_i (xh_i (xh_i X 213 σ.2.2.1.1 x) 214 σ.2.2.1.1 y) 206 13 (nI (σ.2.2.1.1 + 1))).1 206 j = X.1 206 j := fun j hj => by rw [hi_j _ _ _ hj, hi_k _ _ _ (by decide : 206 ≠ 214), hi_k _ _ _ (by decide : 206 ≠ 213)]
    refine pw_some ⟨rfl, ⟨⟨h.1.1.keep (e 207 (by decide) (by decide) (by decide)) (e 208 (by decide) (by decide) (by decide)), h.1.2.1.keep (e 207 (by decide) (by decide) (by decide)) (e 208 (by decide) (by decide) (by decide)), h.1.2.2.1, h.1.2.2.2.1, h.1.2.2.2.2.1.keep (ej 5 (by decide)) (e 209 (by decide) (by decide) (by decide)), h.1.2.2.2.2.2.1, h.1.2.2.2.2.2.2.1, ⟨hi_s _ _ _ _, g, fun i hi => ?_⟩, by rw [ej 17 (by decide)]; exact h.1.2.2.2.2.2.2.2.2⟩, by rw [ej 14 (by decide)]; exact h.2.1, by rw [ej 15 (by decide)]; exact h.2.2.1, by rw [ej 16 (by decide)]; exact h.2.2.2⟩, rfl, fun k hk => e k (by omega) (by omega) (by omega)⟩
    have hi : i < σ.2.2.1.1 + 1 := hi
    rw [hi_k _ _ _ (by decide : 213 ≠ 206), hi_k _ _ _ (by decide : 213 ≠ 214), hi_k _ _ _ (by decide : 214 ≠ 206)]
    by_cases e : i = σ.2.2.1.1
    · rw [e, hi_s, hi_s]; exact ⟨(va_up_self _ _ _).symm, (va_up_self _ _ _).symm⟩
    · rw [hi_j _ _ _ e, hi_j _ _ _ e, hi_k _ _ _ (by decide : 214 ≠ 213), (ht.2.2 i (by omega)).1, (ht.2.2 i (by omega)).2]
      exact ⟨(va_up_ne _ _ e).symm, (va_up_ne _ _ e).symm⟩
  · rw [if_pos (show nI σ.2.2.1.1 = 8 by rw [show σ.2.2.1.1 = 8 by omega]; rfl), if_neg g]
    exact pw_some ⟨rfl, h, fk.rf⟩
theorem md_dig_b {X : xh_T} {u : Nat} {sc : it_T} (hu : u < 2) (h : sM X u sc) {f c : Nat} (hfc : f + c ≤ sc.1) : ∀ (m i fuel : Nat), i + m = c → m < fuel → fx_MD_digest_b46 fuel (nI u) (nI f) (nI c) (it_h sc.2 f i) (nI i) X = some (it_h sc.2 f c, X) := by
  have h2 := h.2.1
  intro m
  induction m with
  | zero =>
    intro i fuel hi hf
    obtain ⟨fuel, rfl⟩ : ∃ k, fuel = k + 1 := ⟨fuel - 1, by omega⟩
    rw [fx_MD_digest_b46, if_pos (nI_le (by omega) (by omega)), show i = c by omega]
  | succ m ih =>
    intro i fuel hi hf
    obtain ⟨fuel, rfl⟩ : ∃ k, fuel = k + 1 := ⟨fuel - 1, by omega⟩
    rw [fx_MD_digest_b46, if_neg (nI_ge (by omega) (by omega)), show (120 : Int32) * nI u = nI (120 * u) from nm_ 120 u, nI_add, nI_add, xo_ (by omega) (by decide), xn_, xn_, nI_clamp (by omega), nI_1, show 120 * u + f + i = 120 * u + (f + i) by omega, h.2.2 _ (by omega)]
    exact ih (i + 1) fuel (by omega) (by omega)
theorem md_digx {X : xh_T} {u : Nat} {sc : it_T} (hu : u < 2) (h : sM X u sc) (f c : Int32) : fx_MD_digest (nI u) f c X = some (it_g sc f c, X) := by
  have h2 := h.2.1
  have h4 := fu_
  have hu2 : nI u = 0 ∨ nI u = 1 := by
    by_cases e : u = 0
    · exact Or.inl (by rw [e]; rfl)
    · exact Or.inr (by rw [show u = 1 by omega]; rfl)
  unfold fx_MD_digest it_g
  rw [md_sc, xb_, if_pos hu2, if_neg (by decide)]
  by_cases g1 : f < 0
  · rw [if_pos g1, if_pos (by unfold it_p; rw [if_pos g1])]
  · rw [if_neg g1]
    by_cases g2 : c < 0
    · rw [if_pos g2, if_pos (by unfold it_p; rw [if_neg g1, if_pos g2])]
    · obtain ⟨i, hi, e1⟩ := nI_of g1
      obtain ⟨j, hj, e2⟩ := nI_of g2
      rw [if_neg g2, e1, e2, it_p_n (by omega) hi hj, xo_ (by omega) (by decide), nI_clamp (by omega : u < 2 ^ 31), h.1]
      by_cases g3 : sc.1 < i
      · rw [if_pos (nI_lt g3 hi), if_neg (show ¬ i + j ≤ sc.1 by omega), if_pos rfl]
      · rw [if_neg (nI_nlt (by omega) (by omega)), xo_ (by omega) (by decide), pk_sub (by omega)]
        by_cases g4 : i + j ≤ sc.1
        · rw [if_pos (nI_le (by omega) (by omega)), if_pos g4, if_neg (by decide), xn_, xn_, nI_clamp hi, nI_clamp hj]
          exact md_dig_b hu h g4 j 0 sp_fuel (by omega) (by omega)
        · rw [if_neg (nI_ge (by omega) hj), if_neg g4, if_pos rfl]
theorem md_dig {X : xh_T} {σ : ss_T} (h : md_R X σ) (w f c : Int32) : fx_MD_digest w f c X = some (ss_dig w f c σ, X) := by
  unfold ss_dig
  by_cases g : w = 0
  · rw [if_pos g, g]; exact md_digx (u := 0) (by decide) h.1.1 f c
  · rw [if_neg g]
    by_cases g1 : w = 1
    · rw [if_pos g1, g1]; exact md_digx (u := 1) (by decide) h.1.2.1 f c
    · rw [if_neg g1]
      unfold fx_MD_digest
      rw [md_sc, xb_, if_neg (show ¬ (w = 0 ∨ w = 1) from fun z => z.elim g g1), if_pos rfl]
theorem md_il {X : xh_T} {σ : ss_T} (h : md_R X σ) (p : Int32) : fx_MD_itemLength p X = some (ss_il p σ, X) := by
  have hs := h.1.2.2.2.2.1
  have h2 := hs.2.1
  unfold fx_MD_itemLength fx_MD_itemLength_b12 ss_il
  by_cases g : p < 0
  · rw [if_pos g, if_pos g]
  · obtain ⟨k, hk, e⟩ := nI_of g
    rw [if_neg g, if_neg g, hs.1, e]
    by_cases g2 : k < σ.2.2.2.1.1
    · rw [if_pos (nI_lt g2 (by omega)), if_neg (nI_ge g2 (by omega)), md_size hs g2, xb_, st_ip_n (by omega) hk]
    · rw [if_neg (nI_nlt (by omega) hk), if_pos (nI_le (by omega) hk)]
theorem md_ib {X : xh_T} {σ : ss_T} (h : md_R X σ) (p j : Int32) : fx_MD_itemByte p j X = some (ss_ib p j σ, X) := by
  have hs := h.1.2.2.2.2.1
  have h2 := hs.2.1
  have o0 : ∀ i : Int32, it_at it_0 i = -1 := fun i => by
    unfold it_at
    by_cases g : i < 0
    · rw [if_pos g]
    · rw [if_neg g, if_pos (show nI it_0.1 ≤ i from Int32.not_lt.mp g)]
  unfold fx_MD_itemByte fx_MD_itemByte_b25 ss_ib
  by_cases g : p < 0
  · have e : st_ip σ.2.2.2.1 p = it_0 := if_pos g
    rw [if_pos g, e, o0]
  · obtain ⟨k, hk, e⟩ := nI_of g
    rw [if_neg g, hs.1, e, st_ip_n (by omega) hk]
    by_cases g2 : k < σ.2.2.2.1.1
    · have h3 := (hs.i g2).2.1
      rw [if_neg (nI_ge g2 (by omega))]
      by_cases g3 : j < 0
      · rw [if_pos g3]
        unfold it_at
        rw [if_pos g3]
      · obtain ⟨i, hi, e3⟩ := nI_of g3
        rw [if_neg g3, md_size hs g2, xb_, e3]
        by_cases g4 : i < (st_i σ.2.2.2.1 k).1
        · rw [if_pos (nI_lt g4 (by omega)), md_at hs g2 g4, xb_, it_at_n g4 (by omega)]
        · rw [if_neg (nI_nlt (by omega) hi), it_at_o (by omega) hi]
    · have e4 : st_i σ.2.2.2.1 k = it_0 := if_neg g2
      rw [if_pos (nI_le (by omega) hk), e4, o0]

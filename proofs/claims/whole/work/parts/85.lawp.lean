/-! The law's loop -/
theorem cl_R.k {X X' : xh_T} {σ : ss_T} (h : cl_R X σ) (hf : fk X X') : cl_R X' σ := ⟨h.1.k (fun k _ h2 _ => hf.2 k h2) hf.1 (by rw [hf.2 138 (by decide)]), by rw [hf.2 0 (by decide)]; exact h.2.1, by rw [hf.2 0 (by decide)]; exact h.2.2.1, by rw [hf.2 0 (by decide)]; exact h.2.2.2⟩
theorem md_R.c {X X' : xh_T} {σ : ss_T} (h : md_R X σ) (hf : fr_c X X') : md_R X' σ := by
  have e := hf.2
  exact ⟨⟨h.1.1.keep (e 207 (by decide)) (e 208 (by decide)), h.1.2.1.keep (e 207 (by decide)) (e 208 (by decide)), h.1.2.2.1, h.1.2.2.2.1, h.1.2.2.2.2.1.keep (by rw [e 206 (by decide)]) (e 209 (by decide)), h.1.2.2.2.2.2.1, h.1.2.2.2.2.2.2.1, h.1.2.2.2.2.2.2.2.1.keep (by rw [e 206 (by decide)]) (e 213 (by decide)) (e 214 (by decide)), by rw [e 206 (by decide)]; exact h.1.2.2.2.2.2.2.2.2⟩, by rw [e 206 (by decide)]; exact h.2.1, by rw [e 206 (by decide)]; exact h.2.2.1, by rw [e 206 (by decide)]; exact h.2.2.2⟩
def lJ (X : xh_T) (σ : ss_T) : Prop := cl_R X σ ∧ md_R X σ
theorem lw_c {L i : Nat} (hL : L ≤ 2048) (hi : i ≤ 4000) : nI L - 4 < nI i ↔ ¬ i + 4 ≤ L := by
  by_cases g : L < 4
  · have k : ∀ L, L < 4 → nI L - 4 < 0 := by decide +kernel
    exact ⟨fun _ => by omega, fun _ => Int32.lt_of_lt_of_le (k L g) (nI_pos' (by omega))⟩
  · rw [show nI L - 4 = nI (L - 4) from pk_sub (b := 4) (by omega), nI_ltI (by omega) (by omega)]
    omega
theorem lw_2 {X : xh_T} {σ : ss_T} {q : Int32 × ss_T} {C : Option (Int32 × xh_T)} {D : xh_T → Option (Int32 × xh_T)} {K : xh_T → Option (Int32 × xh_T)} {P : Int32 → xh_T → Prop} (h : lJ X σ) (hC : pw C (cl_P X q)) (hD : ∀ X1, md_R X1 σ → pw (D X1) (md_P X1 q)) (nx : ∀ Y σ', lJ Y σ' → pw (K Y) P) : pw (xh_b C (fun (r : Int32) (X1 : xh_T) => xh_b (D X1) (fun (r' : Int32) (X2 : xh_T) => if r = r' then K X2 else some (0, X2)))) P := by
  refine pw_b (pw_m hC (fun r X1 k => ?_))
  refine pw_b (pw_m (hD X1 (h.2.c k.2.2)) (fun r' X2 k2 => ?_))
  rw [if_pos (k.1.trans k2.1.symm)]
  exact nx X2 q.2 ⟨k.2.1.k k2.2.2, k2.2.1⟩
theorem lw_1 {X : xh_T} {v : Int32} {C : Option (Int32 × xh_T)} {D : xh_T → Option (Int32 × xh_T)} {K : xh_T → Option (Int32 × xh_T)} {P : Int32 → xh_T → Prop} (hC : C = some (v, X)) (hD : D X = some (v, X)) (nx : pw (K X) P) : pw (xh_b C (fun (r : Int32) (X1 : xh_T) => xh_b (D X1) (fun (r' : Int32) (X2 : xh_T) => if r = r' then K X2 else some (0, X2)))) P := by
  rw [hC, xb_, hD, xb_, if_pos rfl]
  exact nx
theorem lw_all (xs : Nat → Int32) {L : Nat} (hL : L ≤ 2048) : ∀ (m i fuel : Nat) (X : xh_T) (σ : ss_T), L ≤ i + m → i ≤ 3000 → m < fuel → lJ X σ → pw (fx_LW_law_b18 xs L fuel (nI i) X) (fun r _ => r = 1) := by
  intro m
  induction m using Nat.strongRecOn with
  | ind m ih =>
    intro i fuel X σ hm hi hf h
    obtain ⟨fuel, rfl⟩ : ∃ k, fuel = k + 1 := ⟨fuel - 1, by omega⟩
    rw [fx_LW_law_b18]
    by_cases g : i + 4 ≤ L
    · rw [if_neg (fun z => (lw_c hL (by omega)).mp z g)]
      have nx : ∀ Y σ', lJ Y σ' → pw (fx_LW_law_b18 xs L fuel (nI (i + 4)) Y) (fun r _ => r = 1) := fun Y σ' hY => ih (m - 4) (by omega) (i + 4) fuel Y σ' (by omega) (by omega) (by omega) hY
      have x0 : ∀ K : Option (Int32 × xh_T), xh_o (nI i) L K = K := fun K => xo_ (by omega) (by omega)
      have x1 : ∀ K : Option (Int32 × xh_T), xh_o (nI (i + 1)) L K = K := fun K => xo_ (by omega) (by omega)
      have x2 : ∀ K : Option (Int32 × xh_T), xh_o (nI (i + 2)) L K = K := fun K => xo_ (by omega) (by omega)
      have x3 : ∀ K : Option (Int32 × xh_T), xh_o (nI (i + 3)) L K = K := fun K => xo_ (by omega) (by omega)
      have a1 : nI i + 1 = nI (i + 1) := nI_1 i
      have a2 : nI i + 2 = nI (i + 2) := nI_add i 2
      have a3 : nI i + 3 = nI (i + 3) := nI_add i 3
      have a4 : nI i + 4 = nI (i + 4) := nI_add i 4
      rw [a1, a2, a3, a4, x0]
      by_cases c0 : xs (nI i).toNatClampNeg &&& 15 = 0
      · rw [if_pos c0]
        simp only [x1, x2, x3]
        exact lw_2 h (cl_feed h.1 _ _) (fun X1 h1 => md_feed h1 _ _) nx
      rw [if_neg c0]
      by_cases c1 : xs (nI i).toNatClampNeg &&& 15 = 1
      · rw [if_pos c1]
        simp only [x1, x2, x3]
        exact lw_1 (cl_len h.1 _) (md_len h.2 _) (nx X σ h)
      rw [if_neg c1]
      by_cases c2 : xs (nI i).toNatClampNeg &&& 15 = 2
      · rw [if_pos c2]
        simp only [x1, x2, x3]
        exact lw_2 h (cl_clear h.1 _) (fun X1 h1 => md_clear h1 _) nx
      rw [if_neg c2]
      by_cases c3 : xs (nI i).toNatClampNeg &&& 15 = 3
      · rw [if_pos c3]
        simp only [x1, x2, x3]
        exact lw_2 h (cl_conf h.1 _ _) (fun X1 h1 => md_conf h1 _ _) nx
      rw [if_neg c3]
      by_cases c4 : xs (nI i).toNatClampNeg &&& 15 = 4
      · rw [if_pos c4]
        simp only [x1, x2, x3]
        exact lw_1 (cl_dig h.1 _ _ _) (md_dig h.2 _ _ _) (nx X σ h)
      rw [if_neg c4]
      by_cases c5 : xs (nI i).toNatClampNeg &&& 15 = 5
      · rw [if_pos c5]
        exact lw_2 (q := ((ss_spend σ).2.2.2.2.1, ss_spend σ)) h (cl_spend h.1) (fun X1 h1 => md_spend h1) nx
      rw [if_neg c5]
      by_cases c6 : xs (nI i).toNatClampNeg &&& 15 = 6
      · rw [if_pos c6]
        exact lw_1 (cl_res h.1) (show fx_MD_result X = _ from congrArg (fun z => some (z, X)) h.2.2.1) (nx X σ h)
      rw [if_neg c6]
      by_cases c7 : xs (nI i).toNatClampNeg &&& 15 = 7
      · rw [if_pos c7]
        exact lw_1 (cl_end h.1) (show fx_MD_ended X = _ from congrArg (fun z => some (z, X)) h.2.2.2.1) (nx X σ h)
      rw [if_neg c7]
      by_cases c8 : xs (nI i).toNatClampNeg &&& 15 = 8
      · rw [if_pos c8]
        exact lw_1 (cl_at h.1) (show fx_MD_faultAt X = _ from congrArg (fun z => some (z, X)) h.2.2.2.2) (nx X σ h)
      rw [if_neg c8]
      by_cases c9 : xs (nI i).toNatClampNeg &&& 15 = 9
      · rw [if_pos c9]
        exact lw_1 (cl_done h.1) (show fx_MD_done X = _ from congrArg (fun z => some (z, X)) h.2.1.2.2.2.2.2.2.2.2) (nx X σ h)
      rw [if_neg c9]
      by_cases c10 : xs (nI i).toNatClampNeg &&& 15 = 10
      · rw [if_pos c10]
        exact lw_1 (cl_items h.1) (show fx_MD_items X = _ from congrArg (fun z => some (z, X)) h.2.1.2.2.2.2.1.1) (nx X σ h)
      rw [if_neg c10]
      by_cases c11 : xs (nI i).toNatClampNeg &&& 15 = 11
      · rw [if_pos c11]
        simp only [x1, x2, x3]
        exact lw_1 (cl_il h.1 _) (md_il h.2 _) (nx X σ h)
      rw [if_neg c11]
      by_cases c12 : xs (nI i).toNatClampNeg &&& 15 = 12
      · rw [if_pos c12]
        simp only [x1, x2, x3]
        exact lw_1 (cl_ib h.1 _ _) (md_ib h.2 _ _) (nx X σ h)
      rw [if_neg c12]
      exact nx X σ h
    · rw [if_pos ((lw_c hL (by omega)).mpr g)]
      exact pw_some rfl
theorem kc_is {S : Nat} (h : sp_is S = true) (h0 : S ≠ 0) (h2 : S ≠ 206) (h3 : S + 62 ≠ 206) : is_R kc_x S z_s := by
  refine ⟨h, by rw [kc_xa h0 h2]; rfl, by show 0 ≤ 30; omega, ⟨fun i hi => ⟨i, hi, ?_⟩, fun i j hi hj e => ?_⟩, fun i hi => absurd hi (Nat.not_lt_zero i), by rw [kc_xa (by omega) h3]⟩
  · show S + 1 + 1 + 2 * (if i < 30 then i else 29) = S + 2 + 2 * i
    rw [if_pos hi]
  · have e : S + 1 + 1 + 2 * (if i < 30 then i else 29) = S + 1 + 1 + 2 * (if j < 30 then j else 29) := e
    rw [if_pos hi, if_pos hj] at e
    omega
theorem lw_0 : lJ kc_x (it_0, it_0, (0, fun _ => 0, fun _ => 0), z_s, -1, -1, -1, 0) := by
  have z : it_B it_0 := fun i hi => absurd hi (Nat.not_lt_zero i)
  have zb : st_B z_s := fun i hi => absurd hi (Nat.not_lt_zero i)
  refine ⟨⟨⟨⟨sb1, ?_, Nat.zero_le _, fun i hi => absurd hi (Nat.not_lt_zero i)⟩, ⟨sb3, ?_, Nat.zero_le _, fun i hi => absurd hi (Nat.not_lt_zero i)⟩, z, z, ⟨kc_is (by decide +kernel) (by decide) (by decide) (by decide), zb, ⟨?_, Nat.zero_le _, fun i hi => absurd hi (Nat.not_lt_zero i)⟩, ⟨z_s, kc_is (by decide +kernel) (by decide) (by decide) (by decide)⟩, ?_⟩, z_s, kc_is (by decide +kernel) (by decide) (by decide) (by decide)⟩, rfl, rfl, rfl⟩, ⟨⟨?_, Nat.zero_le _, fun i hi => absurd hi (Nat.not_lt_zero i)⟩, ⟨?_, Nat.zero_le _, fun i hi => absurd hi (Nat.not_lt_zero i)⟩, z, z, ⟨rfl, Nat.zero_le _, fun i hi => absurd hi (Nat.not_lt_zero i)⟩, Nat.zero_le _, zb, ⟨rfl, Nat.zero_le _, fun i hi => absurd hi (Nat.not_lt_zero i)⟩, rfl⟩, rfl, rfl, rfl⟩
  · rw [kc_xa (by decide) (by decide)]; rfl
  · rw [kc_xa (by decide) (by decide)]; rfl
  · rw [kc_xa (by decide) (by decide)]; rfl
  · rw [kc_xa (by decide) (by decide)]; rfl
  · rw [kc_xa (by decide) (by decide)]; rfl
  · rw [kc_xa (by decide) (by decide)]; rfl
theorem pz_law (xs : Nat → Int32) (L : Nat) (hL : L ≤ 2048) : ∃ X', fx_LW_law_b18 xs L sp_fuel 0 kc_x = some (1, X') := by
  have h4 := fu_
  obtain ⟨r, X', e, h⟩ := lw_all xs hL L 0 sp_fuel kc_x _ (by omega) (by omega) (by omega) lw_0
  exact ⟨X', by rw [h] at e; exact e⟩

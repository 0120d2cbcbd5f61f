/-! ByteString: what its pure programs write -/
theorem fr_q.rf {q : Nat} {X : xh_T} : fr_q q X X := ⟨rfl, fun _ _ _ => rfl⟩
theorem fr_q.tr {q : Nat} {X X' X'' : xh_T} (h : fr_q q X X') (h' : fr_q q X' X'') : fr_q q X X'' := ⟨h'.1.trans h.1, fun k h1 h2 => (h'.2 k h1 h2).trans (h.2 k h1 h2)⟩
theorem fr_q.i {q j : Nat} {X : xh_T} {v : Int32} : fr_q q X (xh_i X q j v) := ⟨rfl, fun k h1 _ => hi_k X j v h1⟩
theorem fr_q.i1 {q j : Nat} {X : xh_T} {v : Int32} : fr_q q X (xh_i X (q + 1) j v) := ⟨rfl, fun k _ h2 => hi_k X j v h2⟩
theorem fr_q.a1 {q : Nat} {X : xh_T} {f : Nat → Int32} : fr_q q X (xh_a X (q + 1) f) := ⟨rfl, fun k _ h2 => ha_k X f h2⟩
theorem bs_R.off {X X' : xh_T} {q o : Nat} {a : it_T} (h : bs_R X o a) (hf : fr_q q X X') (hq : sp_bs q = true) (hne : o ≠ q) : bs_R X' o a := h.keep (hf.2 o hne (bs_ne h.1 hq)) (hf.2 (o + 1) (fun e => bs_ne hq h.1 e.symm) (by omega))
theorem bs_empty {X : xh_T} {q : Nat} (h : sp_bs q = true) : fx_BS_makeEmpty q X = some ((), xh_i X q 1 0) := by
  unfold fx_BS_makeEmpty
  rw [xk_ h, xn_]
theorem bs_R.zero {X : xh_T} {q : Nat} (h : sp_bs q = true) (f : Nat → Int32) : bs_R (xh_i X q 1 0) q (0, f) := ⟨h, hi_s X q 1 0, Nat.zero_le _, fun i hi => absurd hi (Nat.not_lt_zero i)⟩
theorem bs_append {X : xh_T} {q : Nat} {a : it_T} (h : bs_R X q a) (hn : a.1 < sp_len (q + 1)) (b : Int32) : pw (fx_BS_append q b X) (fun r X' => r = 1 ∧ bs_R X' q (a.1 + 1, va_up a.2 a.1 (b &&& 255)) ∧ fr_q q X X') := by
  have hlt := sp_len_lt (q + 1)
  unfold fx_BS_append
  rw [xk_ h.1, h.2.1, if_pos (nI_lt hn hlt), xo_ hn hlt, xn_, xn_, nI_clamp h.lt, hi_k _ _ _ (by omega : q ≠ q + 1), h.2.1, nI_1]
  refine pw_some ⟨rfl, ⟨h.1, hi_s _ _ _ _, hn, fun i hi => ?_⟩, fr_q.i1.tr fr_q.i⟩
  rw [hi_k _ _ _ (by omega : q + 1 ≠ q)]
  show (xh_i X (q + 1) a.1 (b &&& 255)).1 (q + 1) i = va_up a.2 a.1 (b &&& 255) i
  by_cases e : i = a.1
  · rw [e, hi_s, va_up_self]
  · rw [hi_j _ _ _ e, va_up_ne _ _ e]
    exact h.2.2.2 i (by have : i < a.1 + 1 := hi; omega)
theorem bs_append0 {X : xh_T} {q : Nat} {a : it_T} (h : bs_R X q a) (hn : a.1 = sp_len (q + 1)) (b : Int32) : fx_BS_append q b X = some (0, X) := by
  unfold fx_BS_append
  rw [xk_ h.1, h.2.1, if_neg (nI_nlt (by omega) h.lt)]
def it_p (a : it_T) (p1 p2 : Int32) : Int32 := if p1 < 0 then 0 else if p2 < 0 then 0 else if nI a.1 < p2 then 0 else if nI a.1 - p2 < p1 then 0 else 1
theorem bs_hasPart {X : xh_T} {q : Nat} {a : it_T} (h : bs_R X q a) (p1 p2 : Int32) : fx_BS_hasPart q p1 p2 X = some (it_p a p1 p2, X) := by
  unfold fx_BS_hasPart it_p
  rw [xk_ h.1, h.2.1]
  repeat' split
  all_goals rfl
theorem it_p_n {a : it_T} (ha : a.1 < 2 ^ 31) {f c : Nat} (hf : f < 2 ^ 31) (hc : c < 2 ^ 31) : it_p a (nI f) (nI c) = if f + c ≤ a.1 then 1 else 0 := by
  unfold it_p
  rw [if_neg (nI_pos hf), if_neg (nI_pos hc)]
  by_cases h1 : a.1 < c
  · rw [if_pos (nI_lt h1 hc), if_neg (by omega)]
  · rw [if_neg (nI_nlt (by omega) ha), pk_sub (by omega)]
    by_cases h2 : a.1 - c < f
    · rw [if_pos (nI_lt h2 hf), if_neg (by omega)]
    · rw [if_neg (nI_nlt (by omega) (by omega)), if_pos (by omega)]
theorem xcp_ {β : Type} {s d n n0 n1 : Nat} {K : Option β} (hs : s + n ≤ n0) (hd : d + n ≤ n1) (h0 : n0 < 2 ^ 31) (h1 : n1 < 2 ^ 31) : xh_cp (nI s) (nI d) (nI n) n0 n1 K = K := by
  unfold xh_cp
  rw [nI_clamp (by omega), nI_clamp (by omega), nI_clamp (by omega), if_neg]
  rintro (h | h | h | h | h)
  · exact nI_pos (by omega) h
  · exact nI_pos (by omega) h
  · exact nI_pos (by omega) h
  · omega
  · omega
theorem bs_copy {X : xh_T} {q o : Nat} {b : it_T} (hq : sp_bs q = true) (h : bs_R X o b) (hne : q ≠ o) (hc : b.1 ≤ sp_len (q + 1)) : pw (fx_BS_becomeCopyOf q o X) (fun _ X' => bs_R X' q b ∧ fr_q q X X') := by
  have hlt := sp_len_lt (q + 1)
  have hqo := bs_ne hq h.1
  have hoq := bs_ne h.1 hq
  unfold fx_BS_becomeCopyOf
  rw [xk_ hq, xk_ h.1, xn_, h.2.1, if_neg (nI_nlt hc hlt), hi_s, n0, xcp_ (by have := h.2.2.1; omega) (by omega) (sp_len_lt _) hlt, xn_, nI_clamp (by decide), nI_clamp h.lt]
  refine pw_some ⟨⟨hq, ?_, hc, fun i hi => ?_⟩, fr_q.i.tr fr_q.a1⟩
  · rw [ha_k _ _ (by omega : q ≠ q + 1), hi_s]
  · rw [ha_s, pk_cpy_in (by omega) (by omega), hi_k _ _ _ (fun e => hqo e.symm), show 0 + (i - 0) = i by omega]
    exact h.2.2.2 i hi
theorem bs_part {X : xh_T} {q o : Nat} {b : it_T} (hq : sp_bs q = true) (h : bs_R X o b) (hne : q ≠ o) {f c : Nat} (hfc : f + c ≤ b.1) (hc : c ≤ sp_len (q + 1)) : pw (fx_BS_becomePartOf q o (nI f) (nI c) X) (fun _ X' => bs_R X' q (c, fun i => b.2 (f + i)) ∧ fr_q q X X') := by
  have hlt := sp_len_lt (q + 1)
  have hqo := bs_ne hq h.1
  have hoq := bs_ne h.1 hq
  have hbl := h.lt
  have h1 : bs_R (xh_i X q 1 0) o b := h.off fr_q.i hq (fun e => hne e.symm)
  unfold fx_BS_becomePartOf
  rw [xk_ hq, xk_ h.1, xn_, bs_hasPart h1, it_p_n h.lt (by omega) (by omega), if_pos hfc, xb_, if_neg (by decide), if_neg (nI_nlt hc hlt), n0, xcp_ (by have := h.2.2.1; omega) (by omega) (sp_len_lt _) hlt, xn_, xn_, nI_clamp (n := f) (by omega), nI_clamp (n := 0) (by decide), nI_clamp (n := c) (by omega)]
  refine pw_some ⟨⟨hq, hi_s _ _ _ _, hc, fun i hi => ?_⟩, (fr_q.i.tr fr_q.a1).tr fr_q.i⟩
  have hi : i < c := hi
  rw [hi_k _ _ _ (by omega : q + 1 ≠ q), ha_s, pk_cpy_in (by omega) (by omega), show i - 0 = i by omega]
  exact h1.2.2.2 (f + i) (by omega)
def it_d (h : Int32) : it_T := (4, fun i => xh_ush h (nI (8 * i)) &&& 255)
theorem bs_digest_b {q : Nat} (hcap : 4 ≤ sp_len (q + 1)) (h : Int32) : ∀ (m k fuel : Nat) (X : xh_T) (f : Nat → Int32), k + m = 4 → m < fuel → bs_R X q (k, f) → (∀ i, i < k → f i = (it_d h).2 i) → pw (fx_BS_becomeDigest_b7 q fuel h (nI (8 * k)) X) (fun _ X' => bs_R X' q (it_d h) ∧ fr_q q X X') := by
  intro m
  induction m with
  | zero =>
    intro k fuel X f hk hf hR hfi
    obtain ⟨fuel, rfl⟩ : ∃ k, fuel = k + 1 := ⟨fuel - 1, by omega⟩
    obtain rfl : k = 4 := by omega
    rw [fx_BS_becomeDigest_b7, if_pos (by decide)]
    exact pw_some ⟨hR.to ⟨rfl, hfi⟩, fr_q.rf⟩
  | succ m ih =>
    intro k fuel X f hk hf hR hfi
    obtain ⟨fuel, rfl⟩ : ∃ k, fuel = k + 1 := ⟨fuel - 1, by omega⟩
    rw [fx_BS_becomeDigest_b7, n32, if_neg (nI_ge (a := 8 * k) (b := 32) (by omega) (by decide))]
    refine pw_b (pw_m (bs_append hR (by show k < _; omega) _) (fun r X1 h1 => ?_))
    rw [xn_, n8, nI_add]
    obtain ⟨-, h1, h2⟩ := h1
    refine pw_m (ih (k + 1) fuel X1 _ (by omega) (by omega) h1 (fun i hi => ?_)) (fun _ X2 h3 => ⟨h3.1, h2.tr h3.2⟩)
    by_cases e : i = k
    · rw [e, va_up_self]; rfl
    · rw [va_up_ne _ _ e]; exact hfi i (by omega)
theorem bs_digest {X : xh_T} {q : Nat} (hq : sp_bs q = true) (hcap : 4 ≤ sp_len (q + 1)) (h : Int32) : pw (fx_BS_becomeDigest q h X) (fun _ X' => bs_R X' q (it_d h) ∧ fr_q q X X') := by
  have h4 := fu_
  unfold fx_BS_becomeDigest
  rw [xk_ hq, xn_, xn_]
  refine pw_m (bs_digest_b hcap h 4 0 sp_fuel _ (fun _ => 0) (by omega) (by omega) (bs_R.zero hq _) (fun i hi => absurd hi (by omega))) (fun _ X2 h3 => ⟨h3.1, fr_q.i.tr h3.2⟩)
/-- a number's bytes: the digits of its size, and the sign -/
def en_l : Nat → Int64 → it_T → Int32 → it_T × Int32
  | 0, _, a, l => (a, l)
  | k + 1, w, a, l => if lg_cmp w 0 ≤ 0 then (a, l) else en_l k (w >>> ((8 : Int32).toInt64 &&& 63)) (a.1 + 1, va_up a.2 a.1 ((w &&& 255).toInt32)) ((w &&& 255).toInt32)
def en_e (q : it_T × Int32) (g : Int32) : it_T := if q.2 < 128 then (if q.1.1 = 0 then q.1 else (q.1.1, va_up q.1.2 (q.1.1 - 1) (q.2 ||| g))) else (q.1.1 + 1, va_up q.1.2 q.1.1 (g &&& 255))
def en_g (v : Int64) : Int32 := if 0 ≤ lg_cmp v 0 then 0 else 128
def en_q (v : Int64) : it_T × Int32 := en_l 5 (if 0 < v then v else -v) (0, fun _ => 0) 0
def it_e (v : Int64) : it_T := en_e (en_q v) (en_g v)
theorem en_b (w : Int64) : ∃ b : Nat, b < 256 ∧ (w &&& 255).toInt32 = nI b := by
  refine ⟨w.toBitVec.toNat % 256, Nat.mod_lt _ (by decide), ?_⟩
  apply Int32.toBitVec_inj.mp
  rw [Int64.toBitVec_toInt32, Int64.toBitVec_and, BitVec.signExtend_eq_setWidth_of_le _ (by decide)]
  show BitVec.setWidth 32 (w.toBitVec &&& 255#64) = BitVec.ofNat 32 (w.toBitVec.toNat % 256)
  apply BitVec.eq_of_toNat_eq
  rw [BitVec.toNat_setWidth, BitVec.toNat_and, BitVec.toNat_ofNat, show 255 % 2 ^ 64 = 2 ^ 8 - 1 from rfl, Nat.and_two_pow_sub_one_eq_mod, BitVec.toNat_ofNat]
theorem en_255 : ∀ b, b < 256 → nI b &&& 255 = nI b := by decide +kernel
theorem en_l_le : ∀ (k : Nat) (w : Int64) (a : it_T) (l : Int32), a.1 ≤ (en_l k w a l).1.1 ∧ (en_l k w a l).1.1 ≤ a.1 + k
  | 0, _, a, l => ⟨Nat.le_refl _, Nat.le_refl _⟩
  | k + 1, w, a, l => by
    unfold en_l
    by_cases h : lg_cmp w 0 ≤ 0
    · rw [if_pos h]; exact ⟨Nat.le_refl _, Nat.le_add_right _ _⟩
    · rw [if_neg h]
      have := en_l_le k (w >>> ((8 : Int32).toInt64 &&& 63)) (a.1 + 1, va_up a.2 a.1 ((w &&& 255).toInt32)) ((w &&& 255).toInt32)
      exact ⟨by have h1 : a.1 + 1 ≤ _ := this.1; omega, by have h1 : _ ≤ a.1 + 1 + k := this.2; omega⟩
theorem en_q_le (v : Int64) : (en_q v).1.1 ≤ 5 := by
  have := (en_l_le 5 (if 0 < v then v else -v) (0, fun _ => 0) 0).2
  exact this
theorem it_e_le (v : Int64) : (it_e v).1 ≤ 6 := by
  have h := en_q_le v
  unfold it_e en_e
  split
  · split
    · omega
    · show (en_q v).1.1 ≤ 6; omega
  · show (en_q v).1.1 + 1 ≤ 6; omega
theorem bs_num_c {X : xh_T} {q : Nat} {a : it_T} {l : Int32} (hcap : 32 ≤ sp_len (q + 1)) (h : bs_R X q a) (ha : a.1 ≤ 5) (v : Int64) : pw (fx_BS_becomeNumber_b54 q v l X) (fun _ X' => bs_R X' q (en_e (a, l) (en_g v)) ∧ fr_q q X X') := by
  have key : ∀ g : Int32, pw (fx_BS_becomeNumber_b67 q l g X) (fun _ X' => bs_R X' q (en_e (a, l) g) ∧ fr_q q X X') := fun g => by
    unfold fx_BS_becomeNumber_b67 en_e
    rw [xn_, h.2.1]
    by_cases h1 : l < 128
    · rw [if_pos h1, if_pos h1]
      by_cases h2 : a.1 = 0
      · rw [if_pos (show nI a.1 ≤ 0 by rw [h2]; decide), if_pos h2]
        exact pw_some ⟨h, fr_q.rf⟩
      · rw [if_neg (nI_nle (by omega) (by omega)), if_neg h2, n1, pk_sub (by omega), xo_ (by omega) (sp_len_lt _), xn_, nI_clamp (by omega)]
        refine pw_some ⟨⟨h.1, ?_, h.2.2.1, fun i hi => ?_⟩, fr_q.i1⟩
        · rw [hi_k _ _ _ (by omega : q ≠ q + 1)]; exact h.2.1
        · by_cases e : i = a.1 - 1
          · rw [e, hi_s]; exact (va_up_self _ _ _).symm
          · rw [hi_j _ _ _ e]
            exact (h.2.2.2 i hi).trans (va_up_ne _ _ e).symm
    · rw [if_neg h1, if_neg h1]
      exact pw_b (pw_m (bs_append h (by omega) g) (fun r X1 h3 => pw_some ⟨h3.2.1, h3.2.2⟩))
  unfold fx_BS_becomeNumber_b54 en_g
  by_cases h1 : 0 ≤ lg_cmp v 0
  · rw [if_pos h1, if_pos h1]; exact key 0
  · rw [if_neg h1, if_neg h1]; exact key 128
theorem bs_num_b {q : Nat} (hcap : 32 ≤ sp_len (q + 1)) (v : Int64) : ∀ (m k fuel : Nat) (w : Int64) (l : Int32) (X : xh_T) (a : it_T), k + m = 5 → m < fuel → bs_R X q a → a.1 ≤ k → pw (fx_BS_becomeNumber_b16 q fuel v w l (nI k) X) (fun _ X' => bs_R X' q (en_e (en_l m w a l) (en_g v)) ∧ fr_q q X X') := by
  intro m
  induction m with
  | zero =>
    intro k fuel w l X a hk hf hR ha
    obtain ⟨fuel, rfl⟩ : ∃ k, fuel = k + 1 := ⟨fuel - 1, by omega⟩
    obtain rfl : k = 5 := by omega
    rw [fx_BS_becomeNumber_b16, if_pos (by decide)]
    exact bs_num_c hcap hR (by omega) v
  | succ m ih =>
    intro k fuel w l X a hk hf hR ha
    obtain ⟨fuel, rfl⟩ : ∃ k, fuel = k + 1 := ⟨fuel - 1, by omega⟩
    rw [fx_BS_becomeNumber_b16, n5, if_neg (nI_ge (by omega) (by decide))]
    unfold en_l
    by_cases h1 : lg_cmp w 0 ≤ 0
    · rw [if_pos h1, if_pos h1]
      exact bs_num_c hcap hR (by omega) v
    · rw [if_neg h1, if_neg h1, xn_]
      refine pw_b (pw_m (bs_append hR (by omega) _) (fun r X1 h2 => ?_))
      rw [xn_, xn_, nI_1]
      obtain ⟨-, h2, h3⟩ := h2
      obtain ⟨b, hb, eb⟩ := en_b w
      rw [eb, en_255 b hb, ← eb] at h2
      exact pw_m (ih (k + 1) fuel _ _ X1 _ (by omega) (by omega) h2 (by show a.1 + 1 ≤ k + 1; omega)) (fun _ X2 h4 => ⟨h4.1, h3.tr h4.2⟩)
theorem bs_num {X : xh_T} {q : Nat} (hq : sp_bs q = true) (hcap : 32 ≤ sp_len (q + 1)) (v : Int64) : pw (fx_BS_becomeNumber q v X) (fun _ X' => bs_R X' q (it_e v) ∧ fr_q q X X') := by
  have h4 := fu_
  unfold fx_BS_becomeNumber
  rw [xk_ hq, xn_, xn_, xn_, xn_]
  exact pw_m (bs_num_b hcap v 5 0 sp_fuel _ 0 _ (0, fun _ => 0) (by omega) (by omega) (bs_R.zero hq _) (Nat.le_refl _)) (fun _ X2 h3 => ⟨h3.1, fr_q.i.tr h3.2⟩)

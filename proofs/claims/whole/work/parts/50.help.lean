/-! The pure part: how the pure programs are run. -/
def pw {α : Type} (k : Option (α × xh_T)) (P : α → xh_T → Prop) : Prop := ∃ r X, k = some (r, X) ∧ P r X
theorem pw_some {α : Type} {r : α} {X : xh_T} {P : α → xh_T → Prop} (h : P r X) : pw (some (r, X)) P := ⟨r, X, rfl, h⟩
theorem pw_n {α β : Type} {x : β} {K : β → Option (α × xh_T)} {P : α → xh_T → Prop} (h : pw (K x) P) : pw (xh_n x K) P := h
theorem pw_b {α β : Type} {o : Option (β × xh_T)} {K : β → xh_T → Option (α × xh_T)} {P : α → xh_T → Prop} (h : pw o (fun r X => pw (K r X) P)) : pw (xh_b o K) P := by
  obtain ⟨r, X, rfl, h⟩ := h
  exact h
theorem pw_m {α : Type} {k : Option (α × xh_T)} {P Q : α → xh_T → Prop} (h : pw k P) (hq : ∀ r X, P r X → Q r X) : pw k Q := by
  obtain ⟨r, X, e, h⟩ := h
  exact ⟨r, X, e, hq r X h⟩
theorem pw_e {α : Type} {k : Option (α × xh_T)} {r : α} {X : xh_T} {P : α → xh_T → Prop} (e : k = some (r, X)) (h : P r X) : pw k P := ⟨r, X, e, h⟩
theorem pw_if {α : Type} {c : Prop} {hc : Decidable c} {a b : Option (α × xh_T)} {P : α → xh_T → Prop} (h1 : c → pw a P) (h2 : ¬ c → pw b P) : pw (if c then a else b) P := by
  by_cases h : c
  · rw [if_pos h]; exact h1 h
  · rw [if_neg h]; exact h2 h
theorem xn_ {α β : Type} (x : α) (K : α → β) : xh_n x K = K x := rfl
theorem xb_ {α β : Type} (r : α) (X : xh_T) (K : α → xh_T → Option β) : xh_b (some (r, X)) K = K r X := rfl
theorem xk_ {β : Type} {b : Bool} {K : Option β} (h : b = true) : xh_k b K = K := if_pos h
theorem xo_ {β : Type} {i N : Nat} {K : Option β} (h : i < N) (hN : N < 2 ^ 31) : xh_o (nI i) N K = K := if_neg (nI_in h hN)
theorem xz_ {β : Type} {v : Int32} {K : Option β} (h : v = 0 ∨ v = 1) : xh_z v K = K := if_pos h
-- numerals
theorem n0 : (0 : Int32) = nI 0 := rfl
theorem n1 : (1 : Int32) = nI 1 := rfl
theorem n2 : (2 : Int32) = nI 2 := rfl
theorem n3 : (3 : Int32) = nI 3 := rfl
theorem n4 : (4 : Int32) = nI 4 := rfl
theorem n5 : (5 : Int32) = nI 5 := rfl
theorem n6 : (6 : Int32) = nI 6 := rfl
theorem n7 : (7 : Int32) = nI 7 := rfl
theorem n8 : (8 : Int32) = nI 8 := rfl
theorem n25 : (25 : Int32) = nI 25 := rfl
theorem n30 : (30 : Int32) = nI 30 := rfl
theorem n32 : (32 : Int32) = nI 32 := rfl
theorem n33 : (33 : Int32) = nI 33 := rfl
theorem n120 : (120 : Int32) = nI 120 := rfl
theorem n240 : (240 : Int32) = nI 240 := rfl
-- the heap's updates
theorem hi_s (X : xh_T) (k j : Nat) (v : Int32) : (xh_i X k j v).1 k j = v := by
  show va_up X.1 k (upd (X.1 k) j v) k j = v
  rw [va_up_self, pk_us]
theorem hi_j (X : xh_T) (k : Nat) {j i : Nat} (v : Int32) (h : i ≠ j) : (xh_i X k j v).1 k i = X.1 k i := by
  show va_up X.1 k (upd (X.1 k) j v) k i = _
  rw [va_up_self, pk_un h]
theorem hi_k (X : xh_T) {k a : Nat} (j : Nat) (v : Int32) (h : a ≠ k) : (xh_i X k j v).1 a = X.1 a := va_up_ne _ _ h
theorem hi_2 (X : xh_T) (k j : Nat) (v : Int32) : (xh_i X k j v).2 = X.2 := rfl
theorem ha_s (X : xh_T) (k : Nat) (f : Nat → Int32) : (xh_a X k f).1 k = f := va_up_self _ _ _
theorem ha_k (X : xh_T) {k a : Nat} (f : Nat → Int32) (h : a ≠ k) : (xh_a X k f).1 a = X.1 a := va_up_ne _ _ h
theorem ha_2 (X : xh_T) (k : Nat) (f : Nat → Int32) : (xh_a X k f).2 = X.2 := rfl
theorem hr_1 (X : xh_T) (k j t : Nat) : (xh_r X k j t).1 = X.1 := rfl
theorem hr_l (X : xh_T) (k j t : Nat) : (xh_r X k j t).2.2 = X.2.2 := rfl
theorem hr_s (X : xh_T) (k j t : Nat) : (xh_r X k j t).2.1 k j = t := by
  show va_up X.2.1 k (va_up (X.2.1 k) j t) k j = t
  rw [va_up_self, va_up_self]
theorem hr_j (X : xh_T) (k : Nat) {j i : Nat} (t : Nat) (h : i ≠ j) : (xh_r X k j t).2.1 k i = X.2.1 k i := by
  show va_up X.2.1 k (va_up (X.2.1 k) j t) k i = _
  rw [va_up_self, va_up_ne _ _ h]
theorem hr_k (X : xh_T) {k a : Nat} (j t : Nat) (h : a ≠ k) : (xh_r X k j t).2.1 a = X.2.1 a := va_up_ne _ _ h
theorem hl_1 (X : xh_T) (k j : Nat) (v : Int64) : (xh_l X k j v).1 = X.1 := rfl
theorem hl_r (X : xh_T) (k j : Nat) (v : Int64) : (xh_l X k j v).2.1 = X.2.1 := rfl
theorem hl_s (X : xh_T) (k j : Nat) (v : Int64) : (xh_l X k j v).2.2 k j = v := by
  show va_up X.2.2 k (vp_updL (X.2.2 k) j v) k j = v
  rw [va_up_self, pk_uLs]
theorem hl_j (X : xh_T) (k : Nat) {j i : Nat} (v : Int64) (h : i ≠ j) : (xh_l X k j v).2.2 k i = X.2.2 k i := by
  show va_up X.2.2 k (vp_updL (X.2.2 k) j v) k i = _
  rw [va_up_self, pk_uLn h]
theorem hl_k (X : xh_T) {k a : Nat} (j : Nat) (v : Int64) (h : a ≠ k) : (xh_l X k j v).2.2 a = X.2.2 a := va_up_ne _ _ h
/-! Items: a length and a row of bytes -/
abbrev it_T : Type := Nat × (Nat → Int32)
def it_eq (a b : it_T) : Prop := a.1 = b.1 ∧ ∀ i, i < a.1 → a.2 i = b.2 i
def it_B (a : it_T) : Prop := ∀ i, i < a.1 → ∃ b : Nat, b < 256 ∧ a.2 i = nI b
/-- the digest of n bytes from a place on -/
def it_h (f : Nat → Int32) (a : Nat) : Nat → Int32
  | 0 => 17
  | n + 1 => it_h f a n * 31 + f (a + n)
theorem it_h_eq {f f' : Nat → Int32} {a : Nat} : ∀ {n : Nat}, (∀ i, a ≤ i → i < a + n → f i = f' i) → it_h f a n = it_h f' a n
  | 0, _ => rfl
  | n + 1, h => by
    show it_h f a n * 31 + f (a + n) = it_h f' a n * 31 + f' (a + n)
    rw [it_h_eq (fun i h1 h2 => h i h1 (by omega)), h (a + n) (by omega) (by omega)]
/-- no byte counts: each is 0, or the last is 128 -/
def it_F (a : it_T) : Bool := (List.range a.1).all (fun i => decide (a.2 i = 0 ∨ (i + 1 = a.1 ∧ a.2 i = 128)))
theorem it_F_iff {a : it_T} : it_F a = true ↔ ∀ i, i < a.1 → (a.2 i = 0 ∨ (i + 1 = a.1 ∧ a.2 i = 128)) := by
  unfold it_F
  rw [List.all_eq_true]
  exact ⟨fun h i hi => of_decide_eq_true (h i (List.mem_range.mpr hi)), fun h i hi => decide_eq_true (h i (List.mem_range.mp hi))⟩
def it_t (a : it_T) : Int32 := if it_F a = true then 0 else 1
def it_s (a b : it_T) : Bool := decide (a.1 = b.1) && (List.range a.1).all (fun i => decide (a.2 i = b.2 i))
theorem it_s_iff {a b : it_T} : it_s a b = true ↔ it_eq a b := by
  unfold it_s it_eq
  rw [Bool.and_eq_true, List.all_eq_true, decide_eq_true_iff]
  exact ⟨fun h => ⟨h.1, fun i hi => of_decide_eq_true (h.2 i (List.mem_range.mpr hi))⟩, fun h => ⟨h.1, fun i hi => decide_eq_true (h.2 i (List.mem_range.mp hi))⟩⟩
/-- the number's lower bytes, from the k-th downward, behind v -/
def it_v (f : Nat → Int32) : Nat → Int64 → Int64
  | 0, v => v
  | k + 1, v => it_v f k (v * 256 + (f k).toInt64)
theorem it_v_eq {f f' : Nat → Int32} : ∀ {k : Nat} {v : Int64}, (∀ i, i < k → f i = f' i) → it_v f k v = it_v f' k v
  | 0, _, _ => rfl
  | k + 1, v, h => by
    show it_v f k (v * 256 + (f k).toInt64) = it_v f' k (v * 256 + (f' k).toInt64)
    rw [h k (by omega), it_v_eq (fun i hi => h i (by omega))]
def it_n (a : it_T) : Int64 := if a.1 = 0 then 0 else if a.2 (a.1 - 1) < 128 then it_v a.2 (a.1 - 1) ((a.2 (a.1 - 1) &&& 127).toInt64) else -(it_v a.2 (a.1 - 1) ((a.2 (a.1 - 1) &&& 127).toInt64))
/-- a signature's form -/
def it_w (a : it_T) : Bool := decide (6 ≤ a.1 ∧ a.1 ≤ 32 ∧ a.2 0 = 48 ∧ a.2 1 = nI (a.1 - 3) ∧ a.2 2 = 2 ∧ a.2 3 = nI (a.1 - 5) ∧ ((a.2 4 = 0 ∧ 7 ≤ a.1 ∧ ¬ a.2 5 < 128) ∨ (¬ a.2 4 = 0 ∧ ¬ 127 < a.2 4)))
/-- the fuel is plenty -/
theorem fu_ : 4000 < sp_fuel := by decide

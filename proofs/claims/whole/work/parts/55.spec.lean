/-! What an operation does, said of counts and items -/
theorem lc_eq {x y : Int64} : lg_cmp x y = 0 ↔ x = y := by
  unfold lg_cmp
  by_cases h1 : y < x
  · rw [if_pos h1]
    exact ⟨fun h => absurd h (by decide), fun h => absurd (h ▸ h1) (Int64.lt_irrefl)⟩
  · rw [if_neg h1]
    by_cases h2 : x = y
    · rw [if_pos h2]; exact ⟨fun _ => h2, fun _ => rfl⟩
    · rw [if_neg h2]; exact ⟨fun h => absurd h (by decide), fun h => absurd h h2⟩
theorem lc_ge {x y : Int64} : 0 ≤ lg_cmp x y ↔ ¬ x < y := by
  unfold lg_cmp
  by_cases h1 : y < x
  · rw [if_pos h1]
    exact ⟨fun _ h => Int64.lt_irrefl (Int64.lt_trans h1 h), fun _ => by decide⟩
  · rw [if_neg h1]
    by_cases h2 : x = y
    · rw [if_pos h2]; exact ⟨fun _ h => Int64.lt_irrefl (h2 ▸ h), fun _ => by decide⟩
    · rw [if_neg h2]
      refine ⟨fun h => absurd h (by decide), fun h => absurd ?_ h⟩
      rcases Int64.lt_or_eq_of_le (Int64.not_lt.mp h1) with h3 | h3
      · exact h3
      · exact absurd h3 h2
theorem lc_lt {x y : Int64} : lg_cmp x y < 0 ↔ x < y := by
  constructor
  · intro h
    exact Classical.not_not.mp (fun k => Int32.not_lt.mpr (lc_ge.mpr k) h)
  · intro h
    exact Int32.not_le.mp (fun k => lc_ge.mp k h)
theorem lc_gt {x y : Int64} : 0 < lg_cmp x y ↔ y < x := by
  unfold lg_cmp
  by_cases h1 : y < x
  · rw [if_pos h1]; exact ⟨fun _ => h1, fun _ => by decide⟩
  · rw [if_neg h1]
    by_cases h2 : x = y
    · rw [if_pos h2]; exact ⟨fun h => absurd h (by decide), fun h => absurd h h1⟩
    · rw [if_neg h2]; exact ⟨fun h => absurd h (by decide), fun h => absurd h h1⟩
theorem lc_le {x y : Int64} : lg_cmp x y ≤ 0 ↔ ¬ y < x := by
  constructor
  · intro h k
    exact Int32.not_lt.mpr h (lc_gt.mpr k)
  · intro h
    exact Int32.not_lt.mp (fun k => h (lc_gt.mp k))
/-- the fault of an item that must be a number -/
def nf (a : st_T) (k : Nat) : Int32 := if k < a.1 then (if 4 < (st_i a k).1 then 12 else 0) else 11
def num (a : st_T) (k : Nat) : Int64 := if 4 < (st_i a k).1 then 0 else it_n (st_i a k)
/-- the first of such faults -/
def cf (a : st_T) : Nat → Nat → Int32
  | 0, _ => 0
  | m + 1, k => if nf a k = 0 then cf a m (k + 1) else nf a k
def b_l (b : Bool) : Int64 := if b = true then 1 else 0
/-- what is calculated: x is the top, y below it, z below that -/
def cv (c : Int32) (x y z : Int64) : Int64 :=
  if c = 139 then x + 1 else if c = 140 then x - 1 else if c = 143 then -x else if c = 144 then (if x < 0 then -x else x)
  else if c = 145 then b_l (decide (x = 0)) else if c = 146 then b_l (decide (¬ x = 0)) else if c = 147 then y + x else if c = 148 then y - x
  else if c = 154 then b_l (decide (¬ y = 0 ∧ ¬ x = 0)) else if c = 155 then b_l (decide (¬ y = 0 ∨ ¬ x = 0)) else if c = 156 then b_l (decide (y = x))
  else if c = 158 then b_l (decide (¬ y = x)) else if c = 159 then b_l (decide (y < x)) else if c = 160 then b_l (decide (x < y))
  else if c = 161 then b_l (decide (¬ x < y)) else if c = 162 then b_l (decide (¬ y < x)) else if c = 163 then (if y < x then y else x)
  else if c = 164 then (if y < x then x else y) else b_l (decide (¬ z < y ∧ z < x))
abbrev op_T : Type := Int32 × st_T × st_T
def op_calc (c : Int32) (n : Nat) (a s : st_T) : op_T :=
  if cf a n 0 = 0 then (if c = 157 then (if num a 0 = num a 1 then (0, st_pop a 2, s) else (9, a, s)) else (0, st_push (st_pop a n) (it_e (cv c (num a 0) (num a 1) (num a 2))), s)) else (cf a n 0, a, s)
/-- a count's fault: no number, or below 0, or beyond the most -/
def nk (a : st_T) (k : Nat) (m : Int64) : Int32 := if nf a k = 0 then (if num a k < 0 ∨ m < num a k then 13 else 0) else nf a k
/-- the number as a natural one -/
def nn (a : st_T) (k : Nat) : Nat := (num a k).toInt.toNat
def op_pick (roll : Bool) (a s : st_T) : op_T :=
  if nf a 0 = 0 then (if num a 0 < 0 then (13, a, s) else if a.1 ≤ nn a 0 + 1 then (11, a, s) else (0, if roll = true then st_raise (st_pop a 1) (nn a 0) else st_push (st_pop a 1) (st_i (st_pop a 1) (nn a 0)), s)) else (nf a 0, a, s)
/-- signatures held against keys, from the highest down: how many are signed -/
def ag (ok : Nat → Nat → Bool) (m : Nat) : Nat → Nat → Nat → Nat
  | 0, _, g => g
  | r + 1, k, g => if m ≤ g then g else if ok g k = true then ag ok m r (k + 1) (g + 1) else ag ok m r (k + 1) g
def op_many (t : tb_T) (a s : st_T) : op_T :=
  if nk a 0 4 = 0 then (if nk a (nn a 0 + 1) (num a 0) = 0 then (if nn a 0 + nn a (nn a 0 + 1) + 3 ≤ a.1 then (0, st_push (st_pop a (nn a 0 + nn a (nn a 0 + 1) + 3)) (it_e (b_l (decide (ag (fun g k => tb_ok t (st_i a (nn a 0 + 2 + g)) (st_i a k)) (nn a (nn a 0 + 1)) (nn a 0) 1 0 = nn a (nn a 0 + 1))))), s) else (11, a, s)) else (nk a (nn a 0 + 1) (num a 0), a, s)) else (nk a 0 4, a, s)
def op_sp (t : tb_T) (c : Int32) (a s : st_T) : op_T :=
  if c = 97 then (0, a, s)
  else if c = 105 then (if a.1 < 1 then (11, a, s) else if it_t (st_i a 0) = 0 then (9, a, s) else (0, st_pop a 1, s))
  else if c = 106 then (10, a, s)
  else if c = 107 then (if a.1 < 1 then (11, a, s) else (0, st_pop a 1, st_push s (st_i a 0)))
  else if c = 108 then (if s.1 < 1 then (11, a, s) else (0, st_push a (st_i s 0), st_pop s 1))
  else if c = 109 then (if a.1 < 2 then (11, a, s) else (0, st_pop a 2, s))
  else if c = 110 then (if a.1 < 2 then (11, a, s) else if 30 < a.1 + s.1 + 2 then (14, a, s) else (0, st_push (st_push a (st_i a 1)) (st_i a 0), s))
  else if c = 115 then (if a.1 < 1 then (11, a, s) else if it_t (st_i a 0) = 0 then (0, a, s) else if 30 < a.1 + s.1 + 1 then (14, a, s) else (0, st_push a (st_i a 0), s))
  else if c = 116 then (if 30 < a.1 + s.1 + 1 then (14, a, s) else (0, st_push a (it_e ((nI a.1).toInt64)), s))
  else if c = 117 then (if a.1 < 1 then (11, a, s) else (0, st_pop a 1, s))
  else if c = 118 then (if a.1 < 1 then (11, a, s) else if 30 < a.1 + s.1 + 1 then (14, a, s) else (0, st_push a (st_i a 0), s))
  else if c = 119 then (if a.1 < 2 then (11, a, s) else (0, st_pop (st_raise a 1) 1, s))
  else if c = 120 then (if a.1 < 2 then (11, a, s) else if 30 < a.1 + s.1 + 1 then (14, a, s) else (0, st_push a (st_i a 1), s))
  else if c = 121 then op_pick false a s
  else if c = 122 then op_pick true a s
  else if c = 123 then (if a.1 < 3 then (11, a, s) else (0, st_raise a 2, s))
  else if c = 124 then (if a.1 < 2 then (11, a, s) else (0, st_raise a 1, s))
  else if c = 125 then (if a.1 < 2 then (11, a, s) else if 30 < a.1 + s.1 + 1 then (14, a, s) else (0, st_sink (st_push a (st_i a 0)) 2, s))
  else if c = 130 then (if a.1 < 1 then (11, a, s) else if 30 < a.1 + s.1 + 1 then (14, a, s) else (0, st_push a (it_e ((nI (st_i a 0).1).toInt64)), s))
  else if c = 135 then (if a.1 < 2 then (11, a, s) else (0, st_push (st_pop a 2) (it_e (b_l (it_s (st_i a 0) (st_i a 1)))), s))
  else if c = 136 then (if a.1 < 2 then (11, a, s) else if it_s (st_i a 0) (st_i a 1) = true then (0, st_pop a 2, s) else (9, a, s))
  else if c = 169 then (if a.1 < 1 then (11, a, s) else (0, (a.1, va_up a.2 (a.1 - 1) (it_d (it_h (st_i a 0).2 0 (st_i a 0).1))), s))
  else if c = 172 then (if a.1 < 2 then (11, a, s) else (0, st_push (st_pop a 2) (it_e (b_l (tb_ok t (st_i a 1) (st_i a 0)))), s))
  else if c = 173 then (if a.1 < 2 then (11, a, s) else if tb_ok t (st_i a 1) (st_i a 0) = true then (0, st_pop a 2, s) else (9, a, s))
  else if c = 174 then op_many t a s
  else op_calc c (if 146 < c then (if 164 < c then 3 else 2) else 1) a s
/-- the operations that run through 'operate' -/
def op_ks : List Int32 := [97, 105, 106, 107, 108, 109, 110, 115, 116, 117, 118, 119, 120, 121, 122, 123, 124, 125, 130, 135, 136, 139, 140, 143, 144, 145, 146, 147, 148, 154, 155, 156, 157, 158, 159, 160, 161, 162, 163, 164, 165, 169, 172, 173, 174]

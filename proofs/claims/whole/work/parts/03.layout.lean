/-! The labels: 0 the SpendScript, 1 .. 205 what it holds, in the order of their making; 206 the model, 207 .. 215 its arrays -/
abbrev xh_T : Type := (Nat → Nat → Int32) × (Nat → Nat → Nat) × (Nat → Nat → Int64)
abbrev xh_G : Type := (Nat → Nat) × ClassId × ClassId × ClassId × ClassId
abbrev xh_L : Type := (Nat × Nat) ⊕ (Nat × List (Option Nat))
abbrev sp_BS : String := R_BS
abbrev sp_n : Nat := 216
def sp_lb (q n : Nat) : List xh_L := [.inr (0, [some (q + 1), none]), .inl (0, n)]
def sp_ls (S : Nat) : List xh_L := [.inr (1, [some (S + 1), some (S + 62), none]), .inl (3, 30)] ++ (List.range 30).flatMap (fun i => sp_lb (S + 2 + 2 * i) 32) ++ sp_lb (S + 62) 0
def sp_ll : List xh_L := [.inr (6, [some 1, some 3, some 5, some 7, some 10, some 74, some 138, none, none, none])] ++ sp_lb 1 120 ++ sp_lb 3 120 ++ sp_lb 5 32 ++ [.inr (2, [some 8, some 9, none]), .inl (0, 8), .inl (0, 8)] ++ sp_ls 10 ++ sp_ls 74 ++ [.inr (4, [some 10, some 139, some 203, some 205, none, none, none])] ++ sp_ls 139 ++ [.inr (3, [some 204, none]), .inl (1, 8)] ++ [.inr (5, [some 10, some 139, some 7])] ++ [.inr (7, [some 207, some 208, some 209, some 210, some 211, none, none, some 212, none, none, none, some 213, some 214, none, none, none, none, none, some 215]), .inl (0, 360), .inl (0, 3), .inl (0, 1089), .inl (0, 1089), .inl (0, 1089), .inl (1, 8), .inl (0, 8), .inl (0, 8), .inl (2, 3)]
def sp_lay (k : Nat) : xh_L := sp_ll.getD k (.inl (9, 0))
def sp_len (k : Nat) : Nat := match sp_lay k with
  | .inl q => q.2
  | .inr _ => 0
def sp_fuel : Nat := 4096
abbrev sp_clBS : vw_C := (R_BS, F_BS, 2)
abbrev sp_ciBS : Nat := 0
def sp_bs (q : Nat) : Bool := decide (q + 1 < sp_n ∧ sp_lay q = .inr (0, [some (q + 1), none]) ∧ sp_lay (q + 1) = .inl (0, sp_len (q + 1)))
theorem sp_bs_of {q : Nat} (h : sp_bs q = true) : q + 1 < sp_n ∧ sp_lay q = .inr (0, [some (q + 1), none]) ∧ sp_lay (q + 1) = .inl (0, sp_len (q + 1)) := of_decide_eq_true h
theorem sp_bs_lt {q : Nat} (h : sp_bs q = true) : q < sp_n := Nat.lt_of_succ_lt (sp_bs_of h).1
theorem sp_bs_v {q : Nat} (h : sp_bs q = true) : q < sp_n ∧ ∃ fds, sp_lay q = .inr (0, fds) := ⟨sp_bs_lt h, _, (sp_bs_of h).2.1⟩
def sp_is (S : Nat) : Bool := decide (S = 10 ∨ S = 74 ∨ S = 139)
theorem sp_is_of {S : Nat} (h : sp_is S = true) : S < sp_n ∧ sp_lay S = .inr (1, [some (S + 1), some (S + 62), none]) ∧ S + 1 < sp_n ∧ sp_lay (S + 1) = .inl (3, 30) ∧ sp_bs (S + 62) = true := by
  have h := of_decide_eq_true h
  rcases h with rfl | rfl | rfl <;> decide +kernel
theorem sp_is_v {S : Nat} (h : sp_is S = true) : S < sp_n ∧ ∃ fds, sp_lay S = .inr (1, fds) := ⟨(sp_is_of h).1, _, (sp_is_of h).2.1⟩
def sp_ia (q : Nat) : Bool := decide (q < sp_n ∧ sp_lay q = .inl (0, sp_len q))
theorem sp_ia_of {q : Nat} (h : sp_ia q = true) : q < sp_n ∧ sp_lay q = .inl (0, sp_len q) := of_decide_eq_true h

theorem ly_0 : sp_lay 0 = .inr (6, [some 1, some 3, some 5, some 7, some 10, some 74, some 138, none, none, none]) := by decide +kernel
theorem lq_0 : 0 < sp_n := by decide
theorem ly_1 : sp_lay 1 = .inr (0, [some 2, none]) := by decide +kernel
theorem lq_1 : 1 < sp_n := by decide
theorem ly_2 : sp_lay 2 = .inl (0, 120) := by decide +kernel
theorem lq_2 : 2 < sp_n := by decide
theorem ly_3 : sp_lay 3 = .inr (0, [some 4, none]) := by decide +kernel
theorem lq_3 : 3 < sp_n := by decide
theorem ly_4 : sp_lay 4 = .inl (0, 120) := by decide +kernel
theorem lq_4 : 4 < sp_n := by decide
theorem ly_5 : sp_lay 5 = .inr (0, [some 6, none]) := by decide +kernel
theorem lq_5 : 5 < sp_n := by decide
theorem ly_6 : sp_lay 6 = .inl (0, 32) := by decide +kernel
theorem lq_6 : 6 < sp_n := by decide
theorem ly_7 : sp_lay 7 = .inr (2, [some 8, some 9, none]) := by decide +kernel
theorem lq_7 : 7 < sp_n := by decide
theorem ly_8 : sp_lay 8 = .inl (0, 8) := by decide +kernel
theorem lq_8 : 8 < sp_n := by decide
theorem ly_9 : sp_lay 9 = .inl (0, 8) := by decide +kernel
theorem lq_9 : 9 < sp_n := by decide
theorem ly_10 : sp_lay 10 = .inr (1, [some 11, some 72, none]) := by decide +kernel
theorem lq_10 : 10 < sp_n := by decide
theorem ly_11 : sp_lay 11 = .inl (3, 30) := by decide +kernel
theorem lq_11 : 11 < sp_n := by decide
theorem ly_74 : sp_lay 74 = .inr (1, [some 75, some 136, none]) := by decide +kernel
theorem lq_74 : 74 < sp_n := by decide
theorem ly_75 : sp_lay 75 = .inl (3, 30) := by decide +kernel
theorem lq_75 : 75 < sp_n := by decide
theorem ly_138 : sp_lay 138 = .inr (4, [some 10, some 139, some 203, some 205, none, none, none]) := by decide +kernel
theorem lq_138 : 138 < sp_n := by decide
theorem ly_139 : sp_lay 139 = .inr (1, [some 140, some 201, none]) := by decide +kernel
theorem lq_139 : 139 < sp_n := by decide
theorem ly_140 : sp_lay 140 = .inl (3, 30) := by decide +kernel
theorem lq_140 : 140 < sp_n := by decide
theorem ly_203 : sp_lay 203 = .inr (3, [some 204, none]) := by decide +kernel
theorem lq_203 : 203 < sp_n := by decide
theorem ly_204 : sp_lay 204 = .inl (1, 8) := by decide +kernel
theorem lq_204 : 204 < sp_n := by decide
theorem ly_205 : sp_lay 205 = .inr (5, [some 10, some 139, some 7]) := by decide +kernel
theorem lq_205 : 205 < sp_n := by decide
theorem ly_206 : sp_lay 206 = .inr (7, [some 207, some 208, some 209, some 210, some 211, none, none, some 212, none, none, none, some 213, some 214, none, none, none, none, none, some 215]) := by decide +kernel
theorem lq_206 : 206 < sp_n := by decide
theorem ly_207 : sp_lay 207 = .inl (0, 360) := by decide +kernel
theorem lq_207 : 207 < sp_n := by decide
theorem ly_208 : sp_lay 208 = .inl (0, 3) := by decide +kernel
theorem lq_208 : 208 < sp_n := by decide
theorem ly_209 : sp_lay 209 = .inl (0, 1089) := by decide +kernel
theorem lq_209 : 209 < sp_n := by decide
theorem ly_210 : sp_lay 210 = .inl (0, 1089) := by decide +kernel
theorem lq_210 : 210 < sp_n := by decide
theorem ly_211 : sp_lay 211 = .inl (0, 1089) := by decide +kernel
theorem lq_211 : 211 < sp_n := by decide
theorem ly_212 : sp_lay 212 = .inl (1, 8) := by decide +kernel
theorem lq_212 : 212 < sp_n := by decide
theorem ly_213 : sp_lay 213 = .inl (0, 8) := by decide +kernel
theorem lq_213 : 213 < sp_n := by decide
theorem ly_214 : sp_lay 214 = .inl (0, 8) := by decide +kernel
theorem lq_214 : 214 < sp_n := by decide
theorem ly_215 : sp_lay 215 = .inl (2, 3) := by decide +kernel
theorem lq_215 : 215 < sp_n := by decide

/-! LOGIC: the patterns of the rules, one by one -/
def fitn (p : Nat) (Q : Nat → Q4) : Nat → Option En
  | 0 => some e0
  | n + 1 => (fitn p Q n).bind (fun E => told E p (n * 4) (Q n))
/-- what a sign of a conclusion comes to -/
def mv (E : En) (c : Nat) : Nat := if 97 ≤ c ∧ c ≤ 122 then (E (c - 97)).getD 0 else lit c
def df (E : En) (c : Nat) : Prop := 97 ≤ c ∧ c ≤ 122 → (E (c - 97)).isSome = true
def gv (E : En) (p : Nat) : Q4 := (kf (sgn p 0), mv E (sgn p 1), mv E (sgn p 2), mv E (sgn p 3))
def gd (E : En) (p : Nat) : Prop := df E (sgn p 1) ∧ df E (sgn p 2) ∧ df E (sgn p 3)
set_option maxHeartbeats 4000000 in
theorem ft_3 {A T : Nat → Q4} {j : Nat} {q r s : Q4} {Q : Nat → Q4} (h0 : Q 0 = q) (h1 : Q 1 = r) : (fitn 27 Q 2 = none ∧ sn_one A T 3 j 2 q r s = q_z) ∨ (fitn 27 Q 2 = some (eu (eu (eu e0 0 q.2.1) 1 q.2.2.1) 2 r.2.2.1) ∧ gd (eu (eu (eu e0 0 q.2.1) 1 q.2.2.1) 2 r.2.2.1) 28 ∧ sn_one A T 3 j 2 q r s = gv (eu (eu (eu e0 0 q.2.1) 1 q.2.2.1) 2 r.2.2.1) 28) := by
  have g0 : sgn 27 0 = 49 := by decide
  have g1 : sgn 27 1 = 97 := by decide
  have g2 : sgn 27 2 = 98 := by decide
  have g3 : sgn 27 3 = 46 := by decide
  have g4 : sgn 27 4 = 49 := by decide
  have g5 : sgn 27 5 = 98 := by decide
  have g6 : sgn 27 6 = 99 := by decide
  have g7 : sgn 27 7 = 46 := by decide
  have g8 : sgn 28 0 = 49 := by decide
  have g9 : sgn 28 1 = 97 := by decide
  have g10 : sgn 28 2 = 99 := by decide
  have g11 : sgn 28 3 = 46 := by decide
  have k0 : kf 49 = 1 := by decide
  by_cases c0 : q.1 = 1
  rotate_left
  · have d0 : ¬ 1 = q.1 := fun z => c0 z.symm
    exact .inl ⟨by simp [fitn, told, ag, lit, g0, g1, g2, g3, g4, g5, g6, g7, g8, g9, g10, g11, k0, h0, h1, eu, e0, c0, d0] <;> omega, by simp [sn_one, tk, c0, d0] <;> omega⟩
  by_cases c1 : r.1 = 1
  rotate_left
  · have d1 : ¬ 1 = r.1 := fun z => c1 z.symm
    exact .inl ⟨by simp [fitn, told, ag, lit, g0, g1, g2, g3, g4, g5, g6, g7, g8, g9, g10, g11, k0, h0, h1, eu, e0, c0, c1, d1] <;> omega, by simp [sn_one, tk, c0, c1, d1] <;> omega⟩
  by_cases c2 : q.2.2.1 = r.2.1
  rotate_left
  · have d2 : ¬ r.2.1 = q.2.2.1 := fun z => c2 z.symm
    exact .inl ⟨by simp [fitn, told, ag, lit, g0, g1, g2, g3, g4, g5, g6, g7, g8, g9, g10, g11, k0, h0, h1, eu, e0, c0, c1, c2, d2] <;> omega, by simp [sn_one, tk, c0, c1, c2, d2] <;> omega⟩
  refine .inr ⟨by simp [fitn, told, ag, lit, g0, g1, g2, g3, g4, g5, g6, g7, g8, g9, g10, g11, k0, h0, h1, eu, e0, c0, c1, c2] <;> omega, ?_, ?_⟩
  · simp [gd, df, eu, e0, g0, g1, g2, g3, g4, g5, g6, g7, g8, g9, g10, g11, k0]
  · simp [sn_one, tk, gv, mv, lit, eu, e0, g0, g1, g2, g3, g4, g5, g6, g7, g8, g9, g10, g11, k0, c0, c1, c2] <;> omega
set_option maxHeartbeats 4000000 in
theorem ft_4 {A T : Nat → Q4} {j : Nat} {q r s : Q4} {Q : Nat → Q4} (h0 : Q 0 = q) (h1 : Q 1 = r) : (fitn 30 Q 2 = none ∧ sn_one A T 4 j 2 q r s = q_z) ∨ (fitn 30 Q 2 = some (eu (eu (eu e0 15 q.2.1) 16 q.2.2.1) 17 r.2.2.1) ∧ gd (eu (eu (eu e0 15 q.2.1) 16 q.2.2.1) 17 r.2.2.1) 31 ∧ sn_one A T 4 j 2 q r s = gv (eu (eu (eu e0 15 q.2.1) 16 q.2.2.1) 17 r.2.2.1) 31) := by
  have g0 : sgn 30 0 = 50 := by decide
  have g1 : sgn 30 1 = 112 := by decide
  have g2 : sgn 30 2 = 113 := by decide
  have g3 : sgn 30 3 = 46 := by decide
  have g4 : sgn 30 4 = 50 := by decide
  have g5 : sgn 30 5 = 113 := by decide
  have g6 : sgn 30 6 = 114 := by decide
  have g7 : sgn 30 7 = 46 := by decide
  have g8 : sgn 31 0 = 50 := by decide
  have g9 : sgn 31 1 = 112 := by decide
  have g10 : sgn 31 2 = 114 := by decide
  have g11 : sgn 31 3 = 46 := by decide
  have k0 : kf 50 = 2 := by decide
  by_cases c0 : q.1 = 2
  rotate_left
  · have d0 : ¬ 2 = q.1 := fun z => c0 z.symm
    exact .inl ⟨by simp [fitn, told, ag, lit, g0, g1, g2, g3, g4, g5, g6, g7, g8, g9, g10, g11, k0, h0, h1, eu, e0, c0, d0] <;> omega, by simp [sn_one, tk, c0, d0] <;> omega⟩
  by_cases c1 : r.1 = 2
  rotate_left
  · have d1 : ¬ 2 = r.1 := fun z => c1 z.symm
    exact .inl ⟨by simp [fitn, told, ag, lit, g0, g1, g2, g3, g4, g5, g6, g7, g8, g9, g10, g11, k0, h0, h1, eu, e0, c0, c1, d1] <;> omega, by simp [sn_one, tk, c0, c1, d1] <;> omega⟩
  by_cases c2 : q.2.2.1 = r.2.1
  rotate_left
  · have d2 : ¬ r.2.1 = q.2.2.1 := fun z => c2 z.symm
    exact .inl ⟨by simp [fitn, told, ag, lit, g0, g1, g2, g3, g4, g5, g6, g7, g8, g9, g10, g11, k0, h0, h1, eu, e0, c0, c1, c2, d2] <;> omega, by simp [sn_one, tk, c0, c1, c2, d2] <;> omega⟩
  refine .inr ⟨by simp [fitn, told, ag, lit, g0, g1, g2, g3, g4, g5, g6, g7, g8, g9, g10, g11, k0, h0, h1, eu, e0, c0, c1, c2] <;> omega, ?_, ?_⟩
  · simp [gd, df, eu, e0, g0, g1, g2, g3, g4, g5, g6, g7, g8, g9, g10, g11, k0]
  · simp [sn_one, tk, gv, mv, lit, eu, e0, g0, g1, g2, g3, g4, g5, g6, g7, g8, g9, g10, g11, k0, c0, c1, c2] <;> omega
set_option maxHeartbeats 4000000 in
theorem ft_5 {A T : Nat → Q4} {j : Nat} {q r s : Q4} {Q : Nat → Q4} (h0 : Q 0 = q) (h1 : Q 1 = r) : (fitn 33 Q 2 = none ∧ sn_one A T 5 j 2 q r s = q_z) ∨ (fitn 33 Q 2 = some (eu (eu (eu e0 0 q.2.1) 1 q.2.2.1) 23 r.2.1) ∧ gd (eu (eu (eu e0 0 q.2.1) 1 q.2.2.1) 23 r.2.1) 34 ∧ sn_one A T 5 j 2 q r s = gv (eu (eu (eu e0 0 q.2.1) 1 q.2.2.1) 23 r.2.1) 34) := by
  have g0 : sgn 33 0 = 49 := by decide
  have g1 : sgn 33 1 = 97 := by decide
  have g2 : sgn 33 2 = 98 := by decide
  have g3 : sgn 33 3 = 46 := by decide
  have g4 : sgn 33 4 = 66 := by decide
  have g5 : sgn 33 5 = 120 := by decide
  have g6 : sgn 33 6 = 48 := by decide
  have g7 : sgn 33 7 = 97 := by decide
  have g8 : sgn 34 0 = 66 := by decide
  have g9 : sgn 34 1 = 120 := by decide
  have g10 : sgn 34 2 = 48 := by decide
  have g11 : sgn 34 3 = 98 := by decide
  have k0 : kf 49 = 1 := by decide
  have k1 : kf 66 = 11 := by decide
  by_cases c0 : q.1 = 1
  rotate_left
  · have d0 : ¬ 1 = q.1 := fun z => c0 z.symm
    exact .inl ⟨by simp [fitn, told, ag, lit, g0, g1, g2, g3, g4, g5, g6, g7, g8, g9, g10, g11, k0, k1, h0, h1, eu, e0, c0, d0] <;> omega, by simp [sn_one, tk, c0, d0] <;> omega⟩
  by_cases c1 : r.1 = 11
  rotate_left
  · have d1 : ¬ 11 = r.1 := fun z => c1 z.symm
    exact .inl ⟨by simp [fitn, told, ag, lit, g0, g1, g2, g3, g4, g5, g6, g7, g8, g9, g10, g11, k0, k1, h0, h1, eu, e0, c0, c1, d1] <;> omega, by simp [sn_one, tk, c0, c1, d1] <;> omega⟩
  by_cases c2 : r.2.2.1 = 0
  rotate_left
  · have d2 : ¬ 0 = r.2.2.1 := fun z => c2 z.symm
    exact .inl ⟨by simp [fitn, told, ag, lit, g0, g1, g2, g3, g4, g5, g6, g7, g8, g9, g10, g11, k0, k1, h0, h1, eu, e0, c0, c1, c2, d2] <;> omega, by simp [sn_one, tk, c0, c1, c2, d2] <;> omega⟩
  by_cases c3 : q.2.1 = r.2.2.2
  rotate_left
  · have d3 : ¬ r.2.2.2 = q.2.1 := fun z => c3 z.symm
    exact .inl ⟨by simp [fitn, told, ag, lit, g0, g1, g2, g3, g4, g5, g6, g7, g8, g9, g10, g11, k0, k1, h0, h1, eu, e0, c0, c1, c2, c3, d3] <;> omega, by simp [sn_one, tk, c0, c1, c2, c3, d3] <;> omega⟩
  refine .inr ⟨by simp [fitn, told, ag, lit, g0, g1, g2, g3, g4, g5, g6, g7, g8, g9, g10, g11, k0, k1, h0, h1, eu, e0, c0, c1, c2, c3] <;> omega, ?_, ?_⟩
  · simp [gd, df, eu, e0, g0, g1, g2, g3, g4, g5, g6, g7, g8, g9, g10, g11, k0, k1]
  · simp [sn_one, tk, gv, mv, lit, eu, e0, g0, g1, g2, g3, g4, g5, g6, g7, g8, g9, g10, g11, k0, k1, c0, c1, c2, c3] <;> omega
set_option maxHeartbeats 4000000 in
theorem ft_6 {A T : Nat → Q4} {j : Nat} {q r s : Q4} {Q : Nat → Q4} (h0 : Q 0 = q) (h1 : Q 1 = r) : (fitn 36 Q 2 = none ∧ sn_one A T 6 j 2 q r s = q_z) ∨ (fitn 36 Q 2 = some (eu (eu (eu (eu e0 15 q.2.1) 16 q.2.2.1) 23 r.2.1) 24 r.2.2.2) ∧ gd (eu (eu (eu (eu e0 15 q.2.1) 16 q.2.2.1) 23 r.2.1) 24 r.2.2.2) 37 ∧ sn_one A T 6 j 2 q r s = gv (eu (eu (eu (eu e0 15 q.2.1) 16 q.2.2.1) 23 r.2.1) 24 r.2.2.2) 37) := by
  have g0 : sgn 36 0 = 50 := by decide
  have g1 : sgn 36 1 = 112 := by decide
  have g2 : sgn 36 2 = 113 := by decide
  have g3 : sgn 36 3 = 46 := by decide
  have g4 : sgn 36 4 = 66 := by decide
  have g5 : sgn 36 5 = 120 := by decide
  have g6 : sgn 36 6 = 112 := by decide
  have g7 : sgn 36 7 = 121 := by decide
  have g8 : sgn 37 0 = 66 := by decide
  have g9 : sgn 37 1 = 120 := by decide
  have g10 : sgn 37 2 = 113 := by decide
  have g11 : sgn 37 3 = 121 := by decide
  have k0 : kf 50 = 2 := by decide
  have k1 : kf 66 = 11 := by decide
  by_cases c0 : q.1 = 2
  rotate_left
  · have d0 : ¬ 2 = q.1 := fun z => c0 z.symm
    exact .inl ⟨by simp [fitn, told, ag, lit, g0, g1, g2, g3, g4, g5, g6, g7, g8, g9, g10, g11, k0, k1, h0, h1, eu, e0, c0, d0] <;> omega, by simp [sn_one, tk, c0, d0] <;> omega⟩
  by_cases c1 : r.1 = 11
  rotate_left
  · have d1 : ¬ 11 = r.1 := fun z => c1 z.symm
    exact .inl ⟨by simp [fitn, told, ag, lit, g0, g1, g2, g3, g4, g5, g6, g7, g8, g9, g10, g11, k0, k1, h0, h1, eu, e0, c0, c1, d1] <;> omega, by simp [sn_one, tk, c0, c1, d1] <;> omega⟩
  by_cases c2 : q.2.1 = r.2.2.1
  rotate_left
  · have d2 : ¬ r.2.2.1 = q.2.1 := fun z => c2 z.symm
    exact .inl ⟨by simp [fitn, told, ag, lit, g0, g1, g2, g3, g4, g5, g6, g7, g8, g9, g10, g11, k0, k1, h0, h1, eu, e0, c0, c1, c2, d2] <;> omega, by simp [sn_one, tk, c0, c1, c2, d2] <;> omega⟩
  refine .inr ⟨by simp [fitn, told, ag, lit, g0, g1, g2, g3, g4, g5, g6, g7, g8, g9, g10, g11, k0, k1, h0, h1, eu, e0, c0, c1, c2] <;> omega, ?_, ?_⟩
  · simp [gd, df, eu, e0, g0, g1, g2, g3, g4, g5, g6, g7, g8, g9, g10, g11, k0, k1]
  · simp [sn_one, tk, gv, mv, lit, eu, e0, g0, g1, g2, g3, g4, g5, g6, g7, g8, g9, g10, g11, k0, k1, c0, c1, c2] <;> omega
set_option maxHeartbeats 4000000 in
theorem ft_7 {A T : Nat → Q4} {j : Nat} {q r s : Q4} {Q : Nat → Q4} (h0 : Q 0 = q) (h1 : Q 1 = r) : (fitn 39 Q 2 = none ∧ sn_one A T 7 j 2 q r s = q_z) ∨ (fitn 39 Q 2 = some (eu (eu (eu (eu e0 15 q.2.1) 2 q.2.2.1) 23 r.2.1) 24 r.2.2.2) ∧ gd (eu (eu (eu (eu e0 15 q.2.1) 2 q.2.2.1) 23 r.2.1) 24 r.2.2.2) 40 ∧ sn_one A T 7 j 2 q r s = gv (eu (eu (eu (eu e0 15 q.2.1) 2 q.2.2.1) 23 r.2.1) 24 r.2.2.2) 40) := by
  have g0 : sgn 39 0 = 51 := by decide
  have g1 : sgn 39 1 = 112 := by decide
  have g2 : sgn 39 2 = 99 := by decide
  have g3 : sgn 39 3 = 46 := by decide
  have g4 : sgn 39 4 = 66 := by decide
  have g5 : sgn 39 5 = 120 := by decide
  have g6 : sgn 39 6 = 112 := by decide
  have g7 : sgn 39 7 = 121 := by decide
  have g8 : sgn 40 0 = 66 := by decide
  have g9 : sgn 40 1 = 120 := by decide
  have g10 : sgn 40 2 = 48 := by decide
  have g11 : sgn 40 3 = 99 := by decide
  have k0 : kf 51 = 3 := by decide
  have k1 : kf 66 = 11 := by decide
  by_cases c0 : q.1 = 3
  rotate_left
  · have d0 : ¬ 3 = q.1 := fun z => c0 z.symm
    exact .inl ⟨by simp [fitn, told, ag, lit, g0, g1, g2, g3, g4, g5, g6, g7, g8, g9, g10, g11, k0, k1, h0, h1, eu, e0, c0, d0] <;> omega, by simp [sn_one, tk, c0, d0] <;> omega⟩
  by_cases c1 : r.1 = 11
  rotate_left
  · have d1 : ¬ 11 = r.1 := fun z => c1 z.symm
    exact .inl ⟨by simp [fitn, told, ag, lit, g0, g1, g2, g3, g4, g5, g6, g7, g8, g9, g10, g11, k0, k1, h0, h1, eu, e0, c0, c1, d1] <;> omega, by simp [sn_one, tk, c0, c1, d1] <;> omega⟩
  by_cases c2 : q.2.1 = r.2.2.1
  rotate_left
  · have d2 : ¬ r.2.2.1 = q.2.1 := fun z => c2 z.symm
    exact .inl ⟨by simp [fitn, told, ag, lit, g0, g1, g2, g3, g4, g5, g6, g7, g8, g9, g10, g11, k0, k1, h0, h1, eu, e0, c0, c1, c2, d2] <;> omega, by simp [sn_one, tk, c0, c1, c2, d2] <;> omega⟩
  refine .inr ⟨by simp [fitn, told, ag, lit, g0, g1, g2, g3, g4, g5, g6, g7, g8, g9, g10, g11, k0, k1, h0, h1, eu, e0, c0, c1, c2] <;> omega, ?_, ?_⟩
  · simp [gd, df, eu, e0, g0, g1, g2, g3, g4, g5, g6, g7, g8, g9, g10, g11, k0, k1]
  · simp [sn_one, tk, gv, mv, lit, eu, e0, g0, g1, g2, g3, g4, g5, g6, g7, g8, g9, g10, g11, k0, k1, c0, c1, c2] <;> omega
set_option maxHeartbeats 4000000 in
theorem ft_8 {A T : Nat → Q4} {j : Nat} {q r s : Q4} {Q : Nat → Q4} (h0 : Q 0 = q) (h1 : Q 1 = r) : (fitn 42 Q 2 = none ∧ sn_one A T 8 j 2 q r s = q_z) ∨ (fitn 42 Q 2 = some (eu (eu (eu (eu e0 15 q.2.1) 2 q.2.2.1) 23 r.2.1) 24 r.2.2.2) ∧ gd (eu (eu (eu (eu e0 15 q.2.1) 2 q.2.2.1) 23 r.2.1) 24 r.2.2.2) 43 ∧ sn_one A T 8 j 2 q r s = gv (eu (eu (eu (eu e0 15 q.2.1) 2 q.2.2.1) 23 r.2.1) 24 r.2.2.2) 43) := by
  have g0 : sgn 42 0 = 52 := by decide
  have g1 : sgn 42 1 = 112 := by decide
  have g2 : sgn 42 2 = 99 := by decide
  have g3 : sgn 42 3 = 46 := by decide
  have g4 : sgn 42 4 = 66 := by decide
  have g5 : sgn 42 5 = 120 := by decide
  have g6 : sgn 42 6 = 112 := by decide
  have g7 : sgn 42 7 = 121 := by decide
  have g8 : sgn 43 0 = 66 := by decide
  have g9 : sgn 43 1 = 121 := by decide
  have g10 : sgn 43 2 = 48 := by decide
  have g11 : sgn 43 3 = 99 := by decide
  have k0 : kf 52 = 4 := by decide
  have k1 : kf 66 = 11 := by decide
  by_cases c0 : q.1 = 4
  rotate_left
  · have d0 : ¬ 4 = q.1 := fun z => c0 z.symm
    exact .inl ⟨by simp [fitn, told, ag, lit, g0, g1, g2, g3, g4, g5, g6, g7, g8, g9, g10, g11, k0, k1, h0, h1, eu, e0, c0, d0] <;> omega, by simp [sn_one, tk, c0, d0] <;> omega⟩
  by_cases c1 : r.1 = 11
  rotate_left
  · have d1 : ¬ 11 = r.1 := fun z => c1 z.symm
    exact .inl ⟨by simp [fitn, told, ag, lit, g0, g1, g2, g3, g4, g5, g6, g7, g8, g9, g10, g11, k0, k1, h0, h1, eu, e0, c0, c1, d1] <;> omega, by simp [sn_one, tk, c0, c1, d1] <;> omega⟩
  by_cases c2 : q.2.1 = r.2.2.1
  rotate_left
  · have d2 : ¬ r.2.2.1 = q.2.1 := fun z => c2 z.symm
    exact .inl ⟨by simp [fitn, told, ag, lit, g0, g1, g2, g3, g4, g5, g6, g7, g8, g9, g10, g11, k0, k1, h0, h1, eu, e0, c0, c1, c2, d2] <;> omega, by simp [sn_one, tk, c0, c1, c2, d2] <;> omega⟩
  refine .inr ⟨by simp [fitn, told, ag, lit, g0, g1, g2, g3, g4, g5, g6, g7, g8, g9, g10, g11, k0, k1, h0, h1, eu, e0, c0, c1, c2] <;> omega, ?_, ?_⟩
  · simp [gd, df, eu, e0, g0, g1, g2, g3, g4, g5, g6, g7, g8, g9, g10, g11, k0, k1]
  · simp [sn_one, tk, gv, mv, lit, eu, e0, g0, g1, g2, g3, g4, g5, g6, g7, g8, g9, g10, g11, k0, k1, c0, c1, c2] <;> omega
set_option maxHeartbeats 4000000 in
theorem ft_9 {A T : Nat → Q4} {j : Nat} {q r s : Q4} {Q : Nat → Q4} (h0 : Q 0 = q) (h1 : Q 1 = r) : (fitn 45 Q 2 = none ∧ sn_one A T 9 j 2 q r s = q_z) ∨ (fitn 45 Q 2 = some (eu (eu (eu e0 15 q.2.1) 23 r.2.1) 24 r.2.2.2) ∧ gd (eu (eu (eu e0 15 q.2.1) 23 r.2.1) 24 r.2.2.2) 46 ∧ sn_one A T 9 j 2 q r s = gv (eu (eu (eu e0 15 q.2.1) 23 r.2.1) 24 r.2.2.2) 46) := by
  have g0 : sgn 45 0 = 55 := by decide
  have g1 : sgn 45 1 = 112 := by decide
  have g2 : sgn 45 2 = 46 := by decide
  have g3 : sgn 45 3 = 46 := by decide
  have g4 : sgn 45 4 = 66 := by decide
  have g5 : sgn 45 5 = 120 := by decide
  have g6 : sgn 45 6 = 112 := by decide
  have g7 : sgn 45 7 = 121 := by decide
  have g8 : sgn 46 0 = 66 := by decide
  have g9 : sgn 46 1 = 121 := by decide
  have g10 : sgn 46 2 = 112 := by decide
  have g11 : sgn 46 3 = 120 := by decide
  have k0 : kf 55 = 7 := by decide
  have k1 : kf 66 = 11 := by decide
  by_cases c0 : q.1 = 7
  rotate_left
  · have d0 : ¬ 7 = q.1 := fun z => c0 z.symm
    exact .inl ⟨by simp [fitn, told, ag, lit, g0, g1, g2, g3, g4, g5, g6, g7, g8, g9, g10, g11, k0, k1, h0, h1, eu, e0, c0, d0] <;> omega, by simp [sn_one, tk, c0, d0] <;> omega⟩
  by_cases c1 : r.1 = 11
  rotate_left
  · have d1 : ¬ 11 = r.1 := fun z => c1 z.symm
    exact .inl ⟨by simp [fitn, told, ag, lit, g0, g1, g2, g3, g4, g5, g6, g7, g8, g9, g10, g11, k0, k1, h0, h1, eu, e0, c0, c1, d1] <;> omega, by simp [sn_one, tk, c0, c1, d1] <;> omega⟩
  by_cases c2 : q.2.1 = r.2.2.1
  rotate_left
  · have d2 : ¬ r.2.2.1 = q.2.1 := fun z => c2 z.symm
    exact .inl ⟨by simp [fitn, told, ag, lit, g0, g1, g2, g3, g4, g5, g6, g7, g8, g9, g10, g11, k0, k1, h0, h1, eu, e0, c0, c1, c2, d2] <;> omega, by simp [sn_one, tk, c0, c1, c2, d2] <;> omega⟩
  refine .inr ⟨by simp [fitn, told, ag, lit, g0, g1, g2, g3, g4, g5, g6, g7, g8, g9, g10, g11, k0, k1, h0, h1, eu, e0, c0, c1, c2] <;> omega, ?_, ?_⟩
  · simp [gd, df, eu, e0, g0, g1, g2, g3, g4, g5, g6, g7, g8, g9, g10, g11, k0, k1]
  · simp [sn_one, tk, gv, mv, lit, eu, e0, g0, g1, g2, g3, g4, g5, g6, g7, g8, g9, g10, g11, k0, k1, c0, c1, c2] <;> omega
set_option maxHeartbeats 4000000 in
theorem ft_10 {A T : Nat → Q4} {j : Nat} {q r s : Q4} {Q : Nat → Q4} (h0 : Q 0 = q) (h1 : Q 1 = r) (h2 : Q 2 = s) : (fitn 48 Q 3 = none ∧ sn_one A T 10 j 3 q r s = q_z) ∨ (fitn 48 Q 3 = some (eu (eu (eu (eu e0 15 q.2.1) 23 r.2.1) 24 r.2.2.2) 25 s.2.2.2) ∧ gd (eu (eu (eu (eu e0 15 q.2.1) 23 r.2.1) 24 r.2.2.2) 25 s.2.2.2) 49 ∧ sn_one A T 10 j 3 q r s = gv (eu (eu (eu (eu e0 15 q.2.1) 23 r.2.1) 24 r.2.2.2) 25 s.2.2.2) 49) := by
  have g0 : sgn 48 0 = 54 := by decide
  have g1 : sgn 48 1 = 112 := by decide
  have g2 : sgn 48 2 = 46 := by decide
  have g3 : sgn 48 3 = 46 := by decide
  have g4 : sgn 48 4 = 66 := by decide
  have g5 : sgn 48 5 = 120 := by decide
  have g6 : sgn 48 6 = 112 := by decide
  have g7 : sgn 48 7 = 121 := by decide
  have g8 : sgn 48 8 = 66 := by decide
  have g9 : sgn 48 9 = 121 := by decide
  have g10 : sgn 48 10 = 112 := by decide
  have g11 : sgn 48 11 = 122 := by decide
  have g12 : sgn 49 0 = 66 := by decide
  have g13 : sgn 49 1 = 120 := by decide
  have g14 : sgn 49 2 = 112 := by decide
  have g15 : sgn 49 3 = 122 := by decide
  have k0 : kf 54 = 6 := by decide
  have k1 : kf 66 = 11 := by decide
  by_cases c0 : q.1 = 6
  rotate_left
  · have d0 : ¬ 6 = q.1 := fun z => c0 z.symm
    exact .inl ⟨by simp [fitn, told, ag, lit, g0, g1, g2, g3, g4, g5, g6, g7, g8, g9, g10, g11, g12, g13, g14, g15, k0, k1, h0, h1, h2, eu, e0, c0, d0] <;> omega, by simp [sn_one, tk, c0, d0] <;> omega⟩
  by_cases c1 : r.1 = 11
  rotate_left
  · have d1 : ¬ 11 = r.1 := fun z => c1 z.symm
    exact .inl ⟨by simp [fitn, told, ag, lit, g0, g1, g2, g3, g4, g5, g6, g7, g8, g9, g10, g11, g12, g13, g14, g15, k0, k1, h0, h1, h2, eu, e0, c0, c1, d1] <;> omega, by simp [sn_one, tk, c0, c1, d1] <;> omega⟩
  by_cases c2 : q.2.1 = r.2.2.1
  rotate_left
  · have d2 : ¬ r.2.2.1 = q.2.1 := fun z => c2 z.symm
    exact .inl ⟨by simp [fitn, told, ag, lit, g0, g1, g2, g3, g4, g5, g6, g7, g8, g9, g10, g11, g12, g13, g14, g15, k0, k1, h0, h1, h2, eu, e0, c0, c1, c2, d2] <;> omega, by simp [sn_one, tk, c0, c1, c2, d2] <;> omega⟩
  by_cases c3 : s.1 = 11
  rotate_left
  · have d3 : ¬ 11 = s.1 := fun z => c3 z.symm
    exact .inl ⟨by simp [fitn, told, ag, lit, g0, g1, g2, g3, g4, g5, g6, g7, g8, g9, g10, g11, g12, g13, g14, g15, k0, k1, h0, h1, h2, eu, e0, c0, c1, c2, c3, d3] <;> omega, by simp [sn_one, tk, c0, c1, c2, c3, d3] <;> omega⟩
  by_cases c4 : r.2.2.2 = s.2.1
  rotate_left
  · have d4 : ¬ s.2.1 = r.2.2.2 := fun z => c4 z.symm
    exact .inl ⟨by simp [fitn, told, ag, lit, g0, g1, g2, g3, g4, g5, g6, g7, g8, g9, g10, g11, g12, g13, g14, g15, k0, k1, h0, h1, h2, eu, e0, c0, c1, c2, c3, c4, d4] <;> omega, by simp [sn_one, tk, c0, c1, c2, c3, c4, d4] <;> omega⟩
  by_cases c5 : r.2.2.1 = s.2.2.1
  rotate_left
  · have d5 : ¬ s.2.2.1 = r.2.2.1 := fun z => c5 z.symm
    exact .inl ⟨by simp [fitn, told, ag, lit, g0, g1, g2, g3, g4, g5, g6, g7, g8, g9, g10, g11, g12, g13, g14, g15, k0, k1, h0, h1, h2, eu, e0, c0, c1, c2, c3, c4, c5, d5] <;> omega, by simp [sn_one, tk, c0, c1, c2, c3, c4, c5, d5] <;> omega⟩
  refine .inr ⟨by simp [fitn, told, ag, lit, g0, g1, g2, g3, g4, g5, g6, g7, g8, g9, g10, g11, g12, g13, g14, g15, k0, k1, h0, h1, h2, eu, e0, c0, c1, c2, c3, c4, c5] <;> omega, ?_, ?_⟩
  · simp [gd, df, eu, e0, g0, g1, g2, g3, g4, g5, g6, g7, g8, g9, g10, g11, g12, g13, g14, g15, k0, k1]
  · simp [sn_one, tk, gv, mv, lit, eu, e0, g0, g1, g2, g3, g4, g5, g6, g7, g8, g9, g10, g11, g12, g13, g14, g15, k0, k1, c0, c1, c2, c3, c4, c5] <;> omega
set_option maxHeartbeats 4000000 in
theorem ft_11 {A T : Nat → Q4} {j : Nat} {q r s : Q4} {Q : Nat → Q4} (h0 : Q 0 = q) (h1 : Q 1 = r) : (fitn 51 Q 2 = none ∧ sn_one A T 11 j 2 q r s = q_z) ∨ (fitn 51 Q 2 = some (eu (eu (eu (eu e0 15 q.2.1) 16 q.2.2.1) 23 r.2.1) 24 r.2.2.2) ∧ gd (eu (eu (eu (eu e0 15 q.2.1) 16 q.2.2.1) 23 r.2.1) 24 r.2.2.2) 52 ∧ sn_one A T 11 j 2 q r s = gv (eu (eu (eu (eu e0 15 q.2.1) 16 q.2.2.1) 23 r.2.1) 24 r.2.2.2) 52) := by
  have g0 : sgn 51 0 = 56 := by decide
  have g1 : sgn 51 1 = 112 := by decide
  have g2 : sgn 51 2 = 113 := by decide
  have g3 : sgn 51 3 = 46 := by decide
  have g4 : sgn 51 4 = 66 := by decide
  have g5 : sgn 51 5 = 120 := by decide
  have g6 : sgn 51 6 = 112 := by decide
  have g7 : sgn 51 7 = 121 := by decide
  have g8 : sgn 52 0 = 66 := by decide
  have g9 : sgn 52 1 = 121 := by decide
  have g10 : sgn 52 2 = 113 := by decide
  have g11 : sgn 52 3 = 120 := by decide
  have k0 : kf 56 = 8 := by decide
  have k1 : kf 66 = 11 := by decide
  by_cases c0 : q.1 = 8
  rotate_left
  · have d0 : ¬ 8 = q.1 := fun z => c0 z.symm
    exact .inl ⟨by simp [fitn, told, ag, lit, g0, g1, g2, g3, g4, g5, g6, g7, g8, g9, g10, g11, k0, k1, h0, h1, eu, e0, c0, d0] <;> omega, by simp [sn_one, tk, c0, d0] <;> omega⟩
  by_cases c1 : r.1 = 11
  rotate_left
  · have d1 : ¬ 11 = r.1 := fun z => c1 z.symm
    exact .inl ⟨by simp [fitn, told, ag, lit, g0, g1, g2, g3, g4, g5, g6, g7, g8, g9, g10, g11, k0, k1, h0, h1, eu, e0, c0, c1, d1] <;> omega, by simp [sn_one, tk, c0, c1, d1] <;> omega⟩
  by_cases c2 : q.2.1 = r.2.2.1
  rotate_left
  · have d2 : ¬ r.2.2.1 = q.2.1 := fun z => c2 z.symm
    exact .inl ⟨by simp [fitn, told, ag, lit, g0, g1, g2, g3, g4, g5, g6, g7, g8, g9, g10, g11, k0, k1, h0, h1, eu, e0, c0, c1, c2, d2] <;> omega, by simp [sn_one, tk, c0, c1, c2, d2] <;> omega⟩
  refine .inr ⟨by simp [fitn, told, ag, lit, g0, g1, g2, g3, g4, g5, g6, g7, g8, g9, g10, g11, k0, k1, h0, h1, eu, e0, c0, c1, c2] <;> omega, ?_, ?_⟩
  · simp [gd, df, eu, e0, g0, g1, g2, g3, g4, g5, g6, g7, g8, g9, g10, g11, k0, k1]
  · simp [sn_one, tk, gv, mv, lit, eu, e0, g0, g1, g2, g3, g4, g5, g6, g7, g8, g9, g10, g11, k0, k1, c0, c1, c2] <;> omega
set_option maxHeartbeats 4000000 in
theorem ft_12 {A T : Nat → Q4} {j : Nat} {q r s : Q4} {Q : Nat → Q4} (h0 : Q 0 = q) : (fitn 54 Q 1 = none ∧ sn_one A T 12 j 1 q r s = q_z) ∨ (fitn 54 Q 1 = some (eu (eu e0 23 q.2.1) 24 q.2.2.2) ∧ gd (eu (eu e0 23 q.2.1) 24 q.2.2.2) 55 ∧ sn_one A T 12 j 1 q r s = gv (eu (eu e0 23 q.2.1) 24 q.2.2.2) 55) := by
  have g0 : sgn 54 0 = 66 := by decide
  have g1 : sgn 54 1 = 120 := by decide
  have g2 : sgn 54 2 = 49 := by decide
  have g3 : sgn 54 3 = 121 := by decide
  have g4 : sgn 55 0 = 66 := by decide
  have g5 : sgn 55 1 = 121 := by decide
  have g6 : sgn 55 2 = 49 := by decide
  have g7 : sgn 55 3 = 120 := by decide
  have k0 : kf 66 = 11 := by decide
  by_cases c0 : q.1 = 11
  rotate_left
  · have d0 : ¬ 11 = q.1 := fun z => c0 z.symm
    exact .inl ⟨by simp [fitn, told, ag, lit, g0, g1, g2, g3, g4, g5, g6, g7, k0, h0, eu, e0, c0, d0] <;> omega, by simp [sn_one, tk, c0, d0] <;> omega⟩
  by_cases c1 : q.2.2.1 = 1
  rotate_left
  · have d1 : ¬ 1 = q.2.2.1 := fun z => c1 z.symm
    exact .inl ⟨by simp [fitn, told, ag, lit, g0, g1, g2, g3, g4, g5, g6, g7, k0, h0, eu, e0, c0, c1, d1] <;> omega, by simp [sn_one, tk, c0, c1, d1] <;> omega⟩
  refine .inr ⟨by simp [fitn, told, ag, lit, g0, g1, g2, g3, g4, g5, g6, g7, k0, h0, eu, e0, c0, c1] <;> omega, ?_, ?_⟩
  · simp [gd, df, eu, e0, g0, g1, g2, g3, g4, g5, g6, g7, k0]
  · simp [sn_one, tk, gv, mv, lit, eu, e0, g0, g1, g2, g3, g4, g5, g6, g7, k0, c0, c1] <;> omega
set_option maxHeartbeats 4000000 in
theorem ft_13 {A T : Nat → Q4} {j : Nat} {q r s : Q4} {Q : Nat → Q4} (h0 : Q 0 = q) (h1 : Q 1 = r) : (fitn 57 Q 2 = none ∧ sn_one A T 13 j 2 q r s = q_z) ∨ (fitn 57 Q 2 = some (eu (eu (eu (eu e0 23 q.2.1) 24 q.2.2.2) 15 r.2.2.1) 25 r.2.2.2) ∧ gd (eu (eu (eu (eu e0 23 q.2.1) 24 q.2.2.2) 15 r.2.2.1) 25 r.2.2.2) 58 ∧ sn_one A T 13 j 2 q r s = gv (eu (eu (eu (eu e0 23 q.2.1) 24 q.2.2.2) 15 r.2.2.1) 25 r.2.2.2) 58) := by
  have g0 : sgn 57 0 = 66 := by decide
  have g1 : sgn 57 1 = 120 := by decide
  have g2 : sgn 57 2 = 49 := by decide
  have g3 : sgn 57 3 = 121 := by decide
  have g4 : sgn 57 4 = 66 := by decide
  have g5 : sgn 57 5 = 120 := by decide
  have g6 : sgn 57 6 = 112 := by decide
  have g7 : sgn 57 7 = 122 := by decide
  have g8 : sgn 58 0 = 66 := by decide
  have g9 : sgn 58 1 = 121 := by decide
  have g10 : sgn 58 2 = 112 := by decide
  have g11 : sgn 58 3 = 122 := by decide
  have k0 : kf 66 = 11 := by decide
  by_cases c0 : q.1 = 11
  rotate_left
  · have d0 : ¬ 11 = q.1 := fun z => c0 z.symm
    exact .inl ⟨by simp [fitn, told, ag, lit, g0, g1, g2, g3, g4, g5, g6, g7, g8, g9, g10, g11, k0, h0, h1, eu, e0, c0, d0] <;> omega, by simp [sn_one, tk, c0, d0] <;> omega⟩
  by_cases c1 : q.2.2.1 = 1
  rotate_left
  · have d1 : ¬ 1 = q.2.2.1 := fun z => c1 z.symm
    exact .inl ⟨by simp [fitn, told, ag, lit, g0, g1, g2, g3, g4, g5, g6, g7, g8, g9, g10, g11, k0, h0, h1, eu, e0, c0, c1, d1] <;> omega, by simp [sn_one, tk, c0, c1, d1] <;> omega⟩
  by_cases c2 : r.1 = 11
  rotate_left
  · have d2 : ¬ 11 = r.1 := fun z => c2 z.symm
    exact .inl ⟨by simp [fitn, told, ag, lit, g0, g1, g2, g3, g4, g5, g6, g7, g8, g9, g10, g11, k0, h0, h1, eu, e0, c0, c1, c2, d2] <;> omega, by simp [sn_one, tk, c0, c1, c2, d2] <;> omega⟩
  by_cases c3 : q.2.1 = r.2.1
  rotate_left
  · have d3 : ¬ r.2.1 = q.2.1 := fun z => c3 z.symm
    exact .inl ⟨by simp [fitn, told, ag, lit, g0, g1, g2, g3, g4, g5, g6, g7, g8, g9, g10, g11, k0, h0, h1, eu, e0, c0, c1, c2, c3, d3] <;> omega, by simp [sn_one, tk, c0, c1, c2, c3, d3] <;> omega⟩
  refine .inr ⟨by simp [fitn, told, ag, lit, g0, g1, g2, g3, g4, g5, g6, g7, g8, g9, g10, g11, k0, h0, h1, eu, e0, c0, c1, c2, c3] <;> omega, ?_, ?_⟩
  · simp [gd, df, eu, e0, g0, g1, g2, g3, g4, g5, g6, g7, g8, g9, g10, g11, k0]
  · simp [sn_one, tk, gv, mv, lit, eu, e0, g0, g1, g2, g3, g4, g5, g6, g7, g8, g9, g10, g11, k0, c0, c1, c2, c3] <;> omega
set_option maxHeartbeats 4000000 in
theorem ft_14 {A T : Nat → Q4} {j : Nat} {q r s : Q4} {Q : Nat → Q4} (h0 : Q 0 = q) (h1 : Q 1 = r) (h2 : Q 2 = s) : (fitn 60 Q 3 = none ∧ sn_one A T 14 j 3 q r s = q_z) ∨ (fitn 60 Q 3 = some (eu (eu (eu (eu e0 15 q.2.1) 23 r.2.1) 24 r.2.2.2) 25 s.2.2.2) ∧ gd (eu (eu (eu (eu e0 15 q.2.1) 23 r.2.1) 24 r.2.2.2) 25 s.2.2.2) 61 ∧ sn_one A T 14 j 3 q r s = gv (eu (eu (eu (eu e0 15 q.2.1) 23 r.2.1) 24 r.2.2.2) 25 s.2.2.2) 61) := by
  have g0 : sgn 60 0 = 57 := by decide
  have g1 : sgn 60 1 = 112 := by decide
  have g2 : sgn 60 2 = 46 := by decide
  have g3 : sgn 60 3 = 46 := by decide
  have g4 : sgn 60 4 = 66 := by decide
  have g5 : sgn 60 5 = 120 := by decide
  have g6 : sgn 60 6 = 112 := by decide
  have g7 : sgn 60 7 = 121 := by decide
  have g8 : sgn 60 8 = 66 := by decide
  have g9 : sgn 60 9 = 120 := by decide
  have g10 : sgn 60 10 = 112 := by decide
  have g11 : sgn 60 11 = 122 := by decide
  have g12 : sgn 61 0 = 66 := by decide
  have g13 : sgn 61 1 = 121 := by decide
  have g14 : sgn 61 2 = 49 := by decide
  have g15 : sgn 61 3 = 122 := by decide
  have k0 : kf 57 = 9 := by decide
  have k1 : kf 66 = 11 := by decide
  by_cases c0 : q.1 = 9
  rotate_left
  · have d0 : ¬ 9 = q.1 := fun z => c0 z.symm
    exact .inl ⟨by simp [fitn, told, ag, lit, g0, g1, g2, g3, g4, g5, g6, g7, g8, g9, g10, g11, g12, g13, g14, g15, k0, k1, h0, h1, h2, eu, e0, c0, d0] <;> omega, by simp [sn_one, tk, c0, d0] <;> omega⟩
  by_cases c1 : r.1 = 11
  rotate_left
  · have d1 : ¬ 11 = r.1 := fun z => c1 z.symm
    exact .inl ⟨by simp [fitn, told, ag, lit, g0, g1, g2, g3, g4, g5, g6, g7, g8, g9, g10, g11, g12, g13, g14, g15, k0, k1, h0, h1, h2, eu, e0, c0, c1, d1] <;> omega, by simp [sn_one, tk, c0, c1, d1] <;> omega⟩
  by_cases c2 : q.2.1 = r.2.2.1
  rotate_left
  · have d2 : ¬ r.2.2.1 = q.2.1 := fun z => c2 z.symm
    exact .inl ⟨by simp [fitn, told, ag, lit, g0, g1, g2, g3, g4, g5, g6, g7, g8, g9, g10, g11, g12, g13, g14, g15, k0, k1, h0, h1, h2, eu, e0, c0, c1, c2, d2] <;> omega, by simp [sn_one, tk, c0, c1, c2, d2] <;> omega⟩
  by_cases c3 : s.1 = 11
  rotate_left
  · have d3 : ¬ 11 = s.1 := fun z => c3 z.symm
    exact .inl ⟨by simp [fitn, told, ag, lit, g0, g1, g2, g3, g4, g5, g6, g7, g8, g9, g10, g11, g12, g13, g14, g15, k0, k1, h0, h1, h2, eu, e0, c0, c1, c2, c3, d3] <;> omega, by simp [sn_one, tk, c0, c1, c2, c3, d3] <;> omega⟩
  by_cases c4 : r.2.1 = s.2.1
  rotate_left
  · have d4 : ¬ s.2.1 = r.2.1 := fun z => c4 z.symm
    exact .inl ⟨by simp [fitn, told, ag, lit, g0, g1, g2, g3, g4, g5, g6, g7, g8, g9, g10, g11, g12, g13, g14, g15, k0, k1, h0, h1, h2, eu, e0, c0, c1, c2, c3, c4, d4] <;> omega, by simp [sn_one, tk, c0, c1, c2, c3, c4, d4] <;> omega⟩
  by_cases c5 : r.2.2.1 = s.2.2.1
  rotate_left
  · have d5 : ¬ s.2.2.1 = r.2.2.1 := fun z => c5 z.symm
    exact .inl ⟨by simp [fitn, told, ag, lit, g0, g1, g2, g3, g4, g5, g6, g7, g8, g9, g10, g11, g12, g13, g14, g15, k0, k1, h0, h1, h2, eu, e0, c0, c1, c2, c3, c4, c5, d5] <;> omega, by simp [sn_one, tk, c0, c1, c2, c3, c4, c5, d5] <;> omega⟩
  refine .inr ⟨by simp [fitn, told, ag, lit, g0, g1, g2, g3, g4, g5, g6, g7, g8, g9, g10, g11, g12, g13, g14, g15, k0, k1, h0, h1, h2, eu, e0, c0, c1, c2, c3, c4, c5] <;> omega, ?_, ?_⟩
  · simp [gd, df, eu, e0, g0, g1, g2, g3, g4, g5, g6, g7, g8, g9, g10, g11, g12, g13, g14, g15, k0, k1]
  · simp [sn_one, tk, gv, mv, lit, eu, e0, g0, g1, g2, g3, g4, g5, g6, g7, g8, g9, g10, g11, g12, g13, g14, g15, k0, k1, c0, c1, c2, c3, c4, c5] <;> omega
set_option maxHeartbeats 4000000 in
theorem ft_15 {A T : Nat → Q4} {j : Nat} {q r s : Q4} {Q : Nat → Q4} (h0 : Q 0 = q) (h1 : Q 1 = r) (h2 : Q 2 = s) : (fitn 63 Q 3 = none ∧ sn_one A T 15 j 3 q r s = q_z) ∨ (fitn 63 Q 3 = some (eu (eu (eu e0 0 q.2.1) 1 q.2.2.1) 23 r.2.1) ∧ gd (eu (eu (eu e0 0 q.2.1) 1 q.2.2.1) 23 r.2.1) 10 ∧ sn_one A T 15 j 3 q r s = gv (eu (eu (eu e0 0 q.2.1) 1 q.2.2.1) 23 r.2.1) 10) := by
  have g0 : sgn 63 0 = 53 := by decide
  have g1 : sgn 63 1 = 97 := by decide
  have g2 : sgn 63 2 = 98 := by decide
  have g3 : sgn 63 3 = 46 := by decide
  have g4 : sgn 63 4 = 66 := by decide
  have g5 : sgn 63 5 = 120 := by decide
  have g6 : sgn 63 6 = 48 := by decide
  have g7 : sgn 63 7 = 97 := by decide
  have g8 : sgn 63 8 = 66 := by decide
  have g9 : sgn 63 9 = 120 := by decide
  have g10 : sgn 63 10 = 48 := by decide
  have g11 : sgn 63 11 = 98 := by decide
  have g12 : sgn 10 0 = 67 := by decide
  have g13 : sgn 10 1 = 46 := by decide
  have g14 : sgn 10 2 = 46 := by decide
  have g15 : sgn 10 3 = 46 := by decide
  have k0 : kf 53 = 5 := by decide
  have k1 : kf 66 = 11 := by decide
  have k2 : kf 67 = 12 := by decide
  by_cases c0 : q.1 = 5
  rotate_left
  · have d0 : ¬ 5 = q.1 := fun z => c0 z.symm
    exact .inl ⟨by simp [fitn, told, ag, lit, g0, g1, g2, g3, g4, g5, g6, g7, g8, g9, g10, g11, g12, g13, g14, g15, k0, k1, k2, h0, h1, h2, eu, e0, c0, d0] <;> omega, by simp [sn_one, tk, c0, d0] <;> omega⟩
  by_cases c1 : r.1 = 11
  rotate_left
  · have d1 : ¬ 11 = r.1 := fun z => c1 z.symm
    exact .inl ⟨by simp [fitn, told, ag, lit, g0, g1, g2, g3, g4, g5, g6, g7, g8, g9, g10, g11, g12, g13, g14, g15, k0, k1, k2, h0, h1, h2, eu, e0, c0, c1, d1] <;> omega, by simp [sn_one, tk, c0, c1, d1] <;> omega⟩
  by_cases c2 : r.2.2.1 = 0
  rotate_left
  · have d2 : ¬ 0 = r.2.2.1 := fun z => c2 z.symm
    exact .inl ⟨by simp [fitn, told, ag, lit, g0, g1, g2, g3, g4, g5, g6, g7, g8, g9, g10, g11, g12, g13, g14, g15, k0, k1, k2, h0, h1, h2, eu, e0, c0, c1, c2, d2] <;> omega, by simp [sn_one, tk, c0, c1, c2, d2] <;> omega⟩
  by_cases c3 : q.2.1 = r.2.2.2
  rotate_left
  · have d3 : ¬ r.2.2.2 = q.2.1 := fun z => c3 z.symm
    exact .inl ⟨by simp [fitn, told, ag, lit, g0, g1, g2, g3, g4, g5, g6, g7, g8, g9, g10, g11, g12, g13, g14, g15, k0, k1, k2, h0, h1, h2, eu, e0, c0, c1, c2, c3, d3] <;> omega, by simp [sn_one, tk, c0, c1, c2, c3, d3] <;> omega⟩
  by_cases c4 : s.1 = 11
  rotate_left
  · have d4 : ¬ 11 = s.1 := fun z => c4 z.symm
    exact .inl ⟨by simp [fitn, told, ag, lit, g0, g1, g2, g3, g4, g5, g6, g7, g8, g9, g10, g11, g12, g13, g14, g15, k0, k1, k2, h0, h1, h2, eu, e0, c0, c1, c2, c3, c4, d4] <;> omega, by simp [sn_one, tk, c0, c1, c2, c3, c4, d4] <;> omega⟩
  by_cases c5 : r.2.1 = s.2.1
  rotate_left
  · have d5 : ¬ s.2.1 = r.2.1 := fun z => c5 z.symm
    exact .inl ⟨by simp [fitn, told, ag, lit, g0, g1, g2, g3, g4, g5, g6, g7, g8, g9, g10, g11, g12, g13, g14, g15, k0, k1, k2, h0, h1, h2, eu, e0, c0, c1, c2, c3, c4, c5, d5] <;> omega, by simp [sn_one, tk, c0, c1, c2, c3, c4, c5, d5] <;> omega⟩
  by_cases c6 : s.2.2.1 = 0
  rotate_left
  · have d6 : ¬ 0 = s.2.2.1 := fun z => c6 z.symm
    exact .inl ⟨by simp [fitn, told, ag, lit, g0, g1, g2, g3, g4, g5, g6, g7, g8, g9, g10, g11, g12, g13, g14, g15, k0, k1, k2, h0, h1, h2, eu, e0, c0, c1, c2, c3, c4, c5, c6, d6] <;> omega, by simp [sn_one, tk, c0, c1, c2, c3, c4, c5, c6, d6] <;> omega⟩
  by_cases c7 : q.2.2.1 = s.2.2.2
  rotate_left
  · have d7 : ¬ s.2.2.2 = q.2.2.1 := fun z => c7 z.symm
    exact .inl ⟨by simp [fitn, told, ag, lit, g0, g1, g2, g3, g4, g5, g6, g7, g8, g9, g10, g11, g12, g13, g14, g15, k0, k1, k2, h0, h1, h2, eu, e0, c0, c1, c2, c3, c4, c5, c6, c7, d7] <;> omega, by simp [sn_one, tk, c0, c1, c2, c3, c4, c5, c6, c7, d7] <;> omega⟩
  refine .inr ⟨by simp [fitn, told, ag, lit, g0, g1, g2, g3, g4, g5, g6, g7, g8, g9, g10, g11, g12, g13, g14, g15, k0, k1, k2, h0, h1, h2, eu, e0, c0, c1, c2, c3, c4, c5, c6, c7] <;> omega, ?_, ?_⟩
  · simp [gd, df, eu, e0, g0, g1, g2, g3, g4, g5, g6, g7, g8, g9, g10, g11, g12, g13, g14, g15, k0, k1, k2]
  · simp [sn_one, tk, gv, mv, lit, eu, e0, g0, g1, g2, g3, g4, g5, g6, g7, g8, g9, g10, g11, g12, g13, g14, g15, k0, k1, k2, c0, c1, c2, c3, c4, c5, c6, c7] <;> omega
set_option maxHeartbeats 4000000 in
theorem ft_16 {A T : Nat → Q4} {j : Nat} {q r s : Q4} {Q : Nat → Q4} (h0 : Q 0 = q) (h1 : Q 1 = r) : (fitn 65 Q 2 = none ∧ sn_one A T 16 j 2 q r s = q_z) ∨ (fitn 65 Q 2 = some (eu (eu e0 23 q.2.1) 24 q.2.2.1) ∧ gd (eu (eu e0 23 q.2.1) 24 q.2.2.1) 10 ∧ sn_one A T 16 j 2 q r s = gv (eu (eu e0 23 q.2.1) 24 q.2.2.1) 10) := by
  have g0 : sgn 65 0 = 65 := by decide
  have g1 : sgn 65 1 = 120 := by decide
  have g2 : sgn 65 2 = 121 := by decide
  have g3 : sgn 65 3 = 46 := by decide
  have g4 : sgn 65 4 = 66 := by decide
  have g5 : sgn 65 5 = 120 := by decide
  have g6 : sgn 65 6 = 49 := by decide
  have g7 : sgn 65 7 = 121 := by decide
  have g8 : sgn 10 0 = 67 := by decide
  have g9 : sgn 10 1 = 46 := by decide
  have g10 : sgn 10 2 = 46 := by decide
  have g11 : sgn 10 3 = 46 := by decide
  have k0 : kf 65 = 10 := by decide
  have k1 : kf 66 = 11 := by decide
  have k2 : kf 67 = 12 := by decide
  by_cases c0 : q.1 = 10
  rotate_left
  · have d0 : ¬ 10 = q.1 := fun z => c0 z.symm
    exact .inl ⟨by simp [fitn, told, ag, lit, g0, g1, g2, g3, g4, g5, g6, g7, g8, g9, g10, g11, k0, k1, k2, h0, h1, eu, e0, c0, d0] <;> omega, by simp [sn_one, tk, c0, d0] <;> omega⟩
  by_cases c1 : r.1 = 11
  rotate_left
  · have d1 : ¬ 11 = r.1 := fun z => c1 z.symm
    exact .inl ⟨by simp [fitn, told, ag, lit, g0, g1, g2, g3, g4, g5, g6, g7, g8, g9, g10, g11, k0, k1, k2, h0, h1, eu, e0, c0, c1, d1] <;> omega, by simp [sn_one, tk, c0, c1, d1] <;> omega⟩
  by_cases c2 : q.2.1 = r.2.1
  rotate_left
  · have d2 : ¬ r.2.1 = q.2.1 := fun z => c2 z.symm
    exact .inl ⟨by simp [fitn, told, ag, lit, g0, g1, g2, g3, g4, g5, g6, g7, g8, g9, g10, g11, k0, k1, k2, h0, h1, eu, e0, c0, c1, c2, d2] <;> omega, by simp [sn_one, tk, c0, c1, c2, d2] <;> omega⟩
  by_cases c3 : r.2.2.1 = 1
  rotate_left
  · have d3 : ¬ 1 = r.2.2.1 := fun z => c3 z.symm
    exact .inl ⟨by simp [fitn, told, ag, lit, g0, g1, g2, g3, g4, g5, g6, g7, g8, g9, g10, g11, k0, k1, k2, h0, h1, eu, e0, c0, c1, c2, c3, d3] <;> omega, by simp [sn_one, tk, c0, c1, c2, c3, d3] <;> omega⟩
  by_cases c4 : q.2.2.1 = r.2.2.2
  rotate_left
  · have d4 : ¬ r.2.2.2 = q.2.2.1 := fun z => c4 z.symm
    exact .inl ⟨by simp [fitn, told, ag, lit, g0, g1, g2, g3, g4, g5, g6, g7, g8, g9, g10, g11, k0, k1, k2, h0, h1, eu, e0, c0, c1, c2, c3, c4, d4] <;> omega, by simp [sn_one, tk, c0, c1, c2, c3, c4, d4] <;> omega⟩
  refine .inr ⟨by simp [fitn, told, ag, lit, g0, g1, g2, g3, g4, g5, g6, g7, g8, g9, g10, g11, k0, k1, k2, h0, h1, eu, e0, c0, c1, c2, c3, c4] <;> omega, ?_, ?_⟩
  · simp [gd, df, eu, e0, g0, g1, g2, g3, g4, g5, g6, g7, g8, g9, g10, g11, k0, k1, k2]
  · simp [sn_one, tk, gv, mv, lit, eu, e0, g0, g1, g2, g3, g4, g5, g6, g7, g8, g9, g10, g11, k0, k1, k2, c0, c1, c2, c3, c4] <;> omega
set_option maxHeartbeats 4000000 in
theorem ft_17 {A T : Nat → Q4} {j : Nat} {q r s : Q4} {Q : Nat → Q4} (h0 : Q 0 = q) : (fitn 10 Q 1 = none ∧ sn_one A T 17 j 1 q r s = q_z) ∨ (fitn 10 Q 1 = some e0 ∧ sn_one A T 17 j 1 q r s = T j) := by
  have g0 : sgn 10 0 = 67 := by decide
  have g1 : sgn 10 1 = 46 := by decide
  have g2 : sgn 10 2 = 46 := by decide
  have g3 : sgn 10 3 = 46 := by decide
  have k0 : kf 67 = 12 := by decide
  by_cases c0 : q.1 = 12
  rotate_left
  · have d0 : ¬ 12 = q.1 := fun z => c0 z.symm
    exact .inl ⟨by simp [fitn, told, ag, lit, g0, g1, g2, g3, k0, h0, eu, e0, c0, d0] <;> omega, by simp [sn_one, tk, c0, d0] <;> omega⟩
  exact .inr ⟨by simp [fitn, told, ag, lit, g0, g1, g2, g3, k0, h0, eu, e0, c0], by simp [sn_one, tk, c0] <;> omega⟩

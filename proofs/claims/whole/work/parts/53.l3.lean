/-! LOGIC: what a row states, and the reference's working out of it -/
theorem fb_eq0n {a : Nat} {A B : Prop} (ha : a < 2147483648) (t : a = 0 → A) (f : ¬ a = 0 → B) : fx_br (nI a = 0) A B := fb_eq0 ha t (fun h => f (by omega))
def tk (r : Nat) : Nat := if r < 3 then 0 else if r = 12 ∨ r = 17 then 1 else if r = 10 ∨ r = 14 ∨ r = 15 then 3 else 2
theorem k6_takes {post : Int32 → Prop} {r : Nat} (h : r < 18) : wp_X6_takes post (nI r) = post (nI (tk r)) := by
  rcases (show r = 0 ∨ r = 1 ∨ r = 2 ∨ r = 3 ∨ r = 4 ∨ r = 5 ∨ r = 6 ∨ r = 7 ∨ r = 8 ∨ r = 9 ∨ r = 10 ∨ r = 11 ∨ r = 12 ∨ r = 13 ∨ r = 14 ∨ r = 15 ∨ r = 16 ∨ r = 17 by omega) with rfl | rfl | rfl | rfl | rfl | rfl | rfl | rfl | rfl | rfl | rfl | rfl | rfl | rfl | rfl | rfl | rfl | rfl
  all_goals
    unfold wp_X6_takes
    simp (disch := omega) only [↓fb_let, ↓fb_lef, ↓fb_eqt, ↓fb_eqf]
    rfl
theorem tk_3 (r : Nat) : tk r ≤ 3 := by
  unfold tk
  split
  · omega
  split
  · omega
  split <;> omega
/-- one row's statement, by its rule and what its premises state -/
def sn_one (A T : Nat → Q4) (ru j c : Nat) (q r s : Q4) : Q4 :=
  if c = tk ru then
    match ru with
    | 0 => A j
    | 1 => T j
    | 2 => (1, j, j, 0)
    | 3 => if q.1 = 1 ∧ r.1 = 1 ∧ q.2.2.1 = r.2.1 then (1, q.2.1, r.2.2.1, 0) else q_z
    | 4 => if q.1 = 2 ∧ r.1 = 2 ∧ q.2.2.1 = r.2.1 then (2, q.2.1, r.2.2.1, 0) else q_z
    | 5 => if q.1 = 1 ∧ r.1 = 11 ∧ r.2.2.1 = 0 ∧ r.2.2.2 = q.2.1 then (11, r.2.1, 0, q.2.2.1) else q_z
    | 6 => if q.1 = 2 ∧ r.1 = 11 ∧ r.2.2.1 = q.2.1 then (11, r.2.1, q.2.2.1, r.2.2.2) else q_z
    | 7 => if q.1 = 3 ∧ r.1 = 11 ∧ r.2.2.1 = q.2.1 then (11, r.2.1, 0, q.2.2.1) else q_z
    | 8 => if q.1 = 4 ∧ r.1 = 11 ∧ r.2.2.1 = q.2.1 then (11, r.2.2.2, 0, q.2.2.1) else q_z
    | 9 => if q.1 = 7 ∧ r.1 = 11 ∧ r.2.2.1 = q.2.1 then (11, r.2.2.2, r.2.2.1, r.2.1) else q_z
    | 10 => if q.1 = 6 ∧ r.1 = 11 ∧ s.1 = 11 ∧ r.2.2.1 = q.2.1 ∧ s.2.2.1 = q.2.1 ∧ r.2.2.2 = s.2.1 then (11, r.2.1, r.2.2.1, s.2.2.2) else q_z
    | 11 => if q.1 = 8 ∧ r.1 = 11 ∧ r.2.2.1 = q.2.1 then (11, r.2.2.2, q.2.2.1, r.2.1) else q_z
    | 12 => if q.1 = 11 ∧ q.2.2.1 = 1 then (11, q.2.2.2, 1, q.2.1) else q_z
    | 13 => if q.1 = 11 ∧ q.2.2.1 = 1 ∧ r.1 = 11 ∧ r.2.1 = q.2.1 then (11, q.2.2.2, r.2.2.1, r.2.2.2) else q_z
    | 14 => if q.1 = 9 ∧ r.1 = 11 ∧ s.1 = 11 ∧ r.2.2.1 = q.2.1 ∧ s.2.2.1 = q.2.1 ∧ r.2.1 = s.2.1 then (11, r.2.2.2, 1, s.2.2.2) else q_z
    | 15 => if q.1 = 5 ∧ r.1 = 11 ∧ s.1 = 11 ∧ r.2.2.1 = 0 ∧ s.2.2.1 = 0 ∧ r.2.2.2 = q.2.1 ∧ s.2.2.2 = q.2.2.1 ∧ r.2.1 = s.2.1 then (12, 0, 0, 0) else q_z
    | 16 => if q.1 = 10 ∧ r.1 = 11 ∧ r.2.2.1 = 1 ∧ r.2.1 = q.2.1 ∧ r.2.2.2 = q.2.2.1 then (12, 0, 0, 0) else q_z
    | 17 => if q.1 = 12 then T j else q_z
    | _ => q_z
  else q_z
theorem k6_state {post : (Nat → Int32) → Prop} {F : Nat → Int32} {k : Nat} {a b c d : Int32} (hk : k ≤ 300) : wp_X6_state post F (nI k) a b c d = post (u4 F k a b c d) := by
  unfold wp_X6_state
  simp (disch := omega) only [↓fx_nm_add, ↓fx_nm_mul, ↓fx_nm_up, ↓fx_ix_n]
  rfl
theorem k6_of {post : Int32 → Prop} {prem F : Nat → Int32} {k i w p : Nat} (hk : k ≤ 300) (hi : i < 3) (hp : prem (3 * k + i) = nI p) (p3 : p ≤ 300) (hw : w < 4) : wp_X6_of post prem F (nI k) (nI i) (nI w) = post (F (4 * p + w)) := by
  unfold wp_X6_of
  simp (disch := omega) only [↓fx_nm_add, ↓fx_nm_mul, ↓fx_nm_rd, ↓fx_ix_n]
  rw [hp]
  simp (disch := omega) only [↓fx_nm_add, ↓fx_nm_mul, ↓fx_nm_rd, ↓fx_ix_n]
theorem k6_is {post : Int32 → Prop} {prem F : Nat → Int32} {k i p : Nat} {x : Int32} {q : Q4} (hk : k ≤ 300) (hi : i < 3) (hp : prem (3 * k + i) = nI p) (p3 : p ≤ 300) (hq : r4 F p q) : wp_X6_is post prem F (nI k) (nI i) x = fx_br (nI q.1 = x) (post (nI 1)) (post (nI 0)) := by
  unfold wp_X6_is
  rw [k6_of hk hi hp p3 (by decide)]
  rw [Nat.add_zero, hq.1]
theorem k6_kind {post : Int32 → Prop} {F : Nat → Int32} {k : Nat} {q : Q4} (hk : k ≤ 300) (hq : r4 F k q) : wp_X6_kindOf post F (nI k) = post (nI q.1) := by
  unfold wp_X6_kindOf
  simp (disch := omega) only [↓fx_nm_mul, ↓fx_nm_rd, ↓fx_ix_n]
  rw [hq.1]
theorem k6_copy_t {post : (Nat → Int32) → Prop} {FT F : Nat → Int32} {k j : Nat} {q : Q4} (hk : k ≤ 300) (hj : j ≤ 100) (hq : r4 FT j q) : wp_X6_copy_t post FT F (nI j) (nI k) = post (u4 F k (nI q.1) (nI q.2.1) (nI q.2.2.1) (nI q.2.2.2)) := by
  unfold wp_X6_copy_t
  simp (disch := omega) only [↓fx_nm_add, ↓fx_nm_mul, ↓fx_nm_rd, ↓fx_ix_n, ↓k6_state]
  rw [hq.1, hq.2.1, hq.2.2.1, hq.2.2.2]
theorem k6_copy_a {post : (Nat → Int32) → Prop} {FT F : Nat → Int32} {k j : Nat} {q : Q4} (hk : k ≤ 300) (hj : j ≤ 100) (hq : r4 FT j q) : wp_X6_copy_a post FT F (nI j) (nI k) = post (u4 F k (nI q.1) (nI q.2.1) (nI q.2.2.1) (nI q.2.2.2)) := k6_copy_t hk hj hq

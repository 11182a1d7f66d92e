/-! LOGIC: what stays when rows are dropped -/
/-- rows one after the other get new places: the values as they stand after the first x -/
def ks {α : Type} (f : Nat → Bool) (a b : Nat → α) : Nat → Nat → α
  | 0 => a
  | x + 1 => if f (x + 1) = true then uf (ks f a b x) (nc f (x + 1)) (b (x + 1)) else ks f a b x
theorem ks_t {α : Type} {f : Nat → Bool} {a b : Nat → α} {x : Nat} (h : f (x + 1) = true) : ks f a b (x + 1) = uf (ks f a b x) (nc f (x + 1)) (b (x + 1)) := by
  rw [ks, if_pos h]
theorem ks_f {α : Type} {f : Nat → Bool} {a b : Nat → α} {x : Nat} (h : f (x + 1) = false) : ks f a b (x + 1) = ks f a b x := by
  rw [ks, if_neg (by rw [h]; decide)]
theorem nc_t {f : Nat → Bool} {x : Nat} (h : f (x + 1) = true) : nc f (x + 1) = nc f x + 1 := by
  show nc f x + bn (f (x + 1)) = _
  rw [h]
  rfl
theorem nc_f {f : Nat → Bool} {x : Nat} (h : f (x + 1) = false) : nc f (x + 1) = nc f x := by
  show nc f x + bn (f (x + 1)) = _
  rw [h]
  rfl
theorem nc_mono (f : Nat → Bool) (x d : Nat) : nc f x ≤ nc f (x + d) := by
  induction d with
  | zero => exact Nat.le_refl _
  | succ d ih => exact Nat.le_trans ih (Nat.le_add_right _ _)
theorem nc_lt {f : Nat → Bool} {p k : Nat} (hk : f k = true) (h : p < k) : nc f p < nc f k := by
  obtain ⟨y, rfl⟩ : ∃ y, k = y + 1 := ⟨k - 1, by omega⟩
  have := nc_mono f p (y - p)
  rw [show p + (y - p) = y by omega] at this
  rw [nc_t hk]
  omega
theorem nc_pos {f : Nat → Bool} {k : Nat} (k1 : 1 ≤ k) (hk : f k = true) : 1 ≤ nc f k := by
  have := nc_lt hk (show 0 < k by omega)
  omega
/-- at a kept row's new place stands what the row had -/
theorem ks_at {α : Type} {f : Nat → Bool} {a b : Nat → α} {j : Nat} (j1 : 1 ≤ j) (hj : f j = true) : ∀ x, j ≤ x → ks f a b x (nc f j) = b j := by
  intro x
  induction x with
  | zero => exact fun h => absurd h (by omega)
  | succ x ih =>
    intro h
    by_cases e : j = x + 1
    · subst e
      rw [ks_t hj, uf_s]
    · cases hx : f (x + 1) with
      | true =>
        have := nc_lt hx (show j < x + 1 by omega)
        rw [ks_t hx, uf_n (by omega)]
        exact ih (by omega)
      | false =>
        rw [ks_f hx]
        exact ih (by omega)
/-- every new place is some kept row's -/
theorem nc_at {f : Nat → Bool} {g : Nat} (g1 : 1 ≤ g) : ∀ x, g ≤ nc f x → ∃ j, 1 ≤ j ∧ j ≤ x ∧ f j = true ∧ nc f j = g := by
  intro x
  induction x with
  | zero =>
    intro h
    have : nc f 0 = 0 := rfl
    omega
  | succ x ih =>
    intro h
    cases hx : f (x + 1) with
    | true =>
      by_cases e : g ≤ nc f x
      · obtain ⟨j, a, b, c, d⟩ := ih e
        exact ⟨j, a, by omega, c, d⟩
      · refine ⟨x + 1, by omega, Nat.le_refl _, hx, ?_⟩
        rw [nc_t hx] at h ⊢
        omega
    | false =>
      rw [nc_f hx] at h
      obtain ⟨j, a, b, c, d⟩ := ih h
      exact ⟨j, a, by omega, c, d⟩
/-- the new rows -/
def kr (f : Nat → Bool) (x : Nat) (ru : Nat → Nat) : Nat → Nat := ks f ru ru x
def kp (f : Nat → Bool) (x : Nat) (pr : Nat → Nat → Nat) : Nat → Nat → Nat := ks f pr (fun k i => nc f (pr k i)) x
theorem kp_at {f : Nat → Bool} {pr : Nat → Nat → Nat} {x j i : Nat} (j1 : 1 ≤ j) (hj : f j = true) (h : j ≤ x) : kp f x pr (nc f j) i = nc f (pr j i) := by
  rw [kp, ks_at j1 hj x h]
theorem wf_dr {f : Nat → Bool} {ru : Nat → Nat} {ins : Nat → Int32} {cn : Nat → Nat} {pr : Nat → Nat → Nat} {na nt n r : Nat} (hr : r ≤ n) (hwf : wf na nt ru ins cn pr n) (hcl : ∀ j i, 1 ≤ j → j ≤ r → f j = true → i < cn j → f (pr j i) = true) : wf na nt (kr f r ru) (ks f ins ins r) (kr f r cn) (kp f r pr) (nc f r) := by
  intro g g1 g2
  obtain ⟨j, j1, j2, hj, rfl⟩ := nc_at g1 r g2
  obtain ⟨w1, w2, w3, w4⟩ := hwf j j1 (by omega)
  rw [kr, ks_at j1 hj r j2, kr, ks_at j1 hj r j2, ks_at j1 hj r j2]
  refine ⟨w1, w2, fun i hi => ?_, w4⟩
  obtain ⟨p1, p2⟩ := w3 i hi
  rw [kp_at j1 hj j2]
  exact ⟨nc_pos p1 (hcl j i j1 j2 hj hi), nc_lt hj p2⟩
theorem stt_dr {A T S : Nat → Q4} {f : Nat → Bool} {ru : Nat → Nat} {ins : Nat → Int32} {cn : Nat → Nat} {pr : Nat → Nat → Nat} {n r : Nat} (hr : r ≤ n) (hp : ∀ k, 1 ≤ k → k ≤ n → ∀ i, i < cn k → 1 ≤ pr k i ∧ pr k i < k) (hS : stt A T S ru ins cn pr n) (hcl : ∀ j i, 1 ≤ j → j ≤ r → f j = true → i < cn j → f (pr j i) = true) : stt A T (ks f S S r) (kr f r ru) (ks f ins ins r) (kr f r cn) (kp f r pr) (nc f r) := by
  intro g g1 g2
  obtain ⟨j, j1, j2, hj, rfl⟩ := nc_at g1 r g2
  have hq : ∀ i, sq (ks f S S r) (kr f r cn) (kp f r pr) (nc f j) i = sq S cn pr j i := by
    intro i
    unfold sq
    rw [kr, ks_at j1 hj r j2]
    split
    · rename_i hi
      obtain ⟨p1, p2⟩ := hp j j1 (by omega) i hi
      rw [kp_at j1 hj j2, ks_at p1 (hcl j i j1 j2 hj hi) r (by omega)]
    · rfl
  rw [ks_at j1 hj r j2, hS j j1 (by omega), so, so, hq, hq, hq, kr, ks_at j1 hj r j2, kr, ks_at j1 hj r j2, ks_at j1 hj r j2]

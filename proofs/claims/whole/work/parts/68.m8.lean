/-! LOGIC: drop, the loops -/
theorem nc_le' (f : Nat → Bool) (x : Nat) : nc f x ≤ x := nc_le f x
def di (R I C P : Nat → Int32) (f : Nat → Bool) (ru : Nat → Nat) (ins : Nat → Int32) (cn : Nat → Nat) (pr : Nat → Nat → Nat) (x n : Nat) : Prop :=
  rr R I C P (kr f x ru) (ks f ins ins x) (kr f x cn) (kp f x pr) (nc f x) ∧ ∀ k, x < k → k ≤ n → R k = nI (ru k) ∧ I k = ins k ∧ C k = nI (cn k) ∧ ∀ i, i < cn k → P (3 * k + i) = nI (pr k i)
theorem di_f {R I C P : Nat → Int32} {f : Nat → Bool} {ru : Nat → Nat} {ins : Nat → Int32} {cn : Nat → Nat} {pr : Nat → Nat → Nat} {x n : Nat} (hf : f (x + 1) = false) (h : di R I C P f ru ins cn pr x n) : di R I C P f ru ins cn pr (x + 1) n := by
  obtain ⟨h1, h2⟩ := h
  refine ⟨?_, fun k k1 k2 => h2 k (by omega) k2⟩
  rw [kr, kr, kp, ks_f hf, ks_f hf, ks_f hf, ks_f hf, nc_f hf]
  exact h1
theorem di_t {R I C P P' : Nat → Int32} {f : Nat → Bool} {ru : Nat → Nat} {ins : Nat → Int32} {cn : Nat → Nat} {pr : Nat → Nat → Nat} {x n : Nat} (hf : f (x + 1) = true) (hc3 : ∀ k, 1 ≤ k → k ≤ n → cn k ≤ 3) (hx : x + 1 ≤ n) (h : di R I C P f ru ins cn pr x n)
    (hP : ∀ i, i < cn (x + 1) → P' (3 * (nc f x + 1) + i) = nI (nc f (pr (x + 1) i))) (hP' : ∀ j, j < 3 * (nc f x + 1) ∨ 3 * (nc f x + 1) + cn (x + 1) ≤ j → P' j = P j) :
    di (upd R (nc f x + 1) (nI (ru (x + 1)))) (upd I (nc f x + 1) (ins (x + 1))) (upd C (nc f x + 1) (nI (cn (x + 1)))) P' f ru ins cn pr (x + 1) n := by
  obtain ⟨h1, h2⟩ := h
  have hle := nc_le f x
  have c3 := hc3 (x + 1) (by omega) hx
  refine ⟨?_, fun k k1 k2 => ?_⟩
  · rw [kr, kr, kp, ks_t hf, ks_t hf, ks_t hf, ks_t hf, nc_t hf]
    intro g g1 g2
    by_cases e : g = nc f x + 1
    · subst e
      simp only [uf_s]
      exact ⟨pk_us, pk_us, pk_us, hP⟩
    · obtain ⟨a, b, c, d⟩ := h1 g g1 (by omega)
      obtain ⟨j, j1, j2, hj, hg⟩ := nc_at g1 x (show g ≤ nc f x by omega)
      have hcg : ks f cn cn x g = cn j := by rw [← hg]; exact ks_at j1 hj x j2
      have := hc3 j j1 (by omega)
      rw [uf_n e, uf_n e, uf_n e, uf_n e, pk_un e, pk_un e, pk_un e]
      exact ⟨a, b, c, fun i hi => by rw [hP' _ (.inl (by omega))]; exact d i hi⟩
  · obtain ⟨a, b, c, d⟩ := h2 k (by omega) k2
    have e : k ≠ nc f x + 1 := by omega
    rw [pk_un e, pk_un e, pk_un e]
    exact ⟨a, b, c, fun i hi => by rw [hP' _ (.inr (by omega))]; exact d i hi⟩
theorem di_0 {R I C P : Nat → Int32} {f : Nat → Bool} {ru : Nat → Nat} {ins : Nat → Int32} {cn : Nat → Nat} {pr : Nat → Nat → Nat} {n : Nat} (h : rr R I C P ru ins cn pr n) : di R I C P f ru ins cn pr 0 n :=
  ⟨fun k k1 k2 => absurd k2 (by show ¬ k ≤ 0; omega), fun k k1 k2 => h k k1 k2⟩
/-- the new numbers of the rows that stay -/
def zp (Z : Nat → Int32) (f : Nat → Bool) (x : Nat) : Prop := ∀ j, 1 ≤ j → j ≤ x → f j = true → Z j = nI (nc f j)
theorem zp_f {Z : Nat → Int32} {f : Nat → Bool} {x : Nat} (hf : f (x + 1) = false) (h : zp Z f x) : zp Z f (x + 1) := by
  intro j j1 j2 hj
  by_cases e : j = x + 1
  · rw [e, hf] at hj
    exact absurd hj (by decide)
  · exact h j j1 (by omega) hj
theorem zp_t {Z : Nat → Int32} {f : Nat → Bool} {x : Nat} (hf : f (x + 1) = true) (h : zp Z f x) : zp (upd Z (x + 1) (nI (nc f x + 1))) f (x + 1) := by
  intro j j1 j2 hj
  by_cases e : j = x + 1
  · rw [e, pk_us, nc_t hf]
  · rw [pk_un e]
    exact h j j1 (by omega) hj

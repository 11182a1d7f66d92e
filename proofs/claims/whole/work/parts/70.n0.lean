/-! LOGIC: drop of the class -/
def ds (K N : Nat → Int32) (f : Nat → Bool) (S : Nat → Q4) (x n : Nat) : Prop := a3 K N (ks f S S x) (nc f x) ∧ ∀ k, x < k → k ≤ n → r3 K N k (S k)
theorem ds_f {K N : Nat → Int32} {f : Nat → Bool} {S : Nat → Q4} {x n : Nat} (hf : f (x + 1) = false) (h : ds K N f S x n) : ds K N f S (x + 1) n := by
  obtain ⟨h1, h2⟩ := h
  refine ⟨?_, fun k k1 k2 => h2 k (by omega) k2⟩
  rw [ks_f hf, nc_f hf]
  exact h1
theorem ds_t {K N K' N' : Nat → Int32} {f : Nat → Bool} {S : Nat → Q4} {x n : Nat} (hf : f (x + 1) = true) (h : ds K N f S x n) (hw : w3 K N K' N' (nc f x + 1) (S (x + 1))) : ds K' N' f S (x + 1) n := by
  obtain ⟨h1, h2⟩ := h
  have hle := nc_le f x
  refine ⟨fun g g1 g2 => ?_, fun k k1 k2 => hw.2 k (by omega) _ (h2 k (by omega) k2)⟩
  rw [nc_t hf] at g2
  rw [ks_t hf, nc_t hf]
  by_cases e : g = nc f x + 1
  · rw [e, uf_s]
    exact hw.1
  · rw [uf_n e]
    exact hw.2 g e _ (h1 g g1 (by omega))
theorem sp4_put_s {post : (Nat → Int32) → (Nat → Int32) → Prop} {K N : Nat → Int32} {k j : Nat} {q : Q4} (h1 : 1 ≤ k) (h2 : k ≤ 300) (j1 : 1 ≤ j) (j2 : j ≤ 300) (hq : r3 K N j q)
    (h : post (upd K k (nI q.1)) (u3 N k (nI q.2.1) (nI q.2.2.1) (nI q.2.2.2))) : wp_X4_put_s post 301 903 K N (nI k) (nI j) := by
  obtain ⟨q1, q2, q3, q4⟩ := hq
  unfold wp_X4_put_s
  rw [k4_kind j1 (by omega) (by omega), k4_number1 j1 (by omega) (by omega) (by omega), k4_number2 j1 (by omega) (by omega) (by omega), k4_number3 j1 (by omega) (by omega) (by omega), q1, q2, q3, q4]
  exact sp4_put_ h1 (by omega) (by omega) (by omega) h
theorem sp_move {post : (Nat → Int32) → (Nat → Int32) → (Nat → Int32) → (Nat → Int32) → Prop} {R I C P Z : Nat → Int32} {n k t c : Nat} {p : Nat → Nat} {g : Nat → Nat} (hn : n ≤ 300) (k1 : 1 ≤ k) (k2 : k ≤ n) (t1 : 1 ≤ t) (t2 : t ≤ k) (hC : C k = nI c) (hc : c ≤ 3)
    (hP : ∀ i, i < c → P (3 * k + i) = nI (p i) ∧ p i ≤ 300 ∧ Z (p i) = nI (g i))
    (h : ∀ P', (∀ i, i < c → P' (3 * t + i) = nI (g i)) → (∀ j, j < 3 * t ∨ 3 * t + c ≤ j → P' j = P j) → post (upd R t (R k)) (upd I t (I k)) (upd C t (nI c)) P') : wp_X2_move post 301 (nI n) R I C P Z (nI k) (nI t) := by
  unfold wp_X2_move
  rw [k2_has k1 k2 hn, fb_eq0f (by decide) (by decide), k2_has t1 (by omega) hn, fb_eq0f (by decide) (by decide), k2_count k1 k2 hn hC]
  refine wh2_up c (fun i P' => (∀ i', i' < i → P' (3 * t + i') = nI (g i')) ∧ ∀ j, j < 3 * t ∨ 3 * t + i ≤ j → P' j = P j) (fun rec2 i P' hi hI hrec2 => ?_) 0 P (by omega) ⟨fun i' h' => absurd h' (by omega), fun j _ => rfl⟩
  obtain ⟨i1, i2⟩ := hI
  refine fb_le (by omega) (by omega) (fun hl => ?_) (fun hl => ?_)
  · have hi' : i = c := by omega
    subst hi'
    simp (disch := omega) only [↓fx_ix_n, ↓fx_nm_rd, ↓fx_nm_up]
    exact h P' i1 i2
  · obtain ⟨p1, p2, p3⟩ := hP i hl
    rw [fx_nm_mul, fx_nm_add, fx_ix_n (by omega) (by omega), fx_nm_rd, Nat.mul_comm k 3, i2 _ (.inr (by omega)), p1, fj1, fb_lt0 (by omega), fb_lef (by omega) (by omega), fx_nm_mul, fx_nm_add, fb_eq0f (by decide) (by decide), fx_ix_n (by omega) (by omega), fx_nm_rd, p3, fx_ix_n (by omega) (by omega), fx_nm_up, fx_nm_add, Nat.mul_comm t 3]
    refine hrec2 _ hl ⟨fun i' h' => ?_, fun j hj => ?_⟩
    · by_cases z : i' = i
      · rw [z, pk_us]
      · rw [pk_un (by omega)]
        exact i1 i' (by omega)
    · rw [pk_un (by omega)]
      exact i2 j (by omega)

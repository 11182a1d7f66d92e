/-! LOGIC: drop of the class -/
def ds (K N : Nat → Int32) (f : Nat → Bool) (S : Nat → Q4) (x n : Nat) : Prop := a3 K N (ks f S S x) (nc f x) ∧ ∀ k, x < k → k ≤ n → r3 K N k (S k)
theorem ds_f {K N : Nat → Int32} {f : Nat → Bool} {S : Nat → Q4} {x n : Nat} (hf : f (x + 1) = false) (h : ds K N f S x n) : ds K N f S (x + 1) n := by
  obtain ⟨h1, h2⟩ := h
  refine ⟨?_, fun k k1 k2 => h2 k (by omega) k2⟩
  rw [ks_f hf, nc_f hf]
  exact h1
theorem ds_t {K N K' N' : Nat → Int32} {f : Nat → Bool} {S : Nat → Q4} {x n : Nat} (hf : f (x + 1) = true) (h : ds K N f S x n) (hw : w3 K N K' N' (nc f x + 1) (S (x + 1))) : ds K' N' f S (x + 1) n := by
  obtain ⟨h1, h2⟩ := h
  have hle := nc_le f x
  refine ⟨fun g g1 g2 => ?_, fun k k1 k2 => hw.2 k (by omega) _ (h2 k (by omega) k2)⟩
  rw [nc_t hf] at g2
  rw [ks_t hf, nc_t hf]
  by_cases e : g = nc f x + 1
  · rw [e, uf_s]
    exact hw.1
  · rw [uf_n e]
    exact hw.2 g e _ (h1 g g1 (by omega))
theorem sp4_put_s {post : (Nat → Int32) → (Nat → Int32) → Prop} {K N : Nat → Int32} {k j : Nat} {q : Q4} (h1 : 1 ≤ k) (h2 : k ≤ 300) (j1 : 1 ≤ j) (j2 : j ≤ 300) (hq : r3 K N j q)
    (h : post (upd K k (nI q.1)) (u3 N k (nI q.2.1) (nI q.2.2.1) (nI q.2.2.2))) : wp_X4_put_s post 301 903 K N (nI k) (nI j) := by
  obtain ⟨q1, q2, q3, q4⟩ := hq
  unfold wp_X4_put_s
  rw [k4_kind j1 (by omega) (by omega), k4_number1 j1 (by omega) (by omega) (by omega), k4_number2 j1 (by omega) (by omega) (by omega), k4_number3 j1 (by omega) (by omega) (by omega), q1, q2, q3, q4]
  exact sp4_put_ h1 (by omega) (by omega) (by omega) h
theorem sp_move {post : (Nat → Int32) → (Nat → Int32) → (Nat → Int32) → (Nat → Int32) → Prop} {R I C P Z : Nat → Int32} {n k t c : Nat} {p : Nat → Nat} {g : Nat → Nat} (hn : n ≤ 300) (k1 : 1 ≤ k) (k2 : k ≤ n) (t1 : 1 ≤ t) (t2 : t ≤ k) (hC : C k = nI c) (hc : c ≤ 3)
    (hP : ∀ i, i < c → P (3 * k + i) = nI (p i) ∧ p i ≤ 300 ∧ Z (p i) = nI (g i))
    (h : ∀ P', (∀ i, i < c → P' (3 * t + i) = nI (g i)) → (∀ j, j < 3 * t ∨ 3 * t + c ≤ j → P' j = P j) → post (upd R t (R k)) (upd I t (I k)) (upd C t (nI c)) P') : wp_X2_move post 301 (nI n) R I C P Z (nI k) (nI t) := by
  unfold wp_X2_move
  rw [k2_has k1 k2 hn, fb_eq0f (by decide) (by decide), k2_has t1 (by omega) hn, fb_eq0f (by decide) (by decide), k2_count k1 k2 hn hC]
  refine wh2_up c (fun i P' => (∀ i', i' < i → P' (3 * t + i') = nI (g i')) ∧ ∀ j, j < 3 * t ∨ 3 * t + i ≤ j → P' j = P j) (fun rec2 i P' hi hI hrec2 => ?_) 0 P (by omega) ⟨fun i' h' => absurd h' (by omega), fun j _ => rfl⟩
  obtain ⟨i1, i2⟩ := hI
  refine fb_le (by omega) (by omega) (fun hl => ?_) (fun hl => ?_)
  · have hi' : i = c := by omega
    subst hi'
    simp (disch := omega) only [↓fx_ix_n, ↓fx_nm_rd, ↓fx_nm_up]
    exact h P' i1 i2
  · obtain ⟨p1, p2, p3⟩ := hP i hl
    rw [fx_nm_mul, fx_nm_add, fx_ix_n (by omega) (by omega), fx_nm_rd, Nat.mul_comm k 3, i2 _ (.inr (by omega)), p1, fj1, fb_lt0 (by omega), fb_lef (by omega) (by omega)]
    simp only []
    rw [fx_nm_mul, fx_nm_add, fb_eq0f (by decide) (by decide), fx_ix_n (by omega) (by omega), fx_nm_rd, p3, fx_ix_n (by omega) (by omega), fx_nm_up, fx_nm_add, Nat.mul_comm t 3]
    refine hrec2 _ hl ⟨fun i' h' => ?_, fun j hj => ?_⟩
    · by_cases z : i' = i
      · rw [z, pk_us]
      · rw [pk_un (by omega)]
        exact i1 i' (by omega)
    · rw [pk_un (by omega)]
      exact i2 j (by omega)
set_option maxHeartbeats 1000000 in
theorem sp_drop5 {post : Int32 → Int32 → Int32 → (Nat → Int32) → (Nat → Int32) → (Nat → Int32) → (Nat → Int32) → (Nat → Int32) → (Nat → Int32) → (Nat → Int32) → (Nat → Int32) → Prop} {R I C P K N Y Z : Nat → Int32} {S : Nat → Q4} {ru : Nat → Nat} {ins : Nat → Int32} {cn : Nat → Nat} {pr : Nat → Nat → Nat} {na nt n : Nat} {bk a : Int32} (hn : n ≤ 300) (hrr : rr R I C P ru ins cn pr n) (hwf : wf na nt ru ins cn pr n) (hK : a3 K N S n)
    (no : (¬ ∃ r, 1 ≤ r ∧ r ≤ n ∧ a = nI r) → post (-1) bk (nI n) R I C P K N Y Z)
    (ok : ∀ r, 1 ≤ r → r ≤ n → a = nI r → ∀ R' I' C' P' K' N' Y' Z', rr R' I' C' P' (kr (md cn pr r r) r ru) (ks (md cn pr r r) ins ins r) (kr (md cn pr r r) r cn) (kp (md cn pr r r) r pr) (nc (md cn pr r r) r) → a3 K' N' (ks (md cn pr r r) S S r) (nc (md cn pr r r) r) → post (nI (nc (md cn pr r r) r)) (nI 0) (nI (nc (md cn pr r r) r)) R' I' C' P' K' N' Y' Z') : wp_X5_drop post bk (nI n) R I C P K N Y Z a := by
  have hc3 : ∀ k, 1 ≤ k → k ≤ n → cn k ≤ 3 := fun k k1 k2 => Nat.le_trans (hwf k k1 k2).2.1 (tk_3 _)
  unfold wp_X5_drop
  refine sp2_has hn (fun r r1 r2 hr => ?_) (fun z => ?_)
  rotate_left
  · rw [fb_eq0t rfl]
    exact no z
  rw [fb_eq0f (by decide) (by decide)]
  have ok' := ok r r1 r2 hr
  clear ok no
  subst hr
  have hp : ∀ k, 1 ≤ k → k ≤ r → ∀ i, i < cn k → 1 ≤ pr k i ∧ pr k i < k := fun k k1 k2 => (hwf k k1 (by omega)).2.2.1
  have hcl : ∀ j i, 1 ≤ j → j ≤ r → md cn pr r r j = true → i < cn j → md cn pr r r (pr j i) = true := fun j i j1 j2 hj hi => md_cl hp j1 j2 hj hi
  refine sp_mark5 hn r1 r2 hrr hwf (fun Y' hY => ?_)
  generalize md cn pr r r = f at *
  refine wh9_up (r + 1) (fun x c R I C P K N Z => 1 ≤ x ∧ c = nI (nc f (x - 1)) ∧ di R I C P f ru ins cn pr (x - 1) n ∧ ds K N f S (x - 1) n ∧ zp Z f (x - 1)) (fun rec x c R I C P K N Z hx hI hrec => ?_) 1 (nI 0) R I C P K N Z (by omega) ⟨by omega, rfl, di_0 hrr, ⟨fun g g1 g2 => absurd g2 (by show ¬ g ≤ 0; omega), fun k k1 k2 => hK k k1 k2⟩, fun j j1 j2 => absurd j1 (by omega)⟩
  obtain ⟨x1, rfl, hD, hE, hZ⟩ := hI
  have hle := nc_le f (x - 1)
  refine fb_lt (by omega) (by omega) (fun hl => ?_) (fun hl => ?_)
  · rw [show x - 1 = r by omega] at hD hE hle ⊢
    unfold wp_X2_keepOnly
    have e1 : (if nI n < nI (nc f r) then nI n else nI (nc f r)) = nI (nc f r) := if_neg (nI_nlt (by omega) (by omega))
    have e2 : (if nI 0 < nI (nc f r) then nI (nc f r) else nI 0) = nI (nc f r) := by
      by_cases z : nc f r = 0
      · rw [z]
        exact if_neg (by decide)
      · exact if_pos (nI_lt (by omega) (by omega))
    rw [fx_nm_eq, e1, fx_nm_eq, e2]
    exact ok' R I C P K N Y' Z hD.1 hE.1
  obtain ⟨y, rfl⟩ : ∃ y, x = y + 1 := ⟨x - 1, by omega⟩
  rw [Nat.add_sub_cancel] at hD hE hZ hle ⊢
  rw [fx_ix_n (by omega) (by omega), fx_nm_rd, hY (y + 1) x1 (by omega)]
  cases hf : f (y + 1) with
  | false =>
    rw [fb_eq0t (a := bn false) rfl, fx_nm_add]
    exact hrec _ _ _ _ _ _ _ _ (by omega) ⟨by omega, by rw [Nat.add_sub_cancel, nc_f hf], by rw [Nat.add_sub_cancel]; exact di_f hf hD, by rw [Nat.add_sub_cancel]; exact ds_f hf hE, by rw [Nat.add_sub_cancel]; exact zp_f hf hZ⟩
  | true =>
    obtain ⟨g1, g2, g3, g4⟩ := hD.2 (y + 1) (by omega) (by omega)
    have c3 := hc3 (y + 1) x1 (by omega)
    have hZ' := zp_t hf hZ
    rw [fb_eq0f (by decide) (by decide), fx_nm_add, fx_ix_n (by omega) (by omega), fx_nm_up]
    generalize upd Z (y + 1) (nI (nc f y + 1)) = Z1 at hZ' ⊢
    refine sp_move (p := pr (y + 1)) (g := fun i => nc f (pr (y + 1) i)) hn x1 (by omega) (by omega) (by omega) g3 c3 (fun i hi => ?_) (fun P' q1 q2 => ?_)
    · obtain ⟨p1, p2⟩ := hp (y + 1) x1 (by omega) i hi
      exact ⟨g4 i hi, by omega, hZ' _ p1 (by omega) (hcl (y + 1) i x1 (by omega) hf hi)⟩
    rw [g1, g2]
    refine sp4_put_s (q := S (y + 1)) (by omega) (by omega) x1 (by omega) (hE.2 (y + 1) (by omega) (by omega)) ?_
    rw [fx_nm_add]
    refine hrec _ _ _ _ _ _ _ _ (by omega) ⟨by omega, by rw [Nat.add_sub_cancel, nc_t hf], ?_, ?_, by rw [Nat.add_sub_cancel]; exact hZ'⟩
    · rw [Nat.add_sub_cancel]
      exact di_t hf hc3 (by omega) hD q1 q2
    · rw [Nat.add_sub_cancel]
      exact ds_t hf hE w3_set

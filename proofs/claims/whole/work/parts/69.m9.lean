/-! LOGIC: drop of the reference -/
theorem md_out {cn : Nat → Nat} {pr : Nat → Nat → Nat} {r j : Nat} (hp : ∀ k, 1 ≤ k → k ≤ r → ∀ i, i < cn k → 1 ≤ pr k i ∧ pr k i < k) (hj : r < j) : ∀ d, d ≤ r → md cn pr r d j = false := by
  intro d
  induction d with
  | zero =>
    intro _
    show (j == r) = false
    simp
    omega
  | succ d ih =>
    intro h
    show (md cn pr r d j || (md cn pr r d (r - d) && (List.range (cn (r - d))).any (fun i => pr (r - d) i == j))) = false
    have : (List.range (cn (r - d))).any (fun i => pr (r - d) i == j) = false := by
      rw [List.any_eq_false]
      intro i hi
      have := hp (r - d) (by omega) (by omega) i (List.mem_range.mp hi)
      simp
      omega
    rw [ih (by omega), this, Bool.and_false, Bool.or_false]
theorem nc_out {f : Nat → Bool} {r : Nat} (h : ∀ j, r < j → f j = false) : ∀ d, nc f (r + d) = nc f r := by
  intro d
  induction d with
  | zero => rfl
  | succ d ih =>
    rw [← Nat.add_assoc, nc_f (h _ (by omega)), ih]
theorem ks_out {α : Type} {f : Nat → Bool} {a b : Nat → α} {r : Nat} (h : ∀ j, r < j → f j = false) : ∀ d, ks f a b (r + d) = ks f a b r := by
  intro d
  induction d with
  | zero => rfl
  | succ d ih =>
    rw [← Nat.add_assoc, ks_f (h _ (by omega)), ih]
set_option maxHeartbeats 1000000 in
theorem sp_drop6 {post : Int32 → Int32 → Int32 → (Nat → Int32) → (Nat → Int32) → (Nat → Int32) → (Nat → Int32) → (Nat → Int32) → (Nat → Int32) → Prop} {R I C P Y Z : Nat → Int32} {ru : Nat → Nat} {ins : Nat → Int32} {cn : Nat → Nat} {pr : Nat → Nat → Nat} {na nt n : Nat} {bk a : Int32} (hn : n ≤ 300) (hrr : rr R I C P ru ins cn pr n) (hwf : wf na nt ru ins cn pr n)
    (no : (¬ ∃ r, 1 ≤ r ∧ r ≤ n ∧ a = nI r) → post (-1) (nI n) bk R I C P Y Z)
    (ok : ∀ r, 1 ≤ r → r ≤ n → a = nI r → ∀ R' I' C' P' Y' Z', rr R' I' C' P' (kr (md cn pr r r) r ru) (ks (md cn pr r r) ins ins r) (kr (md cn pr r r) r cn) (kp (md cn pr r r) r pr) (nc (md cn pr r r) r) → post (nI (nc (md cn pr r r) r)) (nI (nc (md cn pr r r) r)) (nI 0) R' I' C' P' Y' Z') : wp_X6_drop post (nI n) bk R I C P Y Z a := by
  have hc3 : ∀ k, 1 ≤ k → k ≤ n → cn k ≤ 3 := fun k k1 k2 => Nat.le_trans (hwf k k1 k2).2.1 (tk_3 _)
  unfold wp_X6_drop
  refine sp_isRow6 hn (fun r r1 r2 hr => ?_) (fun z => ?_)
  rotate_left
  · rw [fb_eq0t rfl]
    exact no z
  rw [fb_eq0f (by decide) (by decide)]
  have ok' := ok r r1 r2 hr
  clear ok no
  subst hr
  have hp : ∀ k, 1 ≤ k → k ≤ r → ∀ i, i < cn k → 1 ≤ pr k i ∧ pr k i < k := fun k k1 k2 => (hwf k k1 (by omega)).2.2.1
  have hout : ∀ j, r < j → md cn pr r r j = false := fun j hj => md_out hp hj r (Nat.le_refl r)
  have hcl : ∀ j i, 1 ≤ j → j ≤ r → md cn pr r r j = true → i < cn j → md cn pr r r (pr j i) = true := fun j i j1 j2 hj hi => md_cl hp j1 j2 hj hi
  refine sp_mark6 hn r1 r2 hrr hwf (fun Y' hY => ?_)
  generalize md cn pr r r = f at *
  refine wh7_up (n + 1) (fun x c R I C P Z => 1 ≤ x ∧ c = nI (nc f (x - 1)) ∧ di R I C P f ru ins cn pr (x - 1) n ∧ zp Z f (x - 1)) (fun rec x c R I C P Z hx hI hrec => ?_) 1 (nI 0) R I C P Z (by omega) ⟨by omega, rfl, di_0 hrr, fun j j1 j2 => absurd j1 (by omega)⟩
  obtain ⟨x1, rfl, hD, hZ⟩ := hI
  refine fb_lt (by omega) (by omega) (fun hl => ?_) (fun hl => ?_)
  · have e : x - 1 = r + (n - r) := by omega
    have hD := hD.1
    rw [e, kr, kr, kp, ks_out hout, ks_out hout, ks_out hout, ks_out hout, nc_out hout] at hD
    rw [e, nc_out hout]
    exact ok' R I C P Y' Z hD
  obtain ⟨y, rfl⟩ : ∃ y, x = y + 1 := ⟨x - 1, by omega⟩
  rw [Nat.add_sub_cancel] at hD hZ ⊢
  have hle := nc_le f y
  rw [fx_ix_n (by omega) (by omega), fx_nm_rd, hY (y + 1) x1 hl]
  cases hf : f (y + 1) with
  | false =>
    rw [fb_eq0t (a := bn false) rfl, fx_nm_add]
    exact hrec _ _ _ _ _ _ (by omega) ⟨by omega, by rw [Nat.add_sub_cancel, nc_f hf], by rw [Nat.add_sub_cancel]; exact di_f hf hD, by rw [Nat.add_sub_cancel]; exact zp_f hf hZ⟩
  | true =>
    have hyr : y + 1 ≤ r := by
      by_cases z : y + 1 ≤ r
      · exact z
      · rw [hout (y + 1) (by omega)] at hf
        exact absurd hf (by decide)
    obtain ⟨g1, g2, g3, g4⟩ := hD.2 (y + 1) (by omega) hl
    have c3 := hc3 (y + 1) x1 hl
    have hZ' := zp_t hf hZ
    rw [fb_eq0f (by decide) (by decide), fx_nm_add, fx_ix_n (by omega) (by omega), fx_nm_up]
    generalize upd Z (y + 1) (nI (nc f y + 1)) = Z1 at hZ' ⊢
    rw [fx_ix_n (by omega) (by omega), fx_nm_rd, fx_ix_n (by omega) (by omega), fx_nm_up, fx_ix_n (by omega) (by omega), fx_nm_rd, fx_ix_n (by omega) (by omega), fx_nm_up, fx_ix_n (by omega) (by omega), fx_nm_rd, g1, g2, g3]
    refine wh2_up (cn (y + 1)) (fun i P' => (∀ i', i' < i → P' (3 * (nc f y + 1) + i') = nI (nc f (pr (y + 1) i'))) ∧ ∀ j, j < 3 * (nc f y + 1) ∨ 3 * (nc f y + 1) + i ≤ j → P' j = P j) (fun rec2 i P' hi hI hrec2 => ?_) 0 P (by omega) ⟨fun i' h' => absurd h' (by omega), fun j _ => rfl⟩
    obtain ⟨i1, i2⟩ := hI
    refine fb_le (by omega) (by omega) (fun hl2 => ?_) (fun hl2 => ?_)
    · have hi' : i = cn (y + 1) := by omega
      subst hi'
      rw [fx_ix_n (by omega) (by omega), fx_nm_up, fx_nm_add]
      refine hrec _ _ _ _ _ _ (by omega) ⟨by omega, by rw [Nat.add_sub_cancel, nc_t hf], ?_, by rw [Nat.add_sub_cancel]; exact hZ'⟩
      rw [Nat.add_sub_cancel]
      exact di_t hf hc3 hl hD i1 i2
    · obtain ⟨p1, p2⟩ := hp (y + 1) x1 hyr i hl2
      have hfp := hcl (y + 1) i x1 hyr hf hl2
      simp (disch := omega) only [↓fx_nm_mul, ↓fx_nm_add, ↓fx_ix_n, ↓fx_nm_rd]
      rw [i2 _ (.inr (by omega)), g4 i hl2, fx_ix_n (by omega) (by omega), hZ' _ p1 (by omega) hfp, fx_nm_up]
      refine hrec2 _ hl2 ⟨fun i' h' => ?_, fun j hj => ?_⟩
      · by_cases z : i' = i
        · rw [z, pk_us]
        · rw [pk_un (by omega)]
          exact i1 i' (by omega)
      · rw [pk_un (by omega)]
        exact i2 j (by omega)

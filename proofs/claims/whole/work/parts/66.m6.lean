/-! LOGIC: size, both sides -/
def sm (z : Nat → Nat) (p : Nat → Nat) : Nat → Nat
  | 0 => 1
  | c + 1 => sm z p c + z (p c)
def mn (a : Nat) : Nat := if 1000000000 < a then 1000000000 else a
def zf (cn : Nat → Nat) (pr : Nat → Nat → Nat) : Nat → Nat → Nat
  | 0 => fun _ => 0
  | k + 1 => uf (zf cn pr k) (k + 1) (mn (sm (zf cn pr k) (pr (k + 1)) (cn (k + 1))))
theorem mn_b (a : Nat) : mn a ≤ 1000000000 := by
  unfold mn
  split <;> omega
theorem zf_b (cn : Nat → Nat) (pr : Nat → Nat → Nat) (k j : Nat) : zf cn pr k j ≤ 1000000000 := by
  induction k with
  | zero => exact Nat.zero_le _
  | succ k ih =>
    by_cases e : j = k + 1
    · rw [zf, e, uf_s]
      exact mn_b _
    · rw [zf, uf_n e]
      exact ih
theorem sm_b {z p : Nat → Nat} (h : ∀ j, z j ≤ 1000000000) (c : Nat) : sm z p c ≤ 1 + 1000000000 * c := by
  induction c with
  | zero => exact Nat.le_refl 1
  | succ c ih =>
    have := h (p c)
    show sm z p c + z (p c) ≤ _
    omega
def zr (Z : Nat → Int32) (z : Nat → Nat) (n : Nat) : Prop := ∀ j, 1 ≤ j → j ≤ n → Z j = nI (z j)
theorem zr_up {Z : Nat → Int32} {cn : Nat → Nat} {pr : Nat → Nat → Nat} {x : Nat} (x1 : 1 ≤ x) (h : zr Z (zf cn pr (x - 1)) (x - 1)) : zr (upd Z x (nI (mn (sm (zf cn pr (x - 1)) (pr x) (cn x))))) (zf cn pr x) x := by
  obtain ⟨y, rfl⟩ : ∃ y, x = y + 1 := ⟨x - 1, by omega⟩
  rw [Nat.add_sub_cancel] at h ⊢
  intro j j1 j2
  rw [zf]
  by_cases e : j = y + 1
  · rw [e, uf_s, pk_us]
  · rw [uf_n e, pk_un e]
    exact h j j1 (by omega)
theorem sp_size5 {post : Int32 → (Nat → Int32) → Prop} {R I C P Z : Nat → Int32} {ru : Nat → Nat} {ins : Nat → Int32} {cn : Nat → Nat} {pr : Nat → Nat → Nat} {na nt n : Nat} {a : Int32} (hn : n ≤ 300) (hrr : rr R I C P ru ins cn pr n) (hwf : wf na nt ru ins cn pr n)
    (no : (¬ ∃ r, 1 ≤ r ∧ r ≤ n ∧ a = nI r) → post (-1) Z) (ok : ∀ r, 1 ≤ r → r ≤ n → a = nI r → ∀ Z', post (nI (zf cn pr r r)) Z') : wp_X5_size post (nI n) C P Z a := by
  unfold wp_X5_size
  refine sp2_has hn (fun r r1 r2 hr => ?_) (fun z => ?_)
  rotate_left
  · rw [fb_eq0t rfl]
    exact no z
  rw [fb_eq0f (by decide) (by decide)]
  have ok' := ok r r1 r2 hr
  subst hr
  refine wh2_up (r + 1) (fun x Z => 1 ≤ x ∧ zr Z (zf cn pr (x - 1)) (x - 1)) (fun rec x Z hx hI hrec => ?_) 1 Z (by omega) ⟨by omega, fun j j1 j2 => absurd j1 (by omega)⟩
  obtain ⟨x1, hZ⟩ := hI
  refine fb_lt (by omega) (by omega) (fun hl => ?_) (fun hl => ?_)
  · rw [show x - 1 = r by omega] at hZ
    rw [fx_ix_n (by omega) (by omega), fx_nm_rd, hZ r r1 (Nat.le_refl r)]
    exact ok' Z
  obtain ⟨g1, g2, g3, g4⟩ := hrr x x1 (by omega)
  obtain ⟨w1, w2, w3, -⟩ := hwf x x1 (by omega)
  have t3 := tk_3 (ru x)
  unfold wp_X5_sizeAbovePremises
  refine wh2_up (cn x) (fun i s => s = lN (sm (zf cn pr (x - 1)) (pr x) i)) (fun rec2 i s hi hI hrec2 => ?_) 0 (lN 1) (by omega) rfl
  subst hI
  have hs := sm_b (p := pr x) (zf_b cn pr (x - 1)) i
  rw [k2_count x1 (by omega) hn g3]
  refine fb_le (by omega) (by omega) (fun hl2 => ?_) (fun hl2 => ?_)
  · have hi' : i = cn x := by omega
    subst hi'
    have hm : (if lN 1000000000 < lN (sm (zf cn pr (x - 1)) (pr x) (cn x)) then lN 1000000000 else lN (sm (zf cn pr (x - 1)) (pr x) (cn x))) = lN (mn (sm (zf cn pr (x - 1)) (pr x) (cn x))) := by
      unfold mn
      by_cases e : 1000000000 < sm (zf cn pr (x - 1)) (pr x) (cn x)
      · rw [if_pos e, if_pos ((pk_lLT (by decide) (by omega)).mpr e)]
      · rw [if_neg e, if_neg (fun z => e ((pk_lLT (by decide) (by omega)).mp z))]
    rw [hm, fx_nm_eq, fx_nm_eq, lN_i]
    show fx_ix (nI x) 301 _
    rw [fx_ix_n (by omega) (by omega), fx_nm_up, fx_nm_add]
    exact hrec _ (by omega) ⟨by omega, by rw [Nat.add_sub_cancel]; exact zr_up x1 hZ⟩
  · obtain ⟨p1, p2⟩ := w3 i hl2
    have hb := zf_b cn pr (x - 1) (pr x i)
    rw [k2_at x1 (by omega) hn g3 (by omega) hl2 (g4 i hl2), k2_has p1 (by omega) hn, fb_eq0f (by decide) (by decide), fx_ix_n (by omega) (by omega), fx_nm_rd, hZ _ p1 (by omega), fx_nm_eq, nI_l (by omega), fx_nm_eq, lN_add, fx_nm_add]
    exact hrec2 _ hl2 rfl
theorem sp_size6 {post : Int32 → (Nat → Int32) → Prop} {R I C P Z : Nat → Int32} {ru : Nat → Nat} {ins : Nat → Int32} {cn : Nat → Nat} {pr : Nat → Nat → Nat} {na nt n : Nat} {a : Int32} (hn : n ≤ 300) (hrr : rr R I C P ru ins cn pr n) (hwf : wf na nt ru ins cn pr n)
    (no : (¬ ∃ r, 1 ≤ r ∧ r ≤ n ∧ a = nI r) → post (-1) Z) (ok : ∀ r, 1 ≤ r → r ≤ n → a = nI r → ∀ Z', post (nI (zf cn pr r r)) Z') : wp_X6_size post (nI n) C P Z a := by
  unfold wp_X6_size
  refine sp_isRow6 hn (fun r r1 r2 hr => ?_) (fun z => ?_)
  rotate_left
  · rw [fb_eq0t rfl]
    exact no z
  rw [fb_eq0f (by decide) (by decide)]
  have ok' := ok r r1 r2 hr
  subst hr
  refine wh2_up (r + 1) (fun x Z => 1 ≤ x ∧ zr Z (zf cn pr (x - 1)) (x - 1)) (fun rec x Z hx hI hrec => ?_) 1 Z (by omega) ⟨by omega, fun j j1 j2 => absurd j1 (by omega)⟩
  obtain ⟨x1, hZ⟩ := hI
  refine fb_lt (by omega) (by omega) (fun hl => ?_) (fun hl => ?_)
  · rw [show x - 1 = r by omega] at hZ
    rw [fx_ix_n (by omega) (by omega), fx_nm_rd, hZ r r1 (Nat.le_refl r)]
    exact ok' Z
  obtain ⟨g1, g2, g3, g4⟩ := hrr x x1 (by omega)
  obtain ⟨w1, w2, w3, -⟩ := hwf x x1 (by omega)
  have t3 := tk_3 (ru x)
  refine wh2_up (cn x) (fun i s => s = lN (sm (zf cn pr (x - 1)) (pr x) i)) (fun rec2 i s hi hI hrec2 => ?_) 0 (lN 1) (by omega) rfl
  subst hI
  have hs := sm_b (p := pr x) (zf_b cn pr (x - 1)) i
  rw [fx_ix_n (by omega) (by omega), fx_nm_rd, g3]
  refine fb_le (by omega) (by omega) (fun hl2 => ?_) (fun hl2 => ?_)
  · have hi' : i = cn x := by omega
    subst hi'
    have next := hrec _ (by omega) ⟨by omega, by rw [Nat.add_sub_cancel]; exact zr_up x1 hZ⟩
    have hc : (lg_cmp (lN (sm (zf cn pr (x - 1)) (pr x) (cn x))) (lN 1000000000) ≤ 0) ↔ ¬ 1000000000 < sm (zf cn pr (x - 1)) (pr x) (cn x) := by
      rw [lg_cmp_le, pk_lLE (by omega) (by decide)]
      omega
    rw [fx_nm_eq]
    refine fx_br_iff hc (fun e => ?_) (fun e => ?_)
    · rw [mn, if_neg e] at next
      rw [fx_nm_eq, lN_i, fx_ix_n (by omega) (by omega), fx_nm_up, fx_nm_add]
      exact next
    · rw [mn, if_pos (by omega)] at next
      rw [fx_ix_n (by omega) (by omega), fx_nm_up, fx_nm_add]
      exact next
  · obtain ⟨p1, p2⟩ := w3 i hl2
    have hb := zf_b cn pr (x - 1) (pr x i)
    rw [fx_nm_mul, fx_nm_add, fx_ix_n (by omega) (by omega), fx_nm_rd, g4 i hl2, fx_ix_n (by omega) (by omega), fx_nm_rd, hZ _ p1 (by omega), fx_nm_eq, nI_l (by omega), fx_nm_eq, lN_add, fx_nm_add]
    exact hrec2 _ hl2 rfl

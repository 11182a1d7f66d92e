/-! LOGIC: the rows of a proof, both sides -/
def md (cn : Nat → Nat) (pr : Nat → Nat → Nat) (root : Nat) : Nat → Nat → Bool
  | 0, j => j == root
  | d + 1, j => md cn pr root d j || (md cn pr root d (root - d) && (List.range (cn (root - d))).any (fun i => pr (root - d) i == j))
def bn (b : Bool) : Nat := cond b 1 0
def mr (Y : Nat → Int32) (n : Nat) (f : Nat → Bool) : Prop := ∀ j, 1 ≤ j → j ≤ n → Y j = nI (bn (f j))
theorem bn_2 (b : Bool) : bn b < 2 := by cases b <;> decide
theorem nar1 : vp_nar .boolean (nI 1) = nI 1 := rfl
theorem nar0 : vp_nar .boolean (nI 0) = nI 0 := rfl
theorem mr_up {Y : Nat → Int32} {n p : Nat} {f g : Nat → Bool} (h : mr Y n f) (hg : ∀ j, g j = (f j || p == j)) : mr (upd Y p (nI 1)) n g := by
  intro j j1 j2
  rw [hg]
  by_cases e : j = p
  · subst e
    rw [pk_us]
    simp [bn]
  · rw [pk_un e, h j j1 j2]
    have : (p == j) = false := by simp; omega
    rw [this, Bool.or_false]
theorem md_st {cn : Nat → Nat} {pr : Nat → Nat → Nat} {root : Nat} (hp : ∀ k, 1 ≤ k → k ≤ root → ∀ i, i < cn k → 1 ≤ pr k i ∧ pr k i < k) : ∀ (e d j : Nat), d + e = root → root - d ≤ j → 1 ≤ j → md cn pr root root j = md cn pr root d j := by
  intro e
  induction e with
  | zero => exact fun d j h _ _ => by rw [show root = d by omega]
  | succ e ih =>
    intro d j h1 h2 h3
    rw [ih (d + 1) j (by omega) (by omega) h3]
    show (md cn pr root d j || (md cn pr root d (root - d) && (List.range (cn (root - d))).any (fun i => pr (root - d) i == j))) = md cn pr root d j
    have : (List.range (cn (root - d))).any (fun i => pr (root - d) i == j) = false := by
      rw [List.any_eq_false]
      intro i hi
      have := hp (root - d) (by omega) (by omega) i (List.mem_range.mp hi)
      simp
      omega
    rw [this, Bool.and_false, Bool.or_false]
/-- how many of the first m -/
def nc (f : Nat → Bool) : Nat → Nat
  | 0 => 0
  | m + 1 => nc f m + bn (f (m + 1))
theorem nc_le (f : Nat → Bool) (m : Nat) : nc f m ≤ m := by
  induction m with
  | zero => exact Nat.le_refl 0
  | succ m ih =>
    have := bn_2 (f (m + 1))
    show nc f m + bn (f (m + 1)) ≤ m + 1
    omega
set_option maxHeartbeats 1000000 in
theorem sp_mark6 {post : Int32 → (Nat → Int32) → Prop} {R I C P Y : Nat → Int32} {ru : Nat → Nat} {ins : Nat → Int32} {cn : Nat → Nat} {pr : Nat → Nat → Nat} {na nt n r : Nat} (hn : n ≤ 300) (r1 : 1 ≤ r) (r2 : r ≤ n) (hrr : rr R I C P ru ins cn pr n) (hwf : wf na nt ru ins cn pr n)
    (h : ∀ Y', mr Y' n (md cn pr r r) → post (nI (nc (md cn pr r r) r)) Y') : wp_X6_mark post (nI n) C P Y (nI r) := by
  have hp : ∀ k, 1 ≤ k → k ≤ r → ∀ i, i < cn k → 1 ≤ pr k i ∧ pr k i < k := fun k k1 k2 => (hwf k k1 (by omega)).2.2.1
  unfold wp_X6_mark
  refine wh2_up (n + 1) (fun x Y => 1 ≤ x ∧ mr Y (x - 1) (fun j => j == r)) (fun rec x Y hx hI hrec => ?_) 1 Y (by omega) ⟨by omega, fun j j1 j2 => absurd j1 (by omega)⟩
  obtain ⟨x1, hY⟩ := hI
  refine fb_lt (by omega) (by omega) (fun hl => ?_) (fun hl => ?_)
  rotate_left
  · have next : ∀ v : Bool, v = (x == r) → mr (upd Y x (nI (bn v))) (x + 1 - 1) (fun j => j == r) := by
      intro v hv j j1 j2
      by_cases e : j = x
      · subst e
        rw [pk_us, hv]
      · rw [pk_un e]
        exact hY j j1 (by omega)
    refine fb_eq (by omega) (by omega) (fun e => ?_) (fun e => ?_)
    · rw [fx_ix_n (by omega) (by omega), nar1, fx_nm_up, fx_nm_add]
      exact hrec _ (by omega) ⟨by omega, next true (by simp [e])⟩
    · rw [fx_ix_n (by omega) (by omega), nar0, fx_nm_up, fx_nm_add]
      exact hrec _ (by omega) ⟨by omega, next false (by simp [e])⟩
  · rw [show x - 1 = n by omega] at hY
    have hdn : ∀ F : (Int32 → Int32 → (Nat → Int32) → Prop) → Int32 → Int32 → (Nat → Int32) → Prop, (∀ (rec : Int32 → Int32 → (Nat → Int32) → Prop) (x : Nat) (c : Int32) (Y : Nat → Int32), x ≤ r → mr Y n (md cn pr r (r - x)) → c = nI (nc (md cn pr r r) r - nc (md cn pr r r) x) → (∀ c' Y', 1 ≤ x → mr Y' n (md cn pr r (r - (x - 1))) → c' = nI (nc (md cn pr r r) r - nc (md cn pr r r) (x - 1)) → rec (nI (x - 1)) c' Y') → F rec (nI x) c Y) → fx_wh3 F (nI r) (nI 0) Y := by
      intro F st
      refine wh3_dn (fun x c Y => x ≤ r ∧ mr Y n (md cn pr r (r - x)) ∧ c = nI (nc (md cn pr r r) r - nc (md cn pr r r) x)) (fun rec x c Y hI hr => ?_) r (nI 0) Y ⟨Nat.le_refl r, ?_, by rw [Nat.sub_self]⟩
      · obtain ⟨a, b, c'⟩ := hI
        exact st rec x c Y a b c' (fun c' Y' q1 q2 q3 => hr c' Y' q1 ⟨by omega, q2, q3⟩)
      · rw [Nat.sub_self]
        exact hY
    refine hdn _ (fun rec x c Y hx hY hc hrec => ?_)
    refine fx_br_i (fun hl => ?_) (fun hl => ?_)
    · have hx0 : x = 0 := by
        by_cases z : x = 0
        · exact z
        · exact absurd hl (nI_nle (by omega) (by omega))
      subst hx0
      rw [hc, show nc (md cn pr r r) 0 = 0 from rfl, Nat.sub_zero]
      exact h Y hY
    · have x1 : 1 ≤ x := by
        by_cases z : x = 0
        · exact absurd (by rw [z, nI_0]; decide) hl
        · omega
      have hle := nc_le (md cn pr r r) r
      have hst := md_st hp x (r - x) x (by omega) (by omega) x1
      have hnc : nc (md cn pr r r) x = nc (md cn pr r r) (x - 1) + bn (md cn pr r r x) := by
        obtain ⟨y, rfl⟩ : ∃ y, x = y + 1 := ⟨x - 1, by omega⟩
        rfl
      have hmono : nc (md cn pr r r) x ≤ nc (md cn pr r r) r := by
        have : ∀ d, nc (md cn pr r r) x ≤ nc (md cn pr r r) (x + d) := by
          intro d
          induction d with
          | zero => exact Nat.le_refl _
          | succ d ih => exact Nat.le_trans ih (Nat.le_add_right _ _)
        have := this (r - x)
        rwa [show x + (r - x) = r by omega] at this
      have hd : r - (x - 1) = (r - x) + 1 := by omega
      have hrx : r - (r - x) = x := by omega
      rw [fx_ix_n (by omega) (by omega), fx_nm_rd, hY x x1 (by omega)]
      have b2 := bn_2 (md cn pr r (r - x) x)
      obtain ⟨g1, g2, g3, g4⟩ := hrr x x1 (by omega)
      obtain ⟨w1, w2, w3, -⟩ := hwf x x1 (by omega)
      have t3 := tk_3 (ru x)
      refine fb_eq0n (by omega) (fun e => ?_) (fun e => ?_)
      · have hf : md cn pr r (r - x) x = false := by
          cases hb : md cn pr r (r - x) x with
          | false => rfl
          | true => rw [hb] at e; exact absurd e (by decide)
        rw [fx_nm_m1 x1]
        refine hrec _ _ x1 (fun j j1 j2 => ?_) ?_
        · rw [hY j j1 j2, hd]
          show _ = nI (bn (md cn pr r (r - x) j || (md cn pr r (r - x) (r - (r - x)) && _)))
          rw [hrx, hf, Bool.false_and, Bool.or_false]
        · rw [hc, hnc, hst, hf]
          rfl
      · have hf : md cn pr r (r - x) x = true := by
          cases hb : md cn pr r (r - x) x with
          | true => rfl
          | false => rw [hb] at e; exact absurd rfl e
        have hb1 : bn (md cn pr r r x) = 1 := by rw [hst, hf]; rfl
        rw [hc, fx_nm_add]
        refine wh2_up (cn x) (fun i Y => mr Y n (fun j => md cn pr r (r - x) j || (List.range i).any (fun i => pr x i == j))) (fun rec2 i Y hi hI hrec2 => ?_) 0 Y (by omega) (fun j j1 j2 => by simp only [List.range_zero, List.any_nil, Bool.or_false]; exact hY j j1 j2)
        rw [fx_ix_n (by omega) (by omega), fx_nm_rd, g3]
        refine fb_le (by omega) (by omega) (fun hl => ?_) (fun hl => ?_)
        · rw [fx_nm_m1 x1]
          refine hrec _ _ x1 (fun j j1 j2 => ?_) ?_
          · rw [hI j j1 j2, hd, show i = cn x by omega]
            show _ = nI (bn (md cn pr r (r - x) j || (md cn pr r (r - x) (r - (r - x)) && (List.range (cn (r - (r - x)))).any (fun i => pr (r - (r - x)) i == j))))
            rw [hrx, hf, Bool.true_and]
          · rw [show nc (md cn pr r r) r - nc (md cn pr r r) x + 1 = nc (md cn pr r r) r - nc (md cn pr r r) (x - 1) by omega]
        · obtain ⟨p1, p2⟩ := w3 i hl
          rw [fx_nm_mul, fx_nm_add, fx_ix_n (by omega) (by omega), fx_nm_rd, g4 i hl, fx_ix_n (by omega) (by omega), nar1, fx_nm_up, fx_nm_add]
          refine hrec2 _ hl (mr_up hI (fun j => ?_))
          rw [List.range_succ, List.any_append]
          simp [Bool.or_assoc]

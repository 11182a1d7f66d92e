/-! LOGIC: the class's marks; check, rows, of both -/
set_option maxHeartbeats 1000000 in
theorem sp_mark5 {post : (Nat → Int32) → Prop} {R I C P Y : Nat → Int32} {ru : Nat → Nat} {ins : Nat → Int32} {cn : Nat → Nat} {pr : Nat → Nat → Nat} {na nt n r : Nat} (hn : n ≤ 300) (r1 : 1 ≤ r) (r2 : r ≤ n) (hrr : rr R I C P ru ins cn pr n) (hwf : wf na nt ru ins cn pr n)
    (h : ∀ Y', mr Y' n (md cn pr r r) → post Y') : wp_X5_markProof post (nI n) C P Y (nI r) := by
  have hp : ∀ k, 1 ≤ k → k ≤ r → ∀ i, i < cn k → 1 ≤ pr k i ∧ pr k i < k := fun k k1 k2 => (hwf k k1 (by omega)).2.2.1
  unfold wp_X5_markProof
  refine wh2_up 301 (fun x Y => ∀ j, j < x → Y j = nI 0) (fun rec x Y hx hI hrec => ?_) 0 Y (by omega) (fun j hj => absurd hj (by omega))
  refine fb_le (by omega) (by omega) (fun hl => ?_) (fun hl => ?_)
  rotate_left
  · rw [fx_ix_n (by omega) (by omega), nar0, fx_nm_up, fx_nm_add]
    refine hrec _ (by omega) (fun j hj => ?_)
    by_cases e : j = x
    · rw [e, pk_us]
    · rw [pk_un e]
      exact hI j (by omega)
  rw [k2_has r1 r2 hn, fb_eq0f (by decide) (by decide), fx_ix_n (by omega) (by omega), nar1, fx_nm_up]
  have hY0 : mr (upd Y r (nI 1)) n (md cn pr r (r - r)) := by
    rw [Nat.sub_self]
    intro j j1 j2
    show _ = nI (bn (j == r))
    by_cases e : j = r
    · rw [e, pk_us]
      simp [bn]
    · rw [pk_un e, hI j (by omega)]
      have : (j == r) = false := by simp [e]
      rw [this]
      rfl
  generalize upd Y r (nI 1) = Y at hY0
  refine wh2_dn (fun x Y => x ≤ r ∧ mr Y n (md cn pr r (r - x))) (fun rec x Y hI hrec => ?_) r Y ⟨Nat.le_refl r, hY0⟩
  obtain ⟨hx, hY⟩ := hI
  refine fb_lt (by omega) (by omega) (fun hl => ?_) (fun x1 => ?_)
  · rw [show x = 0 by omega, Nat.sub_zero] at hY
    exact h Y hY
  have hd : r - (x - 1) = (r - x) + 1 := by omega
  have hrx : r - (r - x) = x := by omega
  have b2 := bn_2 (md cn pr r (r - x) x)
  obtain ⟨g1, g2, g3, g4⟩ := hrr x x1 (by omega)
  obtain ⟨w1, w2, w3, -⟩ := hwf x x1 (by omega)
  have t3 := tk_3 (ru x)
  cases hf : md cn pr r (r - x) x with
  | false =>
    refine wh2_up 0 (fun i Y' => Y' = Y) (fun rec2 i Y' hi hI hrec2 => ?_) 0 Y (by omega) rfl
    rw [hI, fx_ix_n (by omega) (by omega), fx_nm_rd, hY x x1 (by omega), hf, fb_eq0t (a := bn false) rfl, fx_nm_m1 x1]
    refine hrec _ x1 ⟨by omega, fun j j1 j2 => ?_⟩
    rw [hY j j1 j2, hd]
    show _ = nI (bn (md cn pr r (r - x) j || (md cn pr r (r - x) (r - (r - x)) && _)))
    rw [hrx, hf, Bool.false_and, Bool.or_false]
  | true =>
    refine wh2_up (cn x) (fun i Y => mr Y n (fun j => md cn pr r (r - x) j || (List.range i).any (fun i => pr x i == j))) (fun rec2 i Y hi hI hrec2 => ?_) 0 Y (by omega) (fun j j1 j2 => by simp only [List.range_zero, List.any_nil, Bool.or_false]; exact hY j j1 j2)
    have hYx := hI x x1 (by omega)
    simp only [hf, Bool.true_or] at hYx
    rw [fx_ix_n (by omega) (by omega), fx_nm_rd, hYx, fb_eq0f (by decide) (by decide), k2_count x1 (by omega) hn g3]
    refine fb_le (by omega) (by omega) (fun hl => ?_) (fun hl => ?_)
    · rw [fx_nm_m1 x1]
      refine hrec _ x1 ⟨by omega, fun j j1 j2 => ?_⟩
      rw [hI j j1 j2, hd, show i = cn x by omega]
      show _ = nI (bn (md cn pr r (r - x) j || (md cn pr r (r - x) (r - (r - x)) && (List.range (cn (r - (r - x)))).any (fun i => pr (r - (r - x)) i == j))))
      rw [hrx, hf, Bool.true_and]
    · obtain ⟨p1, p2⟩ := w3 i hl
      rw [k2_at x1 (by omega) hn g3 (by omega) hl (g4 i hl), k2_has p1 (by omega) hn, fb_eq0f (by decide) (by decide), fx_ix_n (by omega) (by omega), fx_nm_up, fx_nm_add]
      refine hrec2 _ hl (mr_up hI (fun j => ?_))
      rw [List.range_succ, List.any_append]
      simp [Bool.or_assoc]
/-- the least row of a proof that states nothing -/
def lb (f : Nat → Bool) (S : Nat → Q4) (r b : Nat) : Prop := (b = 0 ∧ ∀ j, 1 ≤ j → j ≤ r → f j = true → ¬ (S j).1 = 0) ∨ (1 ≤ b ∧ b ≤ r ∧ f b = true ∧ (S b).1 = 0 ∧ ∀ j, 1 ≤ j → j < b → f j = true → ¬ (S j).1 = 0)
theorem sp4_has300 {post : Int32 → Prop} {n k : Nat} {K N : Nat → Int32} {S : Nat → Q4} (hn : n ≤ 300) (k1 : 1 ≤ k) (k2 : k ≤ n) (hK : a3 K N S n) (hB : tb S n) (yes : ¬ (S k).1 = 0 → post (nI 1)) (no : (S k).1 = 0 → post (nI 0)) : wp_X4_has post 301 K (nI k) := by
  unfold wp_X4_has
  obtain ⟨b1, -⟩ := hB k k1 k2
  rw [k4_kind k1 (by omega) (by omega), (hK k k1 k2).1]
  exact fb_eq0n (by omega) no yes
theorem sp_least {post : Int32 → Prop} {n r : Nat} {K N Y : Nat → Int32} {S : Nat → Q4} {f : Nat → Bool} (hn : n ≤ 300) (r2 : r ≤ n) (hK : a3 K N S n) (hB : tb S n) (hY : mr Y n f) (h : ∀ b, lb f S r b → post (nI b)) : wp_X5_leastBroken post K Y (nI r) := by
  unfold wp_X5_leastBroken
  refine wh1_up (r + 1) (fun x => 1 ≤ x ∧ ∀ j, 1 ≤ j → j < x → f j = true → ¬ (S j).1 = 0) (fun rec x hx hI hrec => ?_) 1 (by omega) ⟨by omega, fun j h1 h2 => absurd h1 (by omega)⟩
  obtain ⟨x1, hI⟩ := hI
  refine fb_lt (by omega) (by omega) (fun hl => h 0 (.inl ⟨rfl, fun j j1 j2 => hI j j1 (by omega)⟩)) (fun hl => ?_)
  rw [fb_lef (by omega) (by omega), fx_ix_n (by omega) (by omega), fx_nm_rd, hY x x1 (by omega)]
  cases hf : f x with
  | false =>
    rw [fb_eq0t (a := bn false) rfl, fx_nm_add]
    refine hrec (by omega) ⟨by omega, fun j j1 j2 hj => ?_⟩
    by_cases e : j = x
    · rw [e, hf] at hj
      exact absurd hj (by decide)
    · exact hI j j1 (by omega) hj
  | true =>
    rw [fb_eq0f (by decide) (by decide)]
    refine sp4_has300 hn x1 (by omega) hK hB (fun e => ?_) (fun e => ?_)
    · rw [fb_eq0f (by decide) (by decide), fx_nm_add]
      refine hrec (by omega) ⟨by omega, fun j j1 j2 hj => ?_⟩
      by_cases e' : j = x
      · rw [e']
        exact e
      · exact hI j j1 (by omega) hj
    · rw [fb_eq0t rfl]
      exact h x (.inr ⟨x1, hl, hf, e, hI⟩)
theorem lb_inj {f : Nat → Bool} {S : Nat → Q4} {r b b' : Nat} (h : lb f S r b) (g : lb f S r b') : b = b' := by
  rcases h with ⟨h1, h2⟩ | ⟨h1, h2, h3, h4, h5⟩ <;> rcases g with ⟨g1, g2⟩ | ⟨g1, g2, g3, g4, g5⟩
  · omega
  · exact absurd g4 (h2 b' g1 g2 g3)
  · exact absurd h4 (g2 b h1 h2 h3)
  · rcases Nat.lt_trichotomy b b' with z | z | z
    · exact absurd h4 (g5 b h1 z h3)
    · exact z
    · exact absurd g4 (h5 b' g1 z g3)
def kx (S : Nat → Q4) (r : Nat) : Nat := if (S r).1 = 0 then 0 else 1
theorem sp_check5 {post : Int32 → Int32 → (Nat → Int32) → Prop} {R I C P Y K N : Nat → Int32} {ru : Nat → Nat} {ins : Nat → Int32} {cn : Nat → Nat} {pr : Nat → Nat → Nat} {S : Nat → Q4} {na nt n : Nat} {bk a : Int32} (hn : n ≤ 300) (hrr : rr R I C P ru ins cn pr n) (hwf : wf na nt ru ins cn pr n) (hK : a3 K N S n) (hB : tb S n)
    (no : (¬ ∃ r, 1 ≤ r ∧ r ≤ n ∧ a = nI r) → post (-1) bk Y) (ok : ∀ r, 1 ≤ r → r ≤ n → a = nI r → ∀ b Y', lb (md cn pr r r) S r b → post (nI (kx S r)) (nI b) Y') : wp_X5_check post bk (nI n) C P K Y a := by
  unfold wp_X5_check
  refine sp2_has hn (fun r r1 r2 hr => ?_) (fun z => ?_)
  rotate_left
  · rw [fb_eq0t rfl]
    exact no z
  rw [fb_eq0f (by decide) (by decide)]
  subst hr
  refine sp_mark5 hn r1 r2 hrr hwf (fun Y' hY => ?_)
  refine sp_least hn r2 hK hB hY (fun b hb => ?_)
  have := ok r r1 r2 rfl b Y' hb
  refine sp4_has300 hn r1 r2 hK hB (fun e => ?_) (fun e => ?_)
  · rw [fb_eq0f (by decide) (by decide)]
    rw [kx, if_neg e] at this
    exact this
  · rw [fb_eq0t rfl]
    rw [kx, if_pos e] at this
    exact this
theorem sp_rows5 {post : Int32 → (Nat → Int32) → Prop} {R I C P Y : Nat → Int32} {ru : Nat → Nat} {ins : Nat → Int32} {cn : Nat → Nat} {pr : Nat → Nat → Nat} {na nt n : Nat} {a : Int32} (hn : n ≤ 300) (hrr : rr R I C P ru ins cn pr n) (hwf : wf na nt ru ins cn pr n)
    (no : (¬ ∃ r, 1 ≤ r ∧ r ≤ n ∧ a = nI r) → post (-1) Y) (ok : ∀ r, 1 ≤ r → r ≤ n → a = nI r → ∀ Y', post (nI (nc (md cn pr r r) r)) Y') : wp_X5_rows post (nI n) C P Y a := by
  unfold wp_X5_rows
  refine sp2_has hn (fun r r1 r2 hr => ?_) (fun z => ?_)
  rotate_left
  · rw [fb_eq0t rfl]
    exact no z
  rw [fb_eq0f (by decide) (by decide)]
  subst hr
  refine sp_mark5 hn r1 r2 hrr hwf (fun Y' hY => ?_)
  refine wh2_up (r + 1) (fun x c => 1 ≤ x ∧ c = nI (nc (md cn pr r r) (x - 1))) (fun rec x c hx hI hrec => ?_) 1 (nI 0) (by omega) ⟨by omega, rfl⟩
  obtain ⟨x1, hc⟩ := hI
  refine fb_lt (by omega) (by omega) (fun hl => ?_) (fun hl => ?_)
  · rw [hc, show x - 1 = r by omega]
    exact ok r r1 r2 rfl Y'
  have hnc : nc (md cn pr r r) (x + 1 - 1) = nc (md cn pr r r) (x - 1) + bn (md cn pr r r x) := by
    obtain ⟨y, rfl⟩ : ∃ y, x = y + 1 := ⟨x - 1, by omega⟩
    rfl
  rw [fx_ix_n (by omega) (by omega), fx_nm_rd, hY x x1 (by omega)]
  cases hf : md cn pr r r x with
  | false =>
    rw [fb_eq0t (a := bn false) rfl, fx_nm_add]
    exact hrec _ (by omega) ⟨by omega, by rw [hnc, hf, hc]; rfl⟩
  | true =>
    rw [fb_eq0f (by decide) (by decide), hc, fx_nm_add, fx_nm_add]
    exact hrec _ (by omega) ⟨by omega, by rw [hnc, hf]; rfl⟩
theorem sp_rows6 {post : Int32 → (Nat → Int32) → Prop} {R I C P Y : Nat → Int32} {ru : Nat → Nat} {ins : Nat → Int32} {cn : Nat → Nat} {pr : Nat → Nat → Nat} {na nt n : Nat} {a : Int32} (hn : n ≤ 300) (hrr : rr R I C P ru ins cn pr n) (hwf : wf na nt ru ins cn pr n)
    (no : (¬ ∃ r, 1 ≤ r ∧ r ≤ n ∧ a = nI r) → post (-1) Y) (ok : ∀ r, 1 ≤ r → r ≤ n → a = nI r → ∀ Y', post (nI (nc (md cn pr r r) r)) Y') : wp_X6_rows post (nI n) C P Y a := by
  unfold wp_X6_rows
  refine sp_isRow6 hn (fun r r1 r2 hr => ?_) (fun z => ?_)
  rotate_left
  · rw [fb_eq0t rfl]
    exact no z
  rw [fb_eq0f (by decide) (by decide)]
  subst hr
  exact sp_mark6 hn r1 r2 hrr hwf (fun Y' _ => ok r r1 r2 rfl Y')

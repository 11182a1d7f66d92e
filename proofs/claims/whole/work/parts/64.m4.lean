/-! LOGIC: check of the reference; name, states, concludes of both -/
theorem md_mono {cn : Nat → Nat} {pr : Nat → Nat → Nat} {root d j : Nat} (h : md cn pr root d j = true) : ∀ e, md cn pr root (d + e) j = true := by
  intro e
  induction e with
  | zero => exact h
  | succ e ih =>
    show (md cn pr root (d + e) j || _) = true
    rw [ih, Bool.true_or]
theorem md_cl {cn : Nat → Nat} {pr : Nat → Nat → Nat} {r j i : Nat} (hp : ∀ k, 1 ≤ k → k ≤ r → ∀ i, i < cn k → 1 ≤ pr k i ∧ pr k i < k) (j1 : 1 ≤ j) (j2 : j ≤ r) (h : md cn pr r r j = true) (hi : i < cn j) : md cn pr r r (pr j i) = true := by
  rw [md_st hp j (r - j) j (by omega) (by omega) j1] at h
  have hj : r - (r - j) = j := by omega
  have : md cn pr r (r - j + 1) (pr j i) = true := by
    show (md cn pr r (r - j) (pr j i) || (md cn pr r (r - j) (r - (r - j)) && (List.range (cn (r - (r - j)))).any (fun i' => pr (r - (r - j)) i' == pr j i))) = true
    rw [hj, h, Bool.true_and]
    have : (List.range (cn j)).any (fun i' => pr j i' == pr j i) = true := List.any_eq_true.mpr ⟨i, List.mem_range.mpr hi, by simp⟩
    rw [this, Bool.or_true]
  have := md_mono this (r - (r - j + 1))
  rwa [show r - j + 1 + (r - (r - j + 1)) = r by omega] at this
/-- a row of a proof that states nothing, though its premises do -/
def gd6 (f : Nat → Bool) (S : Nat → Q4) (cn : Nat → Nat) (pr : Nat → Nat → Nat) (j : Nat) : Prop := f j = true ∧ (S j).1 = 0 ∧ ∀ i, i < cn j → ¬ (S (pr j i)).1 = 0
theorem lb_of {S : Nat → Q4} {cn : Nat → Nat} {pr : Nat → Nat → Nat} {r b : Nat} (hp : ∀ k, 1 ≤ k → k ≤ r → ∀ i, i < cn k → 1 ≤ pr k i ∧ pr k i < k)
    (h : (b = 0 ∧ ∀ j, 1 ≤ j → j ≤ r → ¬ gd6 (md cn pr r r) S cn pr j) ∨ (1 ≤ b ∧ b ≤ r ∧ gd6 (md cn pr r r) S cn pr b ∧ ∀ j, 1 ≤ j → j < b → ¬ gd6 (md cn pr r r) S cn pr j)) : lb (md cn pr r r) S r b := by
  have key : ∀ m, m ≤ r → (∀ j, 1 ≤ j → j ≤ m → ¬ gd6 (md cn pr r r) S cn pr j) → ∀ j, 1 ≤ j → j ≤ m → md cn pr r r j = true → ¬ (S j).1 = 0 := by
    intro m hm hno j
    induction j using Nat.strongRecOn with
    | _ j ih =>
      intro j1 j2 hj hz
      refine hno j j1 j2 ⟨hj, hz, fun i hi => ?_⟩
      obtain ⟨p1, p2⟩ := hp j j1 (by omega) i hi
      exact ih _ p2 p1 (by omega) (md_cl hp j1 (by omega) hj hi)
  rcases h with ⟨h1, h2⟩ | ⟨h1, h2, h3, h4⟩
  · exact .inl ⟨h1, key r (Nat.le_refl r) h2⟩
  · refine .inr ⟨h1, h2, h3.1, h3.2.1, fun j j1 j2 => key (b - 1) (by omega) (fun j j1 j2 => h4 j j1 (by omega)) j j1 (by omega)⟩
set_option maxHeartbeats 1000000 in
theorem sp_check6 {post : Int32 → Int32 → (Nat → Int32) → (Nat → Int32) → Prop} {FA FT R I C P F Y : Nat → Int32} {A T S : Nat → Q4} {ru : Nat → Nat} {ins : Nat → Int32} {cn : Nat → Nat} {pr : Nat → Nat → Nat} {na nt n : Nat} {bk a : Int32} (hna : na ≤ 100) (hnt : nt ≤ 100) (hn : n ≤ 300)
    (hA : a4 FA A na) (hT : a4 FT T nt) (hrr : rr R I C P ru ins cn pr n) (hwf : wf na nt ru ins cn pr n) (hS : stt A T S ru ins cn pr n) (hB : tb S n)
    (no : (¬ ∃ r, 1 ≤ r ∧ r ≤ n ∧ a = nI r) → post (-1) bk F Y) (ok : ∀ r, 1 ≤ r → r ≤ n → a = nI r → ∀ b F' Y', lb (md cn pr r r) S r b → post (nI (kx S r)) (nI b) F' Y') : wp_X6_check post (nI n) bk FA FT R I C P F Y a := by
  unfold wp_X6_check
  refine sp_isRow6 hn (fun r r1 r2 hr => ?_) (fun z => ?_)
  rotate_left
  · rw [fb_eq0t rfl]
    exact no z
  rw [fb_eq0f (by decide) (by decide)]
  subst hr
  have hp : ∀ k, 1 ≤ k → k ≤ r → ∀ i, i < cn k → 1 ≤ pr k i ∧ pr k i < k := fun k k1 k2 => (hwf k k1 (by omega)).2.2.1
  refine sp_mark6 hn r1 r2 hrr hwf (fun Y' hY => ?_)
  refine sp6_work hna hnt hn r2 hA hT hrr hwf hS hB (fun F' hF => ?_)
  refine wh2_dn (fun x b => x ≤ r ∧ ∃ b' : Nat, b = nI b' ∧ ((b' = 0 ∧ ∀ j, x < j → j ≤ r → ¬ gd6 (md cn pr r r) S cn pr j) ∨ (x < b' ∧ b' ≤ r ∧ gd6 (md cn pr r r) S cn pr b' ∧ ∀ j, x < j → j < b' → ¬ gd6 (md cn pr r r) S cn pr j))) (fun rec x b hI hrec => ?_) r (nI 0) ⟨Nat.le_refl r, 0, rfl, .inl ⟨rfl, fun j h1 h2 => absurd h1 (by omega)⟩⟩
  obtain ⟨hx, b', rfl, hb⟩ := hI
  refine fx_br_i (fun hl => ?_) (fun hl => ?_)
  · have hx0 : x = 0 := by
      by_cases z : x = 0
      · exact z
      · exact absurd hl (nI_nle (by omega) (by omega))
    subst hx0
    have hlb := lb_of hp (b := b') (S := S) (by
      rcases hb with ⟨h1, h2⟩ | ⟨h1, h2, h3, h4⟩
      · exact .inl ⟨h1, fun j j1 j2 => h2 j (by omega) j2⟩
      · exact .inr ⟨h1, h2, h3, fun j j1 j2 => h4 j (by omega) j2⟩)
    have := ok r r1 r2 rfl b' F' Y' hlb
    obtain ⟨b1, -⟩ := hB r r1 r2
    rw [k6_kind (by omega) (hF r r1 (Nat.le_refl r))]
    refine fb_eq0n (by omega) (fun e => ?_) (fun e => ?_)
    · rw [kx, if_pos e] at this
      exact this
    · rw [kx, if_neg e] at this
      exact this
  · have x1 : 1 ≤ x := by
      by_cases z : x = 0
      · exact absurd (by rw [z, nI_0]; decide) hl
      · omega
    obtain ⟨g1, g2, g3, g4⟩ := hrr x x1 (by omega)
    obtain ⟨w1, w2, w3, -⟩ := hwf x x1 (by omega)
    have t3 := tk_3 (ru x)
    have b2 := bn_2 (md cn pr r r x)
    obtain ⟨c1, -⟩ := hB x x1 (by omega)
    have yes : gd6 (md cn pr r r) S cn pr x → rec (nI (x - 1)) (nI x) := fun e => hrec _ x1 ⟨by omega, x, rfl, .inr ⟨by omega, hx, e, fun j j1 j2 => absurd j1 (by omega)⟩⟩
    have nope : ¬ gd6 (md cn pr r r) S cn pr x → rec (nI (x - 1)) (nI b') := by
      intro e
      have sp : ∀ j, x - 1 < j → j = x ∨ x < j := fun j h => by omega
      refine hrec _ x1 ⟨by omega, b', rfl, ?_⟩
      rcases hb with ⟨h1, h2⟩ | ⟨h1, h2, h3, h4⟩
      · refine .inl ⟨h1, fun j j1 j2 => ?_⟩
        rcases sp j j1 with z | z
        · rw [z]; exact e
        · exact h2 j z j2
      · refine .inr ⟨by omega, h2, h3, fun j j1 j2 => ?_⟩
        rcases sp j j1 with z | z
        · rw [z]; exact e
        · exact h4 j z j2
    rw [fx_ix_n (by omega) (by omega), fx_nm_rd, hY x x1 (by omega)]
    refine fj1_i (fun v => v = nI 1 ∧ md cn pr r r x = true ∧ (S x).1 = 0 ∨ v = nI 0 ∧ ¬ (md cn pr r r x = true ∧ (S x).1 = 0)) (fun v hv => ?_) (fun K' hK' => ?_)
    · refine wh2_up (cn x) (fun i v => v = nI 1 ∧ md cn pr r r x = true ∧ (S x).1 = 0 ∧ (∀ i', i' < i → ¬ (S (pr x i')).1 = 0) ∨ v = nI 0 ∧ ¬ gd6 (md cn pr r r) S cn pr x) (fun rec2 i v hi hI2 hrec2 => ?_) 0 v (by omega) ?_
      · rw [fx_ix_n (by omega) (by omega), fx_nm_rd, g3]
        refine fb_le (by omega) (by omega) (fun hl2 => ?_) (fun hl2 => ?_)
        · rcases hI2 with ⟨rfl, h1, h2, h3⟩ | ⟨rfl, h1⟩
          · rw [fb_eq0f (by decide) (by decide), fx_nm_m1 x1]
            exact yes ⟨h1, h2, fun i' hi' => h3 i' (by omega)⟩
          · rw [fb_eq0t rfl, fx_nm_m1 x1]
            exact nope h1
        · rcases hI2 with ⟨rfl, h1, h2, h3⟩ | ⟨rfl, h1⟩
          · obtain ⟨p1, p2⟩ := w3 i hl2
            obtain ⟨c2, -⟩ := hB _ p1 (by omega)
            rw [fb_eq0f (by decide) (by decide), k6_of (by omega) (by omega) (g4 i hl2) (by omega) (by decide), Nat.add_zero, (hF _ p1 (by omega)).1]
            refine fb_eq0n (by omega) (fun e => ?_) (fun e => ?_)
            · rw [fx_nm_add]
              exact hrec2 _ hl2 (.inr ⟨rfl, fun z => z.2.2 i hl2 e⟩)
            · rw [fx_nm_add]
              refine hrec2 _ hl2 (.inl ⟨rfl, h1, h2, fun i' h' => ?_⟩)
              by_cases z : i' = i
              · rw [z]; exact e
              · exact h3 i' (by omega)
          · rw [fb_eq0t rfl, fx_nm_add]
            exact hrec2 _ hl2 (.inr ⟨rfl, h1⟩)
      · rcases hv with ⟨rfl, h1, h2⟩ | ⟨rfl, h1⟩
        · exact .inl ⟨rfl, h1, h2, fun i' h' => absurd h' (by omega)⟩
        · exact .inr ⟨rfl, fun z => h1 ⟨z.1, z.2.1⟩⟩
    · cases hf : md cn pr r r x with
      | false =>
        rw [fb_eq0t (a := bn false) rfl]
        exact hK' _ (.inr ⟨rfl, fun z => by rw [hf] at z; exact absurd z.1 (by decide)⟩)
      | true =>
        rw [fb_eq0f (by decide) (by decide), k6_kind (by omega) (hF x x1 hx)]
        refine fb_eq0n (by omega) (fun e => hK' _ (.inl ⟨rfl, hf, e⟩)) (fun e => hK' _ (.inr ⟨rfl, fun z => e z.2⟩))

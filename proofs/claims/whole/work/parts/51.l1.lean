/-! LOGIC: axioms and triples, both sides -/
def sg (k : Int32) : Prop := k = nI 6 ∨ k = nI 7 ∨ k = nI 9
/-- what an axiom may be -/
def v_ax (k a b : Int32) (q : Q4) : Prop := k = nI q.1 ∧ 1 ≤ q.1 ∧ q.1 ≤ 10 ∧ a = nI q.2.1 ∧ q.2.1 < 1000 ∧ (sg k ∧ q.2.2.1 = 0 ∨ ¬ sg k ∧ b = nI q.2.2.1) ∧ q.2.2.1 < 1000 ∧ q.2.2.2 = 0
theorem v_ax_inj {k a b : Int32} {q r : Q4} (h : v_ax k a b q) (h' : v_ax k a b r) : q = r := by
  obtain ⟨q0, q1, q2, q3⟩ := q
  obtain ⟨r0, r1, r2, r3⟩ := r
  obtain ⟨h1, h2, h3, h4, h5, h6, h8, h7⟩ := h
  obtain ⟨g1, g2, g3, g4, g5, g6, g8, g7⟩ := h'
  simp only at h1 h2 h3 h4 h5 h6 h7 h8 g1 g2 g3 g4 g5 g6 g7 g8
  have e0 : q0 = r0 := (nI_eq (by omega) (by omega)).mp (h1.symm.trans g1)
  have e1 : q1 = r1 := (nI_eq (by omega) (by omega)).mp (h4.symm.trans g4)
  have e2 : q2 = r2 := by
    rcases h6 with ⟨ha, hb⟩ | ⟨ha, hb⟩ <;> rcases g6 with ⟨ga, gb⟩ | ⟨ga, gb⟩
    · omega
    · exact absurd ha ga
    · exact absurd ga ha
    · exact (nI_eq (by omega) (by omega)).mp (hb.symm.trans gb)
  rw [e0, e1, e2, h7, g7]
theorem v_ax_b {k a b : Int32} {q : Q4} (h : v_ax k a b q) : q_b q ∧ 1 ≤ q.1 := by
  obtain ⟨h1, h2, h3, h4, h5, h6, h8, h7⟩ := h
  exact ⟨⟨by omega, h5, h8, by omega⟩, h2⟩
set_option maxHeartbeats 1000000 in
theorem sp_axiom6 {post : Int32 → Int32 → (Nat → Int32) → Prop} {n : Nat} {F : Nat → Int32} {A : Nat → Q4} {k a b : Int32} (hn : n ≤ 100) (hF : a4 F A n)
    (bad : (¬ ∃ q, v_ax k a b q) → post (-2) (nI n) F) (full : ∀ q, v_ax k a b q → n = 100 → post (-4) (nI n) F)
    (ok : ∀ q, v_ax k a b q → n < 100 → ∀ F', a4 F' (q_up A (n + 1) q) (n + 1) → post (nI (n + 1)) (nI (n + 1)) F') : wp_X6_axiom post (nI n) F k a b := by
  have put : ∀ x1 x2 x3 : Nat, v_ax k a b (x1, x2, x3, 0) → n < 100 → post (nI (n + 1)) (nI (n + 1)) (u4 F (n + 1) (nI x1) (nI x2) (nI x3) (nI 0)) :=
    fun x1 x2 x3 hv hl => ok _ hv hl _ (a4_up hF)
  unfold wp_X6_axiom
  refine fj1_i (fun x => x = nI 1 ∧ sg k ∨ x = nI 0 ∧ ¬ sg k) ?_ ?_
  · intro x hx
    refine fx_br_i (fun h => bad ?_) (fun g1 => fx_br_i (fun h => bad ?_) (fun g2 => ?_))
    · rintro ⟨q, h1, h2, h3, -⟩
      rw [h1] at h
      exact nI_nlt h2 (by omega) h
    · rintro ⟨q, h1, h2, h3, -⟩
      rw [h1] at h
      exact nI_nlt h3 (by omega) h
    obtain ⟨κ, hκ1, hκ2, rfl⟩ := i_rng 1 10 (by decide) (by decide) g1 g2
    refine sp_isTerm6 (fun α hα ea => ?_) (fun hf => ?_)
    rotate_left
    · rw [fb_eq0t rfl]
      exact bad (fun ⟨q, h1, h2, h3, h4, h5, _⟩ => hf ⟨_, h5, h4⟩)
    subst ea
    rw [fb_eq0f (by decide) (by decide)]
    rcases hx with ⟨rfl, hs⟩ | ⟨rfl, hs⟩
    · simp (disch := omega) only [↓fb_eq0f, ↓fb_eq0t]
      refine fb_eq (by omega) (by omega) (fun e => full (κ, α, 0, 0) ⟨rfl, hκ1, hκ2, rfl, hα, .inl ⟨hs, rfl⟩, (show 0 < 1000 by decide), rfl⟩ e) (fun e => ?_)
      have := put κ α 0 ⟨rfl, hκ1, hκ2, rfl, hα, .inl ⟨hs, rfl⟩, (show 0 < 1000 by decide), rfl⟩ (by omega)
      simp (disch := omega) only [fx_nm_add, fx_nm_mul, fx_nm_up, fx_ix_n, fj1]
      exact this
    · simp (disch := omega) only [↓fb_eq0f, ↓fb_eq0t]
      refine sp_isTerm6 (fun β hβ eb => ?_) (fun hf => ?_)
      rotate_left
      · rw [fb_eq0t rfl]
        refine bad (fun ⟨q, h1, h2, h3, h4, h5, h6, h8, _⟩ => ?_)
        rcases h6 with ⟨z, _⟩ | ⟨_, z⟩
        · exact hs z
        · exact hf ⟨_, h8, z⟩
      subst eb
      rw [fb_eq0f (by decide) (by decide)]
      refine fb_eq (by omega) (by omega) (fun e => full (κ, α, β, 0) ⟨rfl, hκ1, hκ2, rfl, hα, .inr ⟨hs, rfl⟩, hβ, rfl⟩ e) (fun e => ?_)
      have := put κ α β ⟨rfl, hκ1, hκ2, rfl, hα, .inr ⟨hs, rfl⟩, hβ, rfl⟩ (by omega)
      simp (disch := omega) only [fx_nm_add, fx_nm_mul, fx_nm_up, fx_ix_n, fj1]
      exact this
  · intro K' hK'
    exact fx_br_i (fun h => hK' _ (.inl ⟨rfl, .inl h⟩)) (fun h6 => fx_br_i (fun h => hK' _ (.inl ⟨rfl, .inr (.inl h)⟩)) (fun h7 => fx_br_i (fun h => hK' _ (.inl ⟨rfl, .inr (.inr h)⟩)) (fun h9 => hK' _ (.inr ⟨rfl, fun h => h.elim h6 (fun h => h.elim h7 h9)⟩))))
/-- the class's table: nothing beyond its last -/
def z3 (K : Nat → Int32) (n : Nat) : Prop := ∀ i, n < i → i ≤ 100 → K i = nI 0
theorem z3_up {K : Nat → Int32} {n : Nat} {v : Int32} (h : z3 K n) : z3 (upd K (n + 1) v) (n + 1) := by
  intro i h1 h2
  rw [pk_un (by omega)]
  exact h i (by omega) h2
theorem sp4_put_ {post : (Nat → Int32) → (Nat → Int32) → Prop} {nk nn : Nat} {K N : Nat → Int32} {k : Nat} {a b c d : Int32} (h1 : 1 ≤ k) (h2 : k < nk) (h3 : nk < 1000000) (h4 : k * 3 + 2 < nn)
    (h : post (upd K k a) (u3 N k b c d)) : wp_X4_put_ post nk nn K N (nI k) a b c d := by
  unfold wp_X4_put_
  simp (disch := omega) only [↓fb_ltf, ↓fb_lef, ↓fx_nm_add, ↓fx_nm_mul, ↓fx_nm_up, ↓fx_ix_n]
  exact h
theorem sp4_add {post : Int32 → Int32 → (Nat → Int32) → (Nat → Int32) → Prop} {n : Nat} {K N : Nat → Int32} {a b c d : Int32} (hn : n ≤ 100)
    (full : n = 100 → post (-4) (nI n) K N) (ok : n < 100 → post (nI (n + 1)) (nI (n + 1)) (upd K (n + 1) a) (u3 N (n + 1) b c d)) : wp_X4_add post 101 303 (nI n) K N a b c d := by
  unfold wp_X4_add
  rw [fx_nm_add]
  refine fb_lt (by omega) (by omega) (fun h => ?_) (fun h => full (by omega))
  rw [fx_nm_add]
  exact sp4_put_ (by omega) (by omega) (by omega) (by omega) (ok (by omega))
theorem kn_sg {κ : Nat} (h1 : 1 ≤ κ) (h : κ ≤ 10) : fx_kn.getD κ 0 = 1 ↔ sg (nI κ) := by
  have : ∀ κ : Nat, κ < 11 → (fx_kn.getD κ 0 = 1 ↔ (κ = 6 ∨ κ = 7 ∨ κ = 9)) := by decide
  rw [this κ (by omega), sg, nI_eq (by omega) (by omega), nI_eq (by omega) (by omega), nI_eq (by omega) (by omega)]
theorem kn_b {κ : Nat} (h : κ ≤ 10) : fx_kn.getD κ 0 < 4 := by
  have : ∀ κ : Nat, κ < 11 → fx_kn.getD κ 0 < 4 := by decide
  exact this κ (by omega)
set_option maxHeartbeats 1000000 in
theorem sp_axiom5 {post : Int32 → Int32 → (Nat → Int32) → (Nat → Int32) → Prop} {n : Nat} {K N : Nat → Int32} {A : Nat → Q4} {k a b : Int32} (hn : n ≤ 100) (hF : a3 K N A n) (hz : z3 K n)
    (bad : (¬ ∃ q, v_ax k a b q) → post (-2) (nI n) K N) (full : ∀ q, v_ax k a b q → n = 100 → post (-4) (nI n) K N)
    (ok : ∀ q, v_ax k a b q → n < 100 → ∀ K' N', a3 K' N' (q_up A (n + 1) q) (n + 1) → z3 K' (n + 1) → post (nI (n + 1)) (nI (n + 1)) K' N') : wp_X5_axiom post (nI n) K N k a b := by
  have put : ∀ x1 x2 x3 : Nat, v_ax k a b (x1, x2, x3, 0) → n < 100 → post (nI (n + 1)) (nI (n + 1)) (upd K (n + 1) (nI x1)) (u3 N (n + 1) (nI x2) (nI x3) (nI 0)) :=
    fun x1 x2 x3 hv hl => ok _ hv hl _ _ (a3_up hF) (z3_up hz)
  unfold wp_X5_axiom
  refine fx_br_i (fun h => bad ?_) (fun g1 => fx_br_i (fun h => bad ?_) (fun g2 => ?_))
  · rintro ⟨q, h1, h2, h3, -⟩
    rw [h1] at h
    exact nI_nlt h2 (by omega) h
  · rintro ⟨q, h1, h2, h3, -⟩
    rw [h1] at h
    exact nI_nlt h3 (by omega) h
  obtain ⟨κ, hκ1, hκ2, rfl⟩ := i_rng 1 10 (by decide) (by decide) g1 g2
  rw [fb_lef (by omega) (by omega)]
  refine sp_isTerm5 (fun α hα ea => ?_) (fun hf => ?_)
  rotate_left
  · rw [fb_eq0t rfl]
    exact bad (fun ⟨q, h1, h2, h3, h4, h5, _⟩ => hf ⟨_, h5, h4⟩)
  subst ea
  rw [fb_eq0f (by decide) (by decide), fx_ix_n (by omega) (by omega), fl_t (by omega)]
  refine fj1_i (fun x => x = nI 1 ∧ sg (nI κ) ∨ x = nI 0 ∧ ¬ sg (nI κ)) ?_ ?_
  · intro x hx
    rcases hx with ⟨rfl, hs⟩ | ⟨rfl, hs⟩
    · rw [fb_eq0f (by decide) (by decide), fj1, fb_eq0f (by decide) (by decide)]
      exact sp4_add hn (fun e => full (κ, α, 0, 0) ⟨rfl, hκ1, hκ2, rfl, hα, .inl ⟨hs, rfl⟩, (show 0 < 1000 by decide), rfl⟩ e) (put κ α 0 ⟨rfl, hκ1, hκ2, rfl, hα, .inl ⟨hs, rfl⟩, (show 0 < 1000 by decide), rfl⟩)
    · rw [fb_eq0t rfl]
      refine sp_isTerm5 (fun β hβ eb => ?_) (fun hf => ?_)
      rotate_left
      · rw [fb_eq0t rfl]
        refine bad (fun ⟨q, h1, h2, h3, h4, h5, h6, h8, _⟩ => ?_)
        rcases h6 with ⟨z, _⟩ | ⟨_, z⟩
        · exact hs z
        · exact hf ⟨_, h8, z⟩
      subst eb
      rw [fb_eq0f (by decide) (by decide), fj1, fb_eq0t rfl]
      exact sp4_add hn (fun e => full (κ, α, β, 0) ⟨rfl, hκ1, hκ2, rfl, hα, .inr ⟨hs, rfl⟩, hβ, rfl⟩ e) (put κ α β ⟨rfl, hκ1, hκ2, rfl, hα, .inr ⟨hs, rfl⟩, hβ, rfl⟩)
  · intro K' hK'
    refine fb_eq (Nat.lt_trans (kn_b hκ2) (by decide)) (by decide) (fun h => hK' _ (.inl ⟨rfl, (kn_sg hκ1 hκ2).mp h⟩)) (fun h => hK' _ (.inr ⟨rfl, fun z => h ((kn_sg hκ1 hκ2).mpr z)⟩))

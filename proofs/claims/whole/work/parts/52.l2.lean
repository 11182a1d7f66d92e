/-! LOGIC: triples, both sides -/
theorem k4_kind {post : Int32 → Prop} {nk k : Nat} {K : Nat → Int32} (h1 : 1 ≤ k) (h2 : k < nk) (h3 : nk < 1000000) : wp_X4_kind post nk K (nI k) = post (K k) := by
  unfold wp_X4_kind
  simp (disch := omega) only [↓fb_ltf, ↓fb_lef, ↓fx_nm_rd, ↓fx_ix_n]
theorem k4_number1 {post : Int32 → Prop} {nk nn k : Nat} {N : Nat → Int32} (h1 : 1 ≤ k) (h2 : k < nk) (h3 : nk < 1000000) (h4 : k * 3 + 2 < nn) : wp_X4_number post nk nn N (nI k) (nI 1) = post (N (k * 3)) := by
  unfold wp_X4_number
  simp (disch := omega) only [↓fj1, ↓fb_ltf, ↓fb_lef, ↓fb_eq0f, ↓fx_nm_mul, ↓fx_nm_add, ↓fx_nm_sub, ↓fx_nm_rd, ↓fx_ix_n]
  rw [Nat.add_sub_cancel]
theorem k4_number2 {post : Int32 → Prop} {nk nn k : Nat} {N : Nat → Int32} (h1 : 1 ≤ k) (h2 : k < nk) (h3 : nk < 1000000) (h4 : k * 3 + 2 < nn) : wp_X4_number post nk nn N (nI k) (nI 2) = post (N (k * 3 + 1)) := by
  unfold wp_X4_number
  simp (disch := omega) only [↓fj1, ↓fb_ltf, ↓fb_lef, ↓fb_eq0f, ↓fx_nm_mul, ↓fx_nm_add, ↓fx_nm_sub, ↓fx_nm_rd, ↓fx_ix_n]
  rw [show k * 3 + 2 - 1 = k * 3 + 1 by omega]
theorem k4_number3 {post : Int32 → Prop} {nk nn k : Nat} {N : Nat → Int32} (h1 : 1 ≤ k) (h2 : k < nk) (h3 : nk < 1000000) (h4 : k * 3 + 2 < nn) : wp_X4_number post nk nn N (nI k) (nI 3) = post (N (k * 3 + 2)) := by
  unfold wp_X4_number
  simp (disch := omega) only [↓fj1, ↓fb_ltf, ↓fb_lef, ↓fb_eq0f, ↓fx_nm_mul, ↓fx_nm_add, ↓fx_nm_sub, ↓fx_nm_rd, ↓fx_ix_n]
  rw [show k * 3 + 3 - 1 = k * 3 + 2 by omega]
theorem q_ext {q : Q4} {a b c d : Nat} (h1 : q.1 = a) (h2 : q.2.1 = b) (h3 : q.2.2.1 = c) (h4 : q.2.2.2 = d) : q = (a, b, c, d) := by
  obtain ⟨q0, q1, q2, q3⟩ := q
  simp only at h1 h2 h3 h4
  rw [h1, h2, h3, h4]
theorem sp4_is {post : Int32 → Prop} {nk nn k : Nat} {K N : Nat → Int32} {q r : Q4} (h1 : 1 ≤ k) (h2 : k < nk) (h3 : nk < 1000000) (h4 : k * 3 + 2 < nn) (hq : r3 K N k q) (bq : q_b q) (br : q_b r)
    (t : q = r → post (nI 1)) (f : ¬ q = r → post (nI 0)) : wp_X4_is post nk nn K N (nI k) (nI r.1) (nI r.2.1) (nI r.2.2.1) (nI r.2.2.2) := by
  obtain ⟨e1, e2, e3, e4⟩ := hq
  obtain ⟨b1, b2, b3, b4⟩ := bq
  obtain ⟨c1, c2, c3, c4⟩ := br
  unfold wp_X4_is
  rw [k4_kind h1 h2 h3, k4_number1 h1 h2 h3 h4, k4_number2 h1 h2 h3 h4, k4_number3 h1 h2 h3 h4, e1, e2, e3, e4]
  refine fb_eq (by omega) (by omega) (fun g1 => ?_) (fun g => f (fun z => g (by rw [z])))
  refine fb_eq (by omega) (by omega) (fun g2 => ?_) (fun g => f (fun z => g (by rw [z])))
  refine fb_eq (by omega) (by omega) (fun g3 => ?_) (fun g => f (fun z => g (by rw [z])))
  refine fb_eq (by omega) (by omega) (fun g4 => ?_) (fun g => f (fun z => g (by rw [z])))
  exact t (q_ext g1 g2 g3 g4)
/-- all of a table's statements are in bounds -/
def tb (T : Nat → Q4) (n : Nat) : Prop := ∀ i, 1 ≤ i → i ≤ n → q_b (T i)
theorem sp4_find {post : Int32 → Prop} {n : Nat} {K N : Nat → Int32} {T : Nat → Q4} {r : Q4} (hn : n ≤ 100) (hF : a3 K N T n) (hT : tb T n) (br : q_b r)
    (no : (∀ j, 1 ≤ j → j ≤ n → ¬ T j = r) → post (nI 0)) (yes : ∀ j, 1 ≤ j → j ≤ n → T j = r → (∀ i, 1 ≤ i → i < j → ¬ T i = r) → post (nI j)) : wp_X4_find post 101 303 (nI n) K N (nI r.1) (nI r.2.1) (nI r.2.2.1) (nI r.2.2.2) := by
  unfold wp_X4_find
  refine wh1_up (n + 1) (fun i => 1 ≤ i ∧ ∀ j, 1 ≤ j → j < i → ¬ T j = r) (fun rec i hi hI hr => ?_) 1 (by omega) ⟨by omega, fun j h1 h2 => absurd h1 (by omega)⟩
  obtain ⟨i1, i2⟩ := hI
  refine fb_lt (by omega) (by omega) (fun h => no (fun j h1 h2 => i2 j h1 (by omega))) (fun h => ?_)
  refine sp4_is i1 (by omega) (by omega) (by omega) (hF i i1 h) (hT i i1 h) br (fun e => ?_) (fun e => ?_)
  · rw [fb_eq0f (by decide) (by decide)]
    exact yes i i1 h e i2
  · rw [fb_eq0t rfl, fx_nm_add]
    refine hr (by omega) ⟨by omega, fun j h1 h2 => ?_⟩
    by_cases z : j = i
    · rw [z]; exact e
    · exact i2 j h1 (by omega)
/-- what a triple may be -/
def v_tr (a b c : Int32) (q : Q4) : Prop := q.1 = 11 ∧ a = nI q.2.1 ∧ q.2.1 < 1000 ∧ b = nI q.2.2.1 ∧ q.2.2.1 < 1000 ∧ c = nI q.2.2.2 ∧ q.2.2.2 < 1000
theorem v_tr_inj {a b c : Int32} {q r : Q4} (h : v_tr a b c q) (h' : v_tr a b c r) : q = r := by
  obtain ⟨r0, r1, r2, r3⟩ := r
  obtain ⟨h1, h2, h3, h4, h5, h6, h7⟩ := h
  obtain ⟨g1, g2, g3, g4, g5, g6, g7⟩ := h'
  simp only at g1 g2 g3 g4 g5 g6 g7
  exact q_ext (by omega) ((nI_eq (by omega) (by omega)).mp (h2.symm.trans g2)) ((nI_eq (by omega) (by omega)).mp (h4.symm.trans g4)) ((nI_eq (by omega) (by omega)).mp (h6.symm.trans g6))
theorem v_tr_b {a b c : Int32} {q : Q4} (h : v_tr a b c q) : q_b q ∧ q.1 = 11 := by
  obtain ⟨h1, h2, h3, h4, h5, h6, h7⟩ := h
  exact ⟨⟨by omega, h3, h5, h7⟩, h1⟩
theorem sp_triple5 {post : Int32 → Int32 → (Nat → Int32) → (Nat → Int32) → Prop} {n : Nat} {K N : Nat → Int32} {T : Nat → Q4} {a b c : Int32} (hn : n ≤ 100) (hF : a3 K N T n) (hz : z3 K n) (hT : tb T n)
    (bad : (¬ ∃ q, v_tr a b c q) → post (-2) (nI n) K N)
    (yes : ∀ q, v_tr a b c q → ∀ j, 1 ≤ j → j ≤ n → T j = q → (∀ i, 1 ≤ i → i < j → ¬ T i = q) → post (nI j) (nI n) K N)
    (full : ∀ q, v_tr a b c q → (∀ j, 1 ≤ j → j ≤ n → ¬ T j = q) → n = 100 → post (-4) (nI n) K N)
    (ok : ∀ q, v_tr a b c q → (∀ j, 1 ≤ j → j ≤ n → ¬ T j = q) → n < 100 → ∀ K' N', a3 K' N' (q_up T (n + 1) q) (n + 1) → z3 K' (n + 1) → post (nI (n + 1)) (nI (n + 1)) K' N') : wp_X5_triple post (nI n) K N a b c := by
  unfold wp_X5_triple
  refine sp_isTerm5 (fun α hα ea => ?_) (fun hf => ?_)
  rotate_left
  · rw [fb_eq0t rfl]
    exact bad (fun ⟨q, h1, h2, h3, h4, h5, h6, h7⟩ => hf ⟨_, h3, h2⟩)
  rw [fb_eq0f (by decide) (by decide)]
  refine sp_isTerm5 (fun β hβ eb => ?_) (fun hf => ?_)
  rotate_left
  · rw [fb_eq0t rfl]
    exact bad (fun ⟨q, h1, h2, h3, h4, h5, h6, h7⟩ => hf ⟨_, h5, h4⟩)
  rw [fb_eq0f (by decide) (by decide)]
  refine sp_isTerm5 (fun γ hγ ec => ?_) (fun hf => ?_)
  rotate_left
  · rw [fb_eq0t rfl]
    exact bad (fun ⟨q, h1, h2, h3, h4, h5, h6, h7⟩ => hf ⟨_, h7, h6⟩)
  rw [fb_eq0f (by decide) (by decide)]
  have hv : v_tr a b c (11, α, β, γ) := ⟨rfl, ea, hα, eb, hβ, ec, hγ⟩
  subst ea eb ec
  refine sp4_find (r := (11, α, β, γ)) hn hF hT (v_tr_b hv).1 (fun no => ?_) (fun j h1 h2 h3 h4 => ?_)
  · rw [fb_eq0t rfl]
    exact sp4_add hn (fun e => full _ hv no e) (fun e => ok _ hv no e _ _ (a3_up hF) (z3_up hz))
  · rw [fb_eq0f (by omega) (by omega)]
    exact yes _ hv j h1 h2 h3 h4
theorem sp_triple6 {post : Int32 → Int32 → (Nat → Int32) → Prop} {n : Nat} {F : Nat → Int32} {T : Nat → Q4} {a b c : Int32} (hn : n ≤ 100) (hF : a4 F T n) (hT : tb T n) (hk : ∀ i, 1 ≤ i → i ≤ n → (T i).1 = 11)
    (bad : (¬ ∃ q, v_tr a b c q) → post (-2) (nI n) F)
    (yes : ∀ q, v_tr a b c q → ∀ j, 1 ≤ j → j ≤ n → T j = q → (∀ i, 1 ≤ i → i < j → ¬ T i = q) → post (nI j) (nI n) F)
    (full : ∀ q, v_tr a b c q → (∀ j, 1 ≤ j → j ≤ n → ¬ T j = q) → n = 100 → post (-4) (nI n) F)
    (ok : ∀ q, v_tr a b c q → (∀ j, 1 ≤ j → j ≤ n → ¬ T j = q) → n < 100 → ∀ F', a4 F' (q_up T (n + 1) q) (n + 1) → post (nI (n + 1)) (nI (n + 1)) F') : wp_X6_triple post (nI n) F a b c := by
  unfold wp_X6_triple
  refine sp_isTerm6 (fun α hα ea => ?_) (fun hf => ?_)
  rotate_left
  · rw [fb_eq0t rfl]
    exact bad (fun ⟨q, h1, h2, h3, h4, h5, h6, h7⟩ => hf ⟨_, h3, h2⟩)
  rw [fb_eq0f (by decide) (by decide)]
  refine sp_isTerm6 (fun β hβ eb => ?_) (fun hf => ?_)
  rotate_left
  · rw [fb_eq0t rfl]
    exact bad (fun ⟨q, h1, h2, h3, h4, h5, h6, h7⟩ => hf ⟨_, h5, h4⟩)
  rw [fb_eq0f (by decide) (by decide)]
  refine sp_isTerm6 (fun γ hγ ec => ?_) (fun hf => ?_)
  rotate_left
  · rw [fb_eq0t rfl]
    exact bad (fun ⟨q, h1, h2, h3, h4, h5, h6, h7⟩ => hf ⟨_, h7, h6⟩)
  rw [fb_eq0f (by decide) (by decide)]
  have hv : v_tr a b c (11, α, β, γ) := ⟨rfl, ea, hα, eb, hβ, ec, hγ⟩
  subst ea eb ec
  refine wh1_up (n + 1) (fun i => 1 ≤ i ∧ ∀ j, 1 ≤ j → j < i → ¬ T j = (11, α, β, γ)) (fun rec i hi hI hr => ?_) 1 (by omega) ⟨by omega, fun j h1 h2 => absurd h1 (by omega)⟩
  obtain ⟨i1, i2⟩ := hI
  refine fb_lt (by omega) (by omega) (fun h => ?_) (fun h => ?_)
  · have no : ∀ j, 1 ≤ j → j ≤ n → ¬ T j = (11, α, β, γ) := fun j h1 h2 => i2 j h1 (by omega)
    refine fb_eq (by omega) (by omega) (fun e => full _ hv no e) (fun e => ?_)
    have := ok _ hv no (by omega) _ (a4_up hF)
    simp (disch := omega) only [↓fx_nm_add, ↓fx_nm_mul, ↓fx_nm_up, ↓fx_ix_n]
    exact this
  · obtain ⟨e1, e2, e3, e4⟩ := hF i i1 h
    obtain ⟨b1, b2, b3, b4⟩ := hT i i1 h
    have next : (¬ T i = (11, α, β, γ)) → rec (nI (i + 1)) := by
      intro e
      refine hr (by omega) ⟨by omega, fun j h1 h2 => ?_⟩
      by_cases z : j = i
      · rw [z]; exact e
      · exact i2 j h1 (by omega)
    simp (disch := omega) only [↓fx_nm_add, ↓fx_nm_mul, ↓fx_nm_rd, ↓fx_ix_n]
    rw [e2, e3, e4]
    refine fb_eq (by omega) (by omega) (fun g2 => ?_) (fun g => next (fun z => g (by rw [z])))
    refine fb_eq (by omega) (by omega) (fun g3 => ?_) (fun g => next (fun z => g (by rw [z])))
    refine fb_eq (by omega) (by omega) (fun g4 => ?_) (fun g => next (fun z => g (by rw [z])))
    exact yes _ hv i i1 h (q_ext (hk i i1 h) g2 g3 g4) i2

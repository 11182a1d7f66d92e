/-! LOGIC: a statement told by the reference -/
theorem pz_b : ∀ p : Nat, p < 41 → (pz.getD p []).length ≤ 24 := by decide +kernel
theorem pu {post : Int32 → (Nat → Int32) → Prop} {g : Nat → Int64} (hg : ∀ j, j < 98 → g j = lN (fx_ph.getD j 0)) {p b : Nat} (hp : p < 41) {F : Nat → Int32} {l : List Nat} (hl : l.length ≤ b) (hb : b ≤ 370) (hF : tx F l) (h : ∀ F', tx F' (l ++ pz.getD p []) → (l ++ pz.getD p []).length ≤ b + 24 → post (nI (l ++ pz.getD p []).length) F') : wp_X6_put post (nI l.length) g F (nI p) := by
  have := pz_b p hp
  exact sp_put hg hp (by omega) hF (fun F' hF' => h F' hF' (by rw [List.length_append]; omega))
theorem nu {post : Int32 → (Nat → Int32) → Prop} {n b : Nat} (hn : n < 1000) {F : Nat → Int32} {l : List Nat} (hl : l.length ≤ b) (hb : b ≤ 370) (hF : tx F l) (h : ∀ F', tx F' (l ++ dg n) → (l ++ dg n).length ≤ b + 3 → post (nI (l ++ dg n).length) F') : wp_X6_number post (nI l.length) F (nI n) := by
  have := dg_3 n
  exact sp_num hn (by omega) hF (fun F' hF' => h F' hF' (by rw [List.length_append]; omega))
theorem ss0 {post : Int32 → (Nat → Int32) → Prop} {g : Nat → Int64} (hg : ∀ j, j < 98 → g j = lN (fx_ph.getD j 0)) {F : Nat → Int32} {l : List Nat} (hl : l.length ≤ 200) (hF : tx F l) {a b c : Nat} (b2 : a < 1000) (b3 : b < 1000) (b4 : c < 1000) (h : ∀ F', tx F' (l ++ sx (0, a, b, c)) → post (nI (l ++ sx (0, a, b, c)).length) F') : wp_X6_statement post (nI l.length) g F (nI 0) (nI a) (nI b) (nI c) := by
  unfold wp_X6_statement
  simp (disch := omega) only [↓fj1, ↓fj2, ↓fb_eqt, ↓fb_eqf, ↓fb_eq0t, ↓fb_eq0f, ↓fb_let, ↓fb_lef]
  refine pu hg (by decide) hl (by decide) hF (fun F1 h1 e1 => ?_)
  have e : l ++ pz.getD 18 [] = l ++ sx (0, a, b, c) := by
    refine congrArg (fun z => l ++ z) ?_
    rfl
  rw [e] at h1 ⊢
  exact h _ h1
theorem ss1 {post : Int32 → (Nat → Int32) → Prop} {g : Nat → Int64} (hg : ∀ j, j < 98 → g j = lN (fx_ph.getD j 0)) {F : Nat → Int32} {l : List Nat} (hl : l.length ≤ 200) (hF : tx F l) {a b c : Nat} (b2 : a < 1000) (b3 : b < 1000) (b4 : c < 1000) (h : ∀ F', tx F' (l ++ sx (1, a, b, c)) → post (nI (l ++ sx (1, a, b, c)).length) F') : wp_X6_statement post (nI l.length) g F (nI 1) (nI a) (nI b) (nI c) := by
  unfold wp_X6_statement
  simp (disch := omega) only [↓fj1, ↓fj2, ↓fb_eqt, ↓fb_eqf, ↓fb_eq0t, ↓fb_eq0f, ↓fb_let, ↓fb_lef]
  refine pu hg (by decide) hl (by decide) hF (fun F1 h1 e1 => ?_)
  refine nu b2 e1 (by decide) h1 (fun F2 h2 e2 => ?_)
  refine pu hg (by decide) e2 (by decide) h2 (fun F3 h3 e3 => ?_)
  refine nu b3 e3 (by decide) h3 (fun F4 h4 e4 => ?_)
  have e : l ++ pz.getD 20 [] ++ dg a ++ pz.getD 22 [] ++ dg b = l ++ sx (1, a, b, c) := by
    simp only [List.append_assoc]
    refine congrArg (fun z => l ++ z) ?_
    rw [← List.append_nil (dg b)]
    rfl
  rw [e] at h4 ⊢
  exact h _ h4
theorem ss2 {post : Int32 → (Nat → Int32) → Prop} {g : Nat → Int64} (hg : ∀ j, j < 98 → g j = lN (fx_ph.getD j 0)) {F : Nat → Int32} {l : List Nat} (hl : l.length ≤ 200) (hF : tx F l) {a b c : Nat} (b2 : a < 1000) (b3 : b < 1000) (b4 : c < 1000) (h : ∀ F', tx F' (l ++ sx (2, a, b, c)) → post (nI (l ++ sx (2, a, b, c)).length) F') : wp_X6_statement post (nI l.length) g F (nI 2) (nI a) (nI b) (nI c) := by
  unfold wp_X6_statement
  simp (disch := omega) only [↓fj1, ↓fj2, ↓fb_eqt, ↓fb_eqf, ↓fb_eq0t, ↓fb_eq0f, ↓fb_let, ↓fb_lef]
  refine nu b2 hl (by decide) hF (fun F1 h1 e1 => ?_)
  refine pu hg (by decide) e1 (by decide) h1 (fun F2 h2 e2 => ?_)
  refine nu b3 e2 (by decide) h2 (fun F3 h3 e3 => ?_)
  have e : l ++ dg a ++ pz.getD 23 [] ++ dg b = l ++ sx (2, a, b, c) := by
    simp only [List.append_assoc]
    refine congrArg (fun z => l ++ z) ?_
    rw [← List.append_nil (dg b)]
    rfl
  rw [e] at h3 ⊢
  exact h _ h3
theorem ss3 {post : Int32 → (Nat → Int32) → Prop} {g : Nat → Int64} (hg : ∀ j, j < 98 → g j = lN (fx_ph.getD j 0)) {F : Nat → Int32} {l : List Nat} (hl : l.length ≤ 200) (hF : tx F l) {a b c : Nat} (b2 : a < 1000) (b3 : b < 1000) (b4 : c < 1000) (h : ∀ F', tx F' (l ++ sx (3, a, b, c)) → post (nI (l ++ sx (3, a, b, c)).length) F') : wp_X6_statement post (nI l.length) g F (nI 3) (nI a) (nI b) (nI c) := by
  unfold wp_X6_statement
  simp (disch := omega) only [↓fj1, ↓fj2, ↓fb_eqt, ↓fb_eqf, ↓fb_eq0t, ↓fb_eq0f, ↓fb_let, ↓fb_lef]
  refine pu hg (by decide) hl (by decide) hF (fun F1 h1 e1 => ?_)
  refine nu b2 e1 (by decide) h1 (fun F2 h2 e2 => ?_)
  refine pu hg (by decide) e2 (by decide) h2 (fun F3 h3 e3 => ?_)
  refine nu b3 e3 (by decide) h3 (fun F4 h4 e4 => ?_)
  have e : l ++ pz.getD 21 [] ++ dg a ++ pz.getD 24 [] ++ dg b = l ++ sx (3, a, b, c) := by
    simp only [List.append_assoc]
    refine congrArg (fun z => l ++ z) ?_
    rw [← List.append_nil (dg b)]
    rfl
  rw [e] at h4 ⊢
  exact h _ h4
theorem ss4 {post : Int32 → (Nat → Int32) → Prop} {g : Nat → Int64} (hg : ∀ j, j < 98 → g j = lN (fx_ph.getD j 0)) {F : Nat → Int32} {l : List Nat} (hl : l.length ≤ 200) (hF : tx F l) {a b c : Nat} (b2 : a < 1000) (b3 : b < 1000) (b4 : c < 1000) (h : ∀ F', tx F' (l ++ sx (4, a, b, c)) → post (nI (l ++ sx (4, a, b, c)).length) F') : wp_X6_statement post (nI l.length) g F (nI 4) (nI a) (nI b) (nI c) := by
  unfold wp_X6_statement
  simp (disch := omega) only [↓fj1, ↓fj2, ↓fb_eqt, ↓fb_eqf, ↓fb_eq0t, ↓fb_eq0f, ↓fb_let, ↓fb_lef]
  refine pu hg (by decide) hl (by decide) hF (fun F1 h1 e1 => ?_)
  refine nu b2 e1 (by decide) h1 (fun F2 h2 e2 => ?_)
  refine pu hg (by decide) e2 (by decide) h2 (fun F3 h3 e3 => ?_)
  refine nu b3 e3 (by decide) h3 (fun F4 h4 e4 => ?_)
  have e : l ++ pz.getD 21 [] ++ dg a ++ pz.getD 25 [] ++ dg b = l ++ sx (4, a, b, c) := by
    simp only [List.append_assoc]
    refine congrArg (fun z => l ++ z) ?_
    rw [← List.append_nil (dg b)]
    rfl
  rw [e] at h4 ⊢
  exact h _ h4
theorem ss5 {post : Int32 → (Nat → Int32) → Prop} {g : Nat → Int64} (hg : ∀ j, j < 98 → g j = lN (fx_ph.getD j 0)) {F : Nat → Int32} {l : List Nat} (hl : l.length ≤ 200) (hF : tx F l) {a b c : Nat} (b2 : a < 1000) (b3 : b < 1000) (b4 : c < 1000) (h : ∀ F', tx F' (l ++ sx (5, a, b, c)) → post (nI (l ++ sx (5, a, b, c)).length) F') : wp_X6_statement post (nI l.length) g F (nI 5) (nI a) (nI b) (nI c) := by
  unfold wp_X6_statement
  simp (disch := omega) only [↓fj1, ↓fj2, ↓fb_eqt, ↓fb_eqf, ↓fb_eq0t, ↓fb_eq0f, ↓fb_let, ↓fb_lef]
  refine pu hg (by decide) hl (by decide) hF (fun F1 h1 e1 => ?_)
  refine nu b2 e1 (by decide) h1 (fun F2 h2 e2 => ?_)
  refine pu hg (by decide) e2 (by decide) h2 (fun F3 h3 e3 => ?_)
  refine nu b3 e3 (by decide) h3 (fun F4 h4 e4 => ?_)
  refine pu hg (by decide) e4 (by decide) h4 (fun F5 h5 e5 => ?_)
  have e : l ++ pz.getD 20 [] ++ dg a ++ pz.getD 26 [] ++ dg b ++ pz.getD 34 [] = l ++ sx (5, a, b, c) := by
    simp only [List.append_assoc]
    refine congrArg (fun z => l ++ z) ?_
    rfl
  rw [e] at h5 ⊢
  exact h _ h5
theorem ss6 {post : Int32 → (Nat → Int32) → Prop} {g : Nat → Int64} (hg : ∀ j, j < 98 → g j = lN (fx_ph.getD j 0)) {F : Nat → Int32} {l : List Nat} (hl : l.length ≤ 200) (hF : tx F l) {a b c : Nat} (b2 : a < 1000) (b3 : b < 1000) (b4 : c < 1000) (h : ∀ F', tx F' (l ++ sx (6, a, b, c)) → post (nI (l ++ sx (6, a, b, c)).length) F') : wp_X6_statement post (nI l.length) g F (nI 6) (nI a) (nI b) (nI c) := by
  unfold wp_X6_statement
  simp (disch := omega) only [↓fj1, ↓fj2, ↓fb_eqt, ↓fb_eqf, ↓fb_eq0t, ↓fb_eq0f, ↓fb_let, ↓fb_lef]
  refine nu b2 hl (by decide) hF (fun F1 h1 e1 => ?_)
  refine pu hg (by decide) e1 (by decide) h1 (fun F2 h2 e2 => ?_)
  have e : l ++ dg a ++ pz.getD 27 [] = l ++ sx (6, a, b, c) := by
    simp only [List.append_assoc]
    refine congrArg (fun z => l ++ z) ?_
    rfl
  rw [e] at h2 ⊢
  exact h _ h2
theorem ss7 {post : Int32 → (Nat → Int32) → Prop} {g : Nat → Int64} (hg : ∀ j, j < 98 → g j = lN (fx_ph.getD j 0)) {F : Nat → Int32} {l : List Nat} (hl : l.length ≤ 200) (hF : tx F l) {a b c : Nat} (b2 : a < 1000) (b3 : b < 1000) (b4 : c < 1000) (h : ∀ F', tx F' (l ++ sx (7, a, b, c)) → post (nI (l ++ sx (7, a, b, c)).length) F') : wp_X6_statement post (nI l.length) g F (nI 7) (nI a) (nI b) (nI c) := by
  unfold wp_X6_statement
  simp (disch := omega) only [↓fj1, ↓fj2, ↓fb_eqt, ↓fb_eqf, ↓fb_eq0t, ↓fb_eq0f, ↓fb_let, ↓fb_lef]
  refine nu b2 hl (by decide) hF (fun F1 h1 e1 => ?_)
  refine pu hg (by decide) e1 (by decide) h1 (fun F2 h2 e2 => ?_)
  have e : l ++ dg a ++ pz.getD 28 [] = l ++ sx (7, a, b, c) := by
    simp only [List.append_assoc]
    refine congrArg (fun z => l ++ z) ?_
    rfl
  rw [e] at h2 ⊢
  exact h _ h2
theorem ss8 {post : Int32 → (Nat → Int32) → Prop} {g : Nat → Int64} (hg : ∀ j, j < 98 → g j = lN (fx_ph.getD j 0)) {F : Nat → Int32} {l : List Nat} (hl : l.length ≤ 200) (hF : tx F l) {a b c : Nat} (b2 : a < 1000) (b3 : b < 1000) (b4 : c < 1000) (h : ∀ F', tx F' (l ++ sx (8, a, b, c)) → post (nI (l ++ sx (8, a, b, c)).length) F') : wp_X6_statement post (nI l.length) g F (nI 8) (nI a) (nI b) (nI c) := by
  unfold wp_X6_statement
  simp (disch := omega) only [↓fj1, ↓fj2, ↓fb_eqt, ↓fb_eqf, ↓fb_eq0t, ↓fb_eq0f, ↓fb_let, ↓fb_lef]
  refine nu b2 hl (by decide) hF (fun F1 h1 e1 => ?_)
  refine pu hg (by decide) e1 (by decide) h1 (fun F2 h2 e2 => ?_)
  refine nu b3 e2 (by decide) h2 (fun F3 h3 e3 => ?_)
  refine pu hg (by decide) e3 (by decide) h3 (fun F4 h4 e4 => ?_)
  have e : l ++ dg a ++ pz.getD 29 [] ++ dg b ++ pz.getD 35 [] = l ++ sx (8, a, b, c) := by
    simp only [List.append_assoc]
    refine congrArg (fun z => l ++ z) ?_
    rfl
  rw [e] at h4 ⊢
  exact h _ h4
theorem ss9 {post : Int32 → (Nat → Int32) → Prop} {g : Nat → Int64} (hg : ∀ j, j < 98 → g j = lN (fx_ph.getD j 0)) {F : Nat → Int32} {l : List Nat} (hl : l.length ≤ 200) (hF : tx F l) {a b c : Nat} (b2 : a < 1000) (b3 : b < 1000) (b4 : c < 1000) (h : ∀ F', tx F' (l ++ sx (9, a, b, c)) → post (nI (l ++ sx (9, a, b, c)).length) F') : wp_X6_statement post (nI l.length) g F (nI 9) (nI a) (nI b) (nI c) := by
  unfold wp_X6_statement
  simp (disch := omega) only [↓fj1, ↓fj2, ↓fb_eqt, ↓fb_eqf, ↓fb_eq0t, ↓fb_eq0f, ↓fb_let, ↓fb_lef]
  refine nu b2 hl (by decide) hF (fun F1 h1 e1 => ?_)
  refine pu hg (by decide) e1 (by decide) h1 (fun F2 h2 e2 => ?_)
  have e : l ++ dg a ++ pz.getD 30 [] = l ++ sx (9, a, b, c) := by
    simp only [List.append_assoc]
    refine congrArg (fun z => l ++ z) ?_
    rfl
  rw [e] at h2 ⊢
  exact h _ h2
theorem ss10 {post : Int32 → (Nat → Int32) → Prop} {g : Nat → Int64} (hg : ∀ j, j < 98 → g j = lN (fx_ph.getD j 0)) {F : Nat → Int32} {l : List Nat} (hl : l.length ≤ 200) (hF : tx F l) {a b c : Nat} (b2 : a < 1000) (b3 : b < 1000) (b4 : c < 1000) (h : ∀ F', tx F' (l ++ sx (10, a, b, c)) → post (nI (l ++ sx (10, a, b, c)).length) F') : wp_X6_statement post (nI l.length) g F (nI 10) (nI a) (nI b) (nI c) := by
  unfold wp_X6_statement
  simp (disch := omega) only [↓fj1, ↓fj2, ↓fb_eqt, ↓fb_eqf, ↓fb_eq0t, ↓fb_eq0f, ↓fb_let, ↓fb_lef]
  refine nu b2 hl (by decide) hF (fun F1 h1 e1 => ?_)
  refine pu hg (by decide) e1 (by decide) h1 (fun F2 h2 e2 => ?_)
  refine nu b3 e2 (by decide) h2 (fun F3 h3 e3 => ?_)
  have e : l ++ dg a ++ pz.getD 31 [] ++ dg b = l ++ sx (10, a, b, c) := by
    simp only [List.append_assoc]
    refine congrArg (fun z => l ++ z) ?_
    rw [← List.append_nil (dg b)]
    rfl
  rw [e] at h3 ⊢
  exact h _ h3
theorem ss11 {post : Int32 → (Nat → Int32) → Prop} {g : Nat → Int64} (hg : ∀ j, j < 98 → g j = lN (fx_ph.getD j 0)) {F : Nat → Int32} {l : List Nat} (hl : l.length ≤ 200) (hF : tx F l) {a b c : Nat} (b2 : a < 1000) (b3 : b < 1000) (b4 : c < 1000) (h : ∀ F', tx F' (l ++ sx (11, a, b, c)) → post (nI (l ++ sx (11, a, b, c)).length) F') : wp_X6_statement post (nI l.length) g F (nI 11) (nI a) (nI b) (nI c) := by
  unfold wp_X6_statement
  by_cases z0 : b = 0
  · subst z0
    simp (disch := omega) only [↓fj1, ↓fj2, ↓fb_eqt, ↓fb_eqf, ↓fb_eq0t, ↓fb_eq0f, ↓fb_let, ↓fb_lef]
    refine nu b2 hl (by decide) hF (fun F1 h1 e1 => ?_)
    refine pu hg (by decide) e1 (by decide) h1 (fun F2 h2 e2 => ?_)
    refine nu b4 e2 (by decide) h2 (fun F3 h3 e3 => ?_)
    have e : l ++ dg a ++ pz.getD 32 [] ++ dg c = l ++ sx (11, a, 0, c) := by
      simp only [List.append_assoc]
      refine congrArg (fun z => l ++ z) ?_
      rw [← List.append_nil (dg c)]
      rfl
    rw [e] at h3 ⊢
    exact h _ h3
  by_cases z1 : b = 1
  · subst z1
    simp (disch := omega) only [↓fj1, ↓fj2, ↓fb_eqt, ↓fb_eqf, ↓fb_eq0t, ↓fb_eq0f, ↓fb_let, ↓fb_lef]
    refine nu b2 hl (by decide) hF (fun F1 h1 e1 => ?_)
    refine pu hg (by decide) e1 (by decide) h1 (fun F2 h2 e2 => ?_)
    refine nu b4 e2 (by decide) h2 (fun F3 h3 e3 => ?_)
    have e : l ++ dg a ++ pz.getD 29 [] ++ dg c = l ++ sx (11, a, 1, c) := by
      simp only [List.append_assoc]
      refine congrArg (fun z => l ++ z) ?_
      rw [← List.append_nil (dg c)]
      rfl
    rw [e] at h3 ⊢
    exact h _ h3
  simp (disch := omega) only [↓fj1, ↓fj2, ↓fb_eqt, ↓fb_eqf, ↓fb_eq0t, ↓fb_eq0f, ↓fb_let, ↓fb_lef]
  have hw : wd (11, a, b, c) = 24 := by unfold wd; rw [if_neg (fun z => z0 z.2), if_neg (fun z => z1 z.2)]; rfl
  refine nu b2 hl (by decide) hF (fun F1 h1 e1 => ?_)
  refine pu hg (by decide) e1 (by decide) h1 (fun F2 h2 e2 => ?_)
  refine nu b3 e2 (by decide) h2 (fun F3 h3 e3 => ?_)
  refine pu hg (by decide) e3 (by decide) h3 (fun F4 h4 e4 => ?_)
  refine nu b4 e4 (by decide) h4 (fun F5 h5 e5 => ?_)
  have e : l ++ dg a ++ pz.getD 33 [] ++ dg b ++ pz.getD 33 [] ++ dg c = l ++ sx (11, a, b, c) := by
    simp only [List.append_assoc]
    refine congrArg (fun z => l ++ z) ?_
    rw [sx, hw]
    rw [← List.append_nil (dg c)]
    rfl
  rw [e] at h5 ⊢
  exact h _ h5
theorem ss12 {post : Int32 → (Nat → Int32) → Prop} {g : Nat → Int64} (hg : ∀ j, j < 98 → g j = lN (fx_ph.getD j 0)) {F : Nat → Int32} {l : List Nat} (hl : l.length ≤ 200) (hF : tx F l) {a b c : Nat} (b2 : a < 1000) (b3 : b < 1000) (b4 : c < 1000) (h : ∀ F', tx F' (l ++ sx (12, a, b, c)) → post (nI (l ++ sx (12, a, b, c)).length) F') : wp_X6_statement post (nI l.length) g F (nI 12) (nI a) (nI b) (nI c) := by
  unfold wp_X6_statement
  simp (disch := omega) only [↓fj1, ↓fj2, ↓fb_eqt, ↓fb_eqf, ↓fb_eq0t, ↓fb_eq0f, ↓fb_let, ↓fb_lef]
  refine pu hg (by decide) hl (by decide) hF (fun F1 h1 e1 => ?_)
  have e : l ++ pz.getD 19 [] = l ++ sx (12, a, b, c) := by
    refine congrArg (fun z => l ++ z) ?_
    rfl
  rw [e] at h1 ⊢
  exact h _ h1
theorem sp_state6 {post : Int32 → (Nat → Int32) → Prop} {g : Nat → Int64} (hg : ∀ j, j < 98 → g j = lN (fx_ph.getD j 0)) {F : Nat → Int32} {l : List Nat} (hl : l.length ≤ 200) (hF : tx F l) {s : Q4} (hb : q_b s) (h : ∀ F', tx F' (l ++ sx s) → post (nI (l ++ sx s).length) F') : wp_X6_statement post (nI l.length) g F (nI s.1) (nI s.2.1) (nI s.2.2.1) (nI s.2.2.2) := by
  obtain ⟨k, a, b, c⟩ := s
  obtain ⟨b1, b2, b3, b4⟩ := hb
  replace b1 : k ≤ 12 := b1
  rcases (show k = 0 ∨ k = 1 ∨ k = 2 ∨ k = 3 ∨ k = 4 ∨ k = 5 ∨ k = 6 ∨ k = 7 ∨ k = 8 ∨ k = 9 ∨ k = 10 ∨ k = 11 ∨ k = 12 by omega) with rfl | rfl | rfl | rfl | rfl | rfl | rfl | rfl | rfl | rfl | rfl | rfl | rfl
  · exact ss0 hg hl hF b2 b3 b4 h
  · exact ss1 hg hl hF b2 b3 b4 h
  · exact ss2 hg hl hF b2 b3 b4 h
  · exact ss3 hg hl hF b2 b3 b4 h
  · exact ss4 hg hl hF b2 b3 b4 h
  · exact ss5 hg hl hF b2 b3 b4 h
  · exact ss6 hg hl hF b2 b3 b4 h
  · exact ss7 hg hl hF b2 b3 b4 h
  · exact ss8 hg hl hF b2 b3 b4 h
  · exact ss9 hg hl hF b2 b3 b4 h
  · exact ss10 hg hl hF b2 b3 b4 h
  · exact ss11 hg hl hF b2 b3 b4 h
  · exact ss12 hg hl hF b2 b3 b4 h

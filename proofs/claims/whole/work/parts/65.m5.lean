/-! LOGIC: name, states, concludes, of both -/
theorem sp_name5 {post : Int32 → Prop} {R I C P : Nat → Int32} {ru : Nat → Nat} {ins : Nat → Int32} {cn : Nat → Nat} {pr : Nat → Nat → Nat} {n : Nat} {a : Int32} (hn : n ≤ 300) (hrr : rr R I C P ru ins cn pr n)
    (no : (¬ ∃ r, 1 ≤ r ∧ r ≤ n ∧ a = nI r) → post (-1)) (ok : ∀ r, 1 ≤ r → r ≤ n → a = nI r → post (nI (ru r))) : wp_X5_name post (nI n) R a := by
  unfold wp_X5_name
  refine sp2_has hn (fun r r1 r2 hr => ?_) (fun z => ?_)
  · rw [fb_eq0f (by decide) (by decide), hr, k2_rule r1 r2 hn, (hrr r r1 r2).1]
    exact ok r r1 r2 hr
  · rw [fb_eq0t rfl]
    exact no z
theorem sp_name6 {post : Int32 → Prop} {R I C P : Nat → Int32} {ru : Nat → Nat} {ins : Nat → Int32} {cn : Nat → Nat} {pr : Nat → Nat → Nat} {n : Nat} {a : Int32} (hn : n ≤ 300) (hrr : rr R I C P ru ins cn pr n)
    (no : (¬ ∃ r, 1 ≤ r ∧ r ≤ n ∧ a = nI r) → post (-1)) (ok : ∀ r, 1 ≤ r → r ≤ n → a = nI r → post (nI (ru r))) : wp_X6_name post (nI n) R a := by
  unfold wp_X6_name
  refine sp_isRow6 hn (fun r r1 r2 hr => ?_) (fun z => ?_)
  · rw [fb_eq0f (by decide) (by decide), hr, fx_ix_n (by omega) (by omega), fx_nm_rd, (hrr r r1 r2).1]
    exact ok r r1 r2 hr
  · rw [fb_eq0t rfl]
    exact no z
def qw (q : Q4) (w : Nat) : Nat := if w = 0 then q.1 else if w = 1 then q.2.1 else if w = 2 then q.2.2.1 else q.2.2.2
theorem r4_w {F : Nat → Int32} {i w : Nat} {q : Q4} (h : r4 F i q) (hw : w < 4) : F (4 * i + w) = nI (qw q w) := by
  obtain ⟨h1, h2, h3, h4⟩ := h
  rcases (show w = 0 ∨ w = 1 ∨ w = 2 ∨ w = 3 by omega) with rfl | rfl | rfl | rfl
  · exact h1
  · exact h2
  · exact h3
  · exact h4
theorem le3_rng {x : Int32} (h1 : ¬ x < 0) (h2 : x ≤ nI 3) : ∃ w : Nat, w < 4 ∧ x = nI w := by
  obtain ⟨j, -, b, c⟩ := i_rng (k := x) 0 3 (by decide) (by decide) (by rw [nI_0]; exact h1) (Int32.not_lt.mpr h2)
  exact ⟨j, by omega, c⟩
theorem sp_states5 {post : Int32 → Prop} {K N : Nat → Int32} {S : Nat → Q4} {n : Nat} {a b : Int32} (hn : n ≤ 300) (hK : a3 K N S n)
    (no : (¬ ∃ r, 1 ≤ r ∧ r ≤ n ∧ a = nI r) → post (-1)) (bad : ∀ r, 1 ≤ r → r ≤ n → a = nI r → (¬ ∃ w : Nat, w < 4 ∧ b = nI w) → post (-2)) (ok : ∀ r w, 1 ≤ r → r ≤ n → a = nI r → w < 4 → b = nI w → post (nI (qw (S r) w))) : wp_X5_states post (nI n) K N a b := by
  unfold wp_X5_states
  refine sp2_has hn (fun r r1 r2 hr => ?_) (fun z => ?_)
  rotate_left
  · rw [fb_eq0t rfl]
    exact no z
  rw [fb_eq0f (by decide) (by decide)]
  refine fx_br_i (fun h => bad r r1 r2 hr ?_) (fun g1 => fx_br_i (fun g2 => ?_) (fun h => bad r r1 r2 hr ?_))
  · rintro ⟨w, hw, rfl⟩
    exact nI_pos (by omega) h
  rotate_left
  · rintro ⟨w, hw, rfl⟩
    exact h (nI_le (by omega) (by decide))
  obtain ⟨w, hw, rfl⟩ := le3_rng g1 g2
  have := ok r w r1 r2 hr hw rfl
  subst hr
  obtain ⟨q1, q2, q3, q4⟩ := hK r r1 r2
  rcases (show w = 0 ∨ w = 1 ∨ w = 2 ∨ w = 3 by omega) with rfl | rfl | rfl | rfl
  · rw [fb_eq0t rfl, k4_kind r1 (by omega) (by omega), q1]
    exact this
  · rw [fb_eq0f (by decide) (by decide), k4_number1 r1 (by omega) (by omega) (by omega), q2]
    exact this
  · rw [fb_eq0f (by decide) (by decide), k4_number2 r1 (by omega) (by omega) (by omega), q3]
    exact this
  · rw [fb_eq0f (by decide) (by decide), k4_number3 r1 (by omega) (by omega) (by omega), q4]
    exact this
theorem sp_states6 {post : Int32 → (Nat → Int32) → Prop} {FA FT R I C P F : Nat → Int32} {A T S : Nat → Q4} {ru : Nat → Nat} {ins : Nat → Int32} {cn : Nat → Nat} {pr : Nat → Nat → Nat} {na nt n : Nat} {a b : Int32} (hna : na ≤ 100) (hnt : nt ≤ 100) (hn : n ≤ 300)
    (hA : a4 FA A na) (hT : a4 FT T nt) (hrr : rr R I C P ru ins cn pr n) (hwf : wf na nt ru ins cn pr n) (hS : stt A T S ru ins cn pr n) (hB : tb S n)
    (no : (¬ ∃ r, 1 ≤ r ∧ r ≤ n ∧ a = nI r) → post (-1) F) (bad : ∀ r, 1 ≤ r → r ≤ n → a = nI r → (¬ ∃ w : Nat, w < 4 ∧ b = nI w) → post (-2) F) (ok : ∀ r w, 1 ≤ r → r ≤ n → a = nI r → w < 4 → b = nI w → ∀ F', post (nI (qw (S r) w)) F') : wp_X6_states post (nI n) FA FT R I C P F a b := by
  unfold wp_X6_states
  refine sp_isRow6 hn (fun r r1 r2 hr => ?_) (fun z => ?_)
  rotate_left
  · rw [fb_eq0t rfl]
    exact no z
  rw [fb_eq0f (by decide) (by decide)]
  refine fx_br_i (fun h => bad r r1 r2 hr ?_) (fun g1 => fx_br_i (fun g2 => ?_) (fun h => bad r r1 r2 hr ?_))
  · rintro ⟨w, hw, rfl⟩
    exact nI_pos (by omega) h
  rotate_left
  · rintro ⟨w, hw, rfl⟩
    exact h (nI_le (by omega) (by decide))
  obtain ⟨w, hw, rfl⟩ := le3_rng g1 g2
  have := ok r w r1 r2 hr hw rfl
  subst hr
  refine sp6_work hna hnt hn r2 hA hT hrr hwf hS hB (fun F' hF => ?_)
  rw [fx_nm_mul, fx_nm_add, fx_ix_n (by omega) (by omega), fx_nm_rd, r4_w (hF r r1 (Nat.le_refl r)) hw]
  exact this F'
def cx (S T : Nat → Q4) (r t : Nat) : Nat := if S r = T t then 1 else 0
theorem sp_conc5 {post : Int32 → Prop} {TK TN K N : Nat → Int32} {S T : Nat → Q4} {n nt : Nat} {a b : Int32} (hn : n ≤ 300) (hnt : nt ≤ 100) (hK : a3 K N S n) (hB : tb S n) (hT : a3 TK TN T nt) (hzT : z3 TK nt) (kT : tk1 T nt) (bT : tb T nt)
    (no : (¬ ∃ r t, 1 ≤ r ∧ r ≤ n ∧ a = nI r ∧ 1 ≤ t ∧ t ≤ nt ∧ b = nI t) → post (nI 0)) (ok : ∀ r t, 1 ≤ r → r ≤ n → a = nI r → 1 ≤ t → t ≤ nt → b = nI t → post (nI (cx S T r t))) : wp_X5_concludes post TK TN (nI n) K N a b := by
  unfold wp_X5_concludes
  refine sp2_has hn (fun r r1 r2 hr => ?_) (fun z => ?_)
  rotate_left
  · rw [fb_eq0t rfl]
    exact no (fun ⟨r, t, h1, h2, h3, _⟩ => z ⟨r, h1, h2, h3⟩)
  rw [fb_eq0f (by decide) (by decide)]
  refine sp4_has hnt hT hzT kT (fun t t1 t2 ht => ?_) (fun z => ?_)
  rotate_left
  · rw [fb_eq0t rfl]
    exact no (fun ⟨r, t, h1, h2, h3, h4⟩ => z ⟨t, h4⟩)
  rw [fb_eq0f (by decide) (by decide)]
  have := ok r t r1 r2 hr t1 t2 ht
  subst hr ht
  obtain ⟨q1, q2, q3, q4⟩ := hT t t1 t2
  unfold wp_X4_isSame
  rw [k4_kind t1 (by omega) (by omega), k4_number1 t1 (by omega) (by omega) (by omega), k4_number2 t1 (by omega) (by omega) (by omega), k4_number3 t1 (by omega) (by omega) (by omega), q1, q2, q3, q4]
  refine sp4_is r1 (by omega) (by omega) (by omega) (hK r r1 r2) (hB r r1 r2) (bT t t1 t2) (fun e => ?_) (fun e => ?_)
  · rw [fbo1]
    show fx_br (nI 1 = 0) _ _
    rw [fb_eq0f (by decide) (by decide)]
    rw [cx, if_pos e] at this
    exact this
  · rw [fbo0]
    show fx_br (nI 0 = 0) _ _
    rw [fb_eq0t rfl]
    rw [cx, if_neg e] at this
    exact this
theorem sp_conc6 {post : Int32 → (Nat → Int32) → Prop} {FA FT R I C P F : Nat → Int32} {A T S : Nat → Q4} {ru : Nat → Nat} {ins : Nat → Int32} {cn : Nat → Nat} {pr : Nat → Nat → Nat} {na nt n : Nat} {a b : Int32} (hna : na ≤ 100) (hnt : nt ≤ 100) (hn : n ≤ 300)
    (hA : a4 FA A na) (hT : a4 FT T nt) (bT : tb T nt) (hrr : rr R I C P ru ins cn pr n) (hwf : wf na nt ru ins cn pr n) (hS : stt A T S ru ins cn pr n) (hB : tb S n)
    (no : (¬ ∃ r t, 1 ≤ r ∧ r ≤ n ∧ a = nI r ∧ 1 ≤ t ∧ t ≤ nt ∧ b = nI t) → post (nI 0) F) (ok : ∀ r t, 1 ≤ r → r ≤ n → a = nI r → 1 ≤ t → t ≤ nt → b = nI t → ∀ F', post (nI (cx S T r t)) F') : wp_X6_concludes post (nI nt) (nI n) FA FT R I C P F a b := by
  unfold wp_X6_concludes
  refine sp_isRow6 hn (fun r r1 r2 hr => ?_) (fun z => ?_)
  rotate_left
  · rw [fb_eq0t rfl]
    exact no (fun ⟨r, t, h1, h2, h3, _⟩ => z ⟨r, h1, h2, h3⟩)
  rw [fb_eq0f (by decide) (by decide)]
  refine fx_br_i (fun h => no ?_) (fun g1 => fx_br_i (fun g2 => ?_) (fun h => no ?_))
  · rintro ⟨r, t, -, -, -, t1, t2, rfl⟩
    exact nI_nlt t1 (by omega) h
  rotate_left
  · rintro ⟨r, t, -, -, -, t1, t2, rfl⟩
    exact h (nI_le t2 (by omega))
  obtain ⟨t, t1, t2, rfl⟩ := i_rng 1 nt (by omega) (by decide) g1 (Int32.not_lt.mpr g2)
  have := ok r t r1 r2 hr t1 t2 rfl
  subst hr
  refine sp6_work hna hnt hn r2 hA hT hrr hwf hS hB (fun F' hF => ?_)
  have this := this F'
  have hq : ∀ w, w < 4 → qw (S r) w < 1000 ∧ qw (T t) w < 1000 := by
    obtain ⟨b1, b2, b3, b4⟩ := hB r r1 r2
    obtain ⟨c1, c2, c3, c4⟩ := bT t t1 t2
    intro w hw
    unfold qw
    rcases (show w = 0 ∨ w = 1 ∨ w = 2 ∨ w = 3 by omega) with rfl | rfl | rfl | rfl <;> simp <;> omega
  refine wh2_up 4 (fun w v => v = nI 1 ∧ (∀ w', w' < w → qw (S r) w' = qw (T t) w') ∨ v = nI 0 ∧ ¬ S r = T t) (fun rec w v hw hI hrec => ?_) 0 (nI 1) (by omega) (.inl ⟨rfl, fun w' h' => absurd h' (by omega)⟩)
  refine fb_le (by omega) (by omega) (fun hl => ?_) (fun hl => ?_)
  · rcases hI with ⟨rfl, h1⟩ | ⟨rfl, h1⟩
    · rw [fbo1]
      have e : S r = T t := q_ext (a := (T t).1) (b := (T t).2.1) (c := (T t).2.2.1) (d := (T t).2.2.2) (h1 0 (by omega)) (h1 1 (by omega)) (h1 2 (by omega)) (h1 3 (by omega))
      rw [cx, if_pos e] at this
      exact this
    · rw [fbo0]
      rw [cx, if_neg h1] at this
      exact this
  · rcases hI with ⟨rfl, h1⟩ | ⟨rfl, h1⟩
    · obtain ⟨a1, a2⟩ := hq w hl
      rw [fb_eq0f (by decide) (by decide)]
      simp (disch := omega) only [↓fx_nm_mul, ↓fx_nm_add, ↓fx_ix_n, ↓fx_nm_rd]
      rw [r4_w (hF r r1 (Nat.le_refl r)) hl, r4_w (hT t t1 t2) hl]
      refine fb_eq (by omega) (by omega) (fun e => ?_) (fun e => ?_)
      · refine hrec _ hl (.inl ⟨rfl, fun w' h' => ?_⟩)
        by_cases z : w' = w
        · rw [z]; exact e
        · exact h1 w' (by omega)
      · exact hrec _ hl (.inr ⟨rfl, fun z => e (by rw [z])⟩)
    · rw [fb_eq0t rfl, fx_nm_add]
      exact hrec _ hl (.inr ⟨rfl, h1⟩)

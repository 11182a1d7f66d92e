/-! LOGIC: sentence, the reference -/
theorem pz_rw : ∀ r : Nat, r < 18 → pz.getD r [] = fx_st.getD (fx_rw.getD r 0) [] := by decide +kernel
theorem sp_sent6 {post : Int32 → Int32 → (Nat → Int32) → (Nat → Int32) → Prop} {g : Nat → Int64} {FA FT R I C P F X : Nat → Int32} {A T S : Nat → Q4} {ru : Nat → Nat} {ins : Nat → Int32} {cn : Nat → Nat} {pr : Nat → Nat → Nat} {na nt n : Nat} {sz a : Int32} (hna : na ≤ 100) (hnt : nt ≤ 100) (hn : n ≤ 300)
    (hg : ∀ j, j < 98 → g j = lN (fx_ph.getD j 0)) (hA : a4 FA A na) (hT : a4 FT T nt) (hrr : rr R I C P ru ins cn pr n) (hwf : wf na nt ru ins cn pr n) (hS : stt A T S ru ins cn pr n) (hB : tb S n)
    (no : (¬ ∃ r, 1 ≤ r ∧ r ≤ n ∧ a = nI r) → post (-1) sz F X)
    (ok : ∀ r, 1 ≤ r → r ≤ n → a = nI r → ∀ F' X', tx X' (se S ru cn pr r) → post (nI (se S ru cn pr r).length) (nI (se S ru cn pr r).length) F' X') : wp_X6_sentence post (nI n) sz g FA FT R I C P F X a := by
  unfold wp_X6_sentence
  refine sp_isRow6 hn (fun r r1 r2 hr => ?_) (fun z => ?_)
  rotate_left
  · rw [fb_eq0t rfl]
    exact no z
  rw [fb_eq0f (by decide) (by decide)]
  have ok' := ok r r1 r2 hr
  clear ok no
  subst hr
  obtain ⟨w1, w2, w3, -⟩ := hwf r r1 r2
  obtain ⟨g1, -, g3, g4⟩ := hrr r r1 r2
  have hc : cn r ≤ 3 := Nat.le_trans w2 (tk_3 _)
  have hb := hB r r1 r2
  have hsx := sx_b hb.1
  refine sp6_work hna hnt hn r2 hA hT hrr hwf hS hB (fun F' hF' => ?_)
  obtain ⟨q1, q2, q3, q4⟩ := hF' r r1 (Nat.le_refl r)
  refine nu (l := []) (b := 0) (by omega) (Nat.le_refl 0) (by decide) (fun j hj => absurd hj (Nat.not_lt_zero _)) (fun X1 h1 e1 => ?_)
  refine pu hg (by decide) e1 (by decide) h1 (fun X2 h2 e2 => ?_)
  rw [fx_nm_mul, fx_ix_n (by omega) (by omega), fx_nm_rd, q1]
  rw [fx_nm_mul, fx_nm_add, fx_ix_n (by omega) (by omega), fx_nm_rd, q2]
  rw [fx_nm_mul, fx_nm_add, fx_ix_n (by omega) (by omega), fx_nm_rd, q3]
  rw [fx_nm_mul, fx_nm_add, fx_ix_n (by omega) (by omega), fx_nm_rd, q4]
  refine sp_state6 hg (by omega) h2 hb (fun X3 h3 => ?_)
  have e3 : ([] ++ dg r ++ pz.getD 36 [] ++ sx (S r)).length ≤ 174 := by
    rw [List.length_append]
    omega
  refine pu hg (by decide) e3 (by decide) h3 (fun X4 h4 e4 => ?_)
  rw [fx_ix_n (by omega) (by omega), fx_nm_rd, g1, k_wordOf w1]
  refine pu hg (by omega) e4 (by decide) h4 (fun X5 h5 e5 => ?_)
  rw [pz_rw _ w1] at h5 e5 ⊢
  generalize hL : [] ++ dg r ++ pz.getD 36 [] ++ sx (S r) ++ pz.getD 37 [] ++ fx_st.getD (fx_rw.getD (ru r) 0) [] = L at h5 e5 ⊢
  refine wh3_up (cn r) (fun i y1 y2 => ∃ l', l' = L ++ tp (pr r) i ∧ y1 = nI l'.length ∧ tx y2 l') (fun rec i y1 y2 hi hI hrec => ?_) 0 _ _ (by omega) ⟨L, (List.append_nil _).symm, rfl, h5⟩
  obtain ⟨l', el, rfl, hl'⟩ := hI
  have ell : l'.length ≤ 249 := by
    have := tp_b (p := pr r) i
    rw [el, List.length_append]
    omega
  rw [fx_ix_n (by omega) (by omega), fx_nm_rd, g3]
  refine fb_le (by omega) (by omega) (fun he => ?_) (fun he => ?_)
  · have e : i = cn r := by omega
    refine pu hg (by decide) ell (by decide) hl' (fun X6 h6 e6 => ?_)
    have e7 : l' ++ pz.getD 40 [] = se S ru cn pr r := by
      rw [el, e, ← hL]
      rfl
    rw [e7] at h6 ⊢
    exact ok' _ _ h6
  refine fj1_i (fun w => w = if i = 0 then nI 38 else nI 39) (fun w hw => ?_) (fun K' hK' => fb_eq0 (by omega) (fun e => hK' _ (by rw [if_pos e])) (fun e => hK' _ (by rw [if_neg (by omega)])))
  have hw2 : ∃ p, w = nI p ∧ p < 41 ∧ pz.getD p [] = fx_st.getD (if i = 0 then 4 else 5) [] := by
    by_cases e : i = 0
    · exact ⟨38, by rw [hw, if_pos e], by decide, by rw [if_pos e]; rfl⟩
    · exact ⟨39, by rw [hw, if_neg e], by decide, by rw [if_neg e]; rfl⟩
  obtain ⟨p, rfl, hp41, ep⟩ := hw2
  obtain ⟨p1, p2⟩ := w3 i he
  refine pu hg hp41 ell (by decide) hl' (fun X6 h6 e6 => ?_)
  rw [fx_nm_mul, fx_nm_add, fx_ix_n (by omega) (by omega), fx_nm_rd, g4 i he]
  refine nu (by omega) e6 (by decide) h6 (fun X7 h7 e7 => ?_)
  rw [fx_nm_add]
  refine hrec _ _ he ⟨_, ?_, rfl, h7⟩
  rw [el, ep, tp, List.append_assoc, List.append_assoc, List.append_assoc]

/-! LOGIC: sentence, the one side -/
def se (S : Nat → Q4) (ru cn : Nat → Nat) (pr : Nat → Nat → Nat) (r : Nat) : List Nat := dg r ++ fx_st.getD 0 [] ++ sx (S r) ++ fx_st.getD 3 [] ++ fx_st.getD (fx_rw.getD (ru r) 0) [] ++ tp (pr r) (cn r) ++ [46]
theorem rw_b {r : Nat} (h : r < 18) : fx_rw.getD r 0 < 66 := by
  have : ∀ r, r < 18 → fx_rw.getD r 0 < 66 := by decide
  exact this r h
theorem se_b {S : Nat → Q4} {ru cn : Nat → Nat} {pr : Nat → Nat → Nat} {r : Nat} (h1 : (S r).1 ≤ 12) (h2 : ru r < 18) (h3 : cn r ≤ 3) : (se S ru cn pr r).length ≤ 300 := by
  have a1 := dg_3 r
  have a2 : (fx_st.getD 0 []).length ≤ 2 := by decide
  have a3 := sx_b h1
  have a4 : (fx_st.getD 3 []).length ≤ 5 := by decide
  have a5 : (fx_st.getD (fx_rw.getD (ru r) 0) []).length < 50 := st_l (rw_b h2)
  have a6 := tp_b (p := pr r) (cn r)
  have a7 : ([46] : List Nat).length = 1 := rfl
  rw [se, List.length_append, List.length_append, List.length_append, List.length_append, List.length_append, List.length_append, a7]
  omega
theorem sp5_ro {post : Option Nat → Prop} {R I C P : Nat → Int32} {ru : Nat → Nat} {ins : Nat → Int32} {cn : Nat → Nat} {pr : Nat → Nat → Nat} {na nt n : Nat} {a : Int32} (hn : n ≤ 300) (hrr : rr R I C P ru ins cn pr n) (hwf : wf na nt ru ins cn pr n)
    (ok : ∀ k, 1 ≤ k → k ≤ n → a = nI k → post (some (ru k))) (no : (¬ ∃ k, 1 ≤ k ∧ k ≤ n ∧ a = nI k) → post none) : wp_X5_ruleOf post (nI n) R a := by
  by_cases e : ∃ k, 1 ≤ k ∧ k ≤ n ∧ a = nI k
  · obtain ⟨k, k1, k2, rfl⟩ := e
    obtain ⟨g1, -⟩ := hrr k k1 k2
    rw [k5_ruleOf k1 k2 hn g1 (hwf k k1 k2).1]
    exact ok k k1 k2 rfl
  · unfold wp_X5_ruleOf
    refine sp2_has hn (fun k k1 k2 h => absurd ⟨k, k1, k2, h⟩ e) (fun _ => ?_)
    rw [fb_eq0t rfl]
    exact no e
theorem la {a b : List Nat} {n : Nat} (h : (a ++ b).length ≤ n) : a.length + b.length ≤ n ∧ a.length ≤ n := by
  rw [List.length_append] at h
  omega
theorem sp_sent5 {post : Int32 → Int32 → Int32 → Nat → (Nat → Int32) → Prop} {R I C P K N f : Nat → Int32} {ru : Nat → Nat} {ins : Nat → Int32} {cn : Nat → Nat} {pr : Nat → Nat → Nat} {S : Nat → Q4} {na nt n q u : Nat} {l : List Nat} {lt a : Int32} (hn : n ≤ 300) (hrr : rr R I C P ru ins cn pr n) (hwf : wf na nt ru ins cn pr n) (hK : a3 K N S n) (hB : tb S n) (hq : q ≤ 600) (hf : tv f q l)
    (hu : ∀ r, 1 ≤ r → r ≤ n → a = nI r → q < (se S ru cn pr r).length → u = 1)
    (no : (¬ ∃ r, 1 ≤ r ∧ r ≤ n ∧ a = nI r) → post (-1) lt (nI l.length) q f)
    (ok : ∀ r, 1 ≤ r → r ≤ n → a = nI r → ∀ lt' q' f', gq q q' → tv f' q' (se S ru cn pr r) → post (nI (se S ru cn pr r).length) lt' (nI (se S ru cn pr r).length) q' f') : wp_X5_sentence post (61 * u) (61 * (1300 * u)) (nI n) R C P K N lt (nI l.length) q f a := by
  unfold wp_X5_sentence
  refine sp5_ro hn hrr hwf (fun r r1 r2 hr => ?_) (fun z => ?_)
  rotate_left
  · rw [k_onn]
    exact no z
  rw [k_on]
  have hu' := hu r r1 r2 hr
  have ok' := ok r r1 r2 hr
  clear hu ok no
  subst hr
  obtain ⟨w1, w2, w3, -⟩ := hwf r r1 r2
  obtain ⟨-, -, g3, g4⟩ := hrr r r1 r2
  have hc : cn r ≤ 3 := Nat.le_trans w2 (tk_3 _)
  have hb := hB r r1 r2
  have hT := se_b (pr := pr) hb.1 w1 hc
  have hL : (se S ru cn pr r).length ≤ (se S ru cn pr r).length := Nat.le_refl _
  generalize hTe : (se S ru cn pr r).length = T at hT hu' ok'
  rw [hTe] at hL
  rw [se] at hTe
  have l7 := Nat.le_of_eq hTe
  have l6 := la l7
  have l5 := la l6.2
  have l4 := la l5.2
  have l3 := la l4.2
  have l2 := la l3.2
  have l1 := la l2.2
  refine ⟨0, 0, by omega, by omega, sp_set0 hq hf (fun lt' f1 h1 => ?_)⟩
  refine ⟨u, 1300 * u, by omega, by omega, su_i (l := []) hT (by omega) (by show 0 + (dg r).length ≤ T; omega) hq hu' h1 (fun q2 f2 b2 h2 => ?_)⟩
  have m2 := b2
  refine ⟨u, 1300 * u, by omega, by omega, su_s hT (by decide) l1.1 m2.2 (fun z => hu' (by have := m2.1; omega)) h2 (fun q3 f3 b3 h3 => ?_)⟩
  have m3 := gq_t m2 b3
  refine ⟨50 * u, 50 * (1300 * u), by omega, by omega, sp_tellS r1 (by omega) (hK r r1 r2) hb hT l2.1 m3.2 (fun z => hu' (by have := m3.1; omega)) h3 (fun q4 f4 b4 h4 => ?_)⟩
  have m4 := gq_t m3 b4
  refine ⟨u, 1300 * u, by omega, by omega, su_s hT (by decide) l3.1 m4.2 (fun z => hu' (by have := m4.1; omega)) h4 (fun q5 f5 b5 h5 => ?_)⟩
  have m5 := gq_t m4 b5
  rw [fl_t w1]
  refine ⟨u, 1300 * u, by omega, by omega, su_s hT (rw_b w1) l4.1 m5.2 (fun z => hu' (by have := m5.1; omega)) h5 (fun q6 f6 b6 h6 => ?_)⟩
  have m6 := gq_t m5 b6
  refine ⟨6 * u, 6 * (1300 * u), by omega, by omega, sp_tellP (p := pr r) r1 r2 hn g3 hc (fun i hi => ⟨g4 i hi, by have := (w3 i hi).2; omega⟩) hT l5.1 m6.2 (fun z => hu' (by have := m6.1; omega)) h6 (fun q7 f7 b7 h7 => ?_)⟩
  have m7 := gq_t m6 b7
  refine ⟨u, 1300 * u, by omega, by omega, su_c hT l6.1 m7.2 (fun z => hu' (by have := m7.1; omega)) (by decide) h7 (fun q8 f8 b8 h8 => ?_)⟩
  have m8 := gq_t m7 b8
  have := ok' lt' q8 f8 m8 h8
  rw [← hTe] at this
  exact this

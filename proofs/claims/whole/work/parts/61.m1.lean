/-! LOGIC: a premise laid, both sides -/
/-- a premise that may be laid -/
def v_pm (n : Nat) (a b : Int32) (k p : Nat) : Prop := 1 ≤ k ∧ k ≤ n ∧ a = nI k ∧ 1 ≤ p ∧ p ≤ n ∧ b = nI p
theorem v_pm_inj {n : Nat} {a b : Int32} {k p k' p' : Nat} (hn : n ≤ 300) (h : v_pm n a b k p) (g : v_pm n a b k' p') : k = k' ∧ p = p' := by
  obtain ⟨h1, h2, h3, h4, h5, h6⟩ := h
  obtain ⟨g1, g2, g3, g4, g5, g6⟩ := g
  exact ⟨(nI_eq (by omega) (by omega)).mp (h3.symm.trans g3), (nI_eq (by omega) (by omega)).mp (h6.symm.trans g6)⟩
/-- the premises of a row with one more -/
def pw (cn : Nat → Nat) (pr : Nat → Nat → Nat) (k p : Nat) : Nat → Nat → Nat := uf pr k (uf (pr k) (cn k) p)
theorem rr_pm {R I C P C' P' : Nat → Int32} {ru : Nat → Nat} {ins : Nat → Int32} {cn : Nat → Nat} {pr : Nat → Nat → Nat} {n k p : Nat} (h : rr R I C P ru ins cn pr n) (hc3 : ∀ k, 1 ≤ k → k ≤ n → cn k ≤ 3) (hk : cn k < 3)
    (hC : C' k = nI (cn k + 1)) (hC' : ∀ j, j ≠ k → C' j = C j) (hP : P' (3 * k + cn k) = nI p) (hP' : ∀ j, j ≠ 3 * k + cn k → P' j = P j) : rr R I C' P' ru ins (uf cn k (cn k + 1)) (pw cn pr k p) n := by
  intro j j1 j2
  obtain ⟨g1, g2, g3, g4⟩ := h j j1 j2
  have := hc3 j j1 j2
  by_cases e : j = k
  · subst e
    rw [uf_s, pw, uf_s]
    refine ⟨g1, g2, hC, fun i hi => ?_⟩
    by_cases z : i = cn j
    · rw [z, uf_s, hP]
    · rw [uf_n z, hP' _ (by omega)]
      exact g4 i (by omega)
  · rw [uf_n e, pw, uf_n e]
    exact ⟨g1, g2, by rw [hC' j e, g3], fun i hi => by rw [hP' _ (by omega)]; exact g4 i hi⟩
theorem wf_pm {ru : Nat → Nat} {ins : Nat → Int32} {cn : Nat → Nat} {pr : Nat → Nat → Nat} {na nt n k p : Nat} (hwf : wf na nt ru ins cn pr n) (hk : cn k < tk (ru k)) (hp : 1 ≤ p) (hpk : p < k) : wf na nt ru ins (uf cn k (cn k + 1)) (pw cn pr k p) n := by
  intro j j1 j2
  obtain ⟨w1, w2, w3, w4⟩ := hwf j j1 j2
  by_cases e : j = k
  · subst e
    rw [uf_s, pw, uf_s]
    refine ⟨w1, by omega, fun i hi => ?_, w4⟩
    by_cases z : i = cn j
    · rw [z, uf_s]
      exact ⟨hp, hpk⟩
    · rw [uf_n z]
      exact w3 i (by omega)
  · rw [uf_n e, pw, uf_n e]
    exact ⟨w1, w2, w3, w4⟩
theorem sp_premise6 {post : Int32 → (Nat → Int32) → (Nat → Int32) → Prop} {R I C P : Nat → Int32} {ru : Nat → Nat} {ins : Nat → Int32} {cn : Nat → Nat} {pr : Nat → Nat → Nat} {na nt n : Nat} {a b : Int32} (hn : n ≤ 300) (hrr : rr R I C P ru ins cn pr n) (hwf : wf na nt ru ins cn pr n)
    (no : (¬ ∃ k p, v_pm n a b k p) → post (-1) C P) (bad : ∀ k p, v_pm n a b k p → ¬ (p < k ∧ cn k < tk (ru k)) → post (-3) C P)
    (ok : ∀ k p, v_pm n a b k p → p < k → cn k < tk (ru k) → ∀ C' P', rr R I C' P' ru ins (uf cn k (cn k + 1)) (pw cn pr k p) n → post (nI (cn k + 1)) C' P') : wp_X6_premise post (nI n) R C P a b := by
  have hc3 : ∀ k, 1 ≤ k → k ≤ n → cn k ≤ 3 := fun k k1 k2 => Nat.le_trans (hwf k k1 k2).2.1 (tk_3 _)
  unfold wp_X6_premise
  refine sp_isRow6 hn (fun k k1 k2 hk => ?_) (fun z => ?_)
  rotate_left
  · rw [fb_eq0t rfl]
    exact no (fun ⟨k, p, h1, h2, h3, _⟩ => z ⟨k, h1, h2, h3⟩)
  rw [fb_eq0f (by decide) (by decide)]
  refine sp_isRow6 hn (fun p p1 p2 hp => ?_) (fun z => ?_)
  rotate_left
  · rw [fb_eq0t rfl]
    exact no (fun ⟨k, p, h1, h2, h3, h4, h5, h6⟩ => z ⟨p, h4, h5, h6⟩)
  rw [fb_eq0f (by decide) (by decide)]
  subst hk hp
  have hv : v_pm n (nI k) (nI p) k p := ⟨k1, k2, rfl, p1, p2, rfl⟩
  obtain ⟨w1, w2, w3, -⟩ := hwf k k1 k2
  obtain ⟨g1, g2, g3, g4⟩ := hrr k k1 k2
  have t3 := tk_3 (ru k)
  refine fb_le (by omega) (by omega) (fun h => bad k p hv (by omega)) (fun h => ?_)
  rw [fx_ix_n (by omega) (by omega), fx_nm_rd, fx_ix_n (by omega) (by omega), fx_nm_rd, g1, g3, k6_takes w1]
  refine fb_lt (by omega) (by omega) (fun hl => ?_) (fun hl => bad k p hv (by omega))
  have hCP : ∀ Q : Int32 → Prop, fx_nm (C k) Q = Q (nI (cn k)) := fun Q => by rw [fx_nm_eq, g3]
  unfold wp_X6_lay
  simp (disch := omega) only [↓fx_nm_add, ↓fx_nm_mul, ↓fx_nm_up, ↓fx_ix_n, ↓hCP, ↓fx_nm_rd, pk_us]
  refine ok k p hv h hl _ _ (rr_pm hrr hc3 (by omega) pk_us (fun j hj => pk_un hj) pk_us (fun j hj => pk_un hj))
set_option maxHeartbeats 1000000 in
theorem sp_premise5 {post : Int32 → (Nat → Int32) → (Nat → Int32) → (Nat → Int32) → (Nat → Int32) → (Nat → Int32) → Prop} {AK AN TK TN R I C P K N M : Nat → Int32} {A T S : Nat → Q4} {ru : Nat → Nat} {ins : Nat → Int32} {cn : Nat → Nat} {pr : Nat → Nat → Nat} {na nt n : Nat} {a b : Int32} (hna : na ≤ 100) (hnt : nt ≤ 100) (hn : n ≤ 300)
    (hA : a3 AK AN A na) (hT : a3 TK TN T nt) (bA : tb A na) (bT : tb T nt) (hrr : rr R I C P ru ins cn pr n) (hwf : wf na nt ru ins cn pr n) (hS : stt A T S ru ins cn pr n) (hK : a3 K N S n)
    (no : (¬ ∃ k p, v_pm n a b k p) → post (-1) C P K N M) (bad : ∀ k p, v_pm n a b k p → ¬ (p < k ∧ cn k < tk (ru k)) → post (-3) C P K N M)
    (ok : ∀ k p, v_pm n a b k p → p < k → cn k < tk (ru k) → ∀ C' P' K' N' M' S', rr R I C' P' ru ins (uf cn k (cn k + 1)) (pw cn pr k p) n → stt A T S' ru ins (uf cn k (cn k + 1)) (pw cn pr k p) n → a3 K' N' S' n → post (nI (cn k + 1)) C' P' K' N' M') : wp_X5_premise post AK AN TK TN (nI n) R I C P K N M a b := by
  have hc3 : ∀ k, 1 ≤ k → k ≤ n → cn k ≤ 3 := fun k k1 k2 => Nat.le_trans (hwf k k1 k2).2.1 (tk_3 _)
  unfold wp_X5_premise
  have r1 : ∀ post2 : Option Nat → Prop, (∀ k, 1 ≤ k → k ≤ n → a = nI k → post2 (some (ru k))) → ((¬ ∃ k, 1 ≤ k ∧ k ≤ n ∧ a = nI k) → post2 none) → wp_X5_ruleOf post2 (nI n) R a := by
    intro post2 y z
    by_cases e : ∃ k, 1 ≤ k ∧ k ≤ n ∧ a = nI k
    · obtain ⟨k, k1, k2, rfl⟩ := e
      obtain ⟨g1, -⟩ := hrr k k1 k2
      rw [k5_ruleOf k1 k2 hn g1 (hwf k k1 k2).1]
      exact y k k1 k2 rfl
    · unfold wp_X5_ruleOf
      refine sp2_has hn (fun k k1 k2 h => absurd ⟨k, k1, k2, h⟩ e) (fun _ => ?_)
      rw [fb_eq0t rfl]
      exact z e
  refine r1 _ (fun k k1 k2 hk => ?_) (fun z => ?_)
  rotate_left
  · rw [k_onn]
    exact no (fun ⟨k, p, h1, h2, h3, _⟩ => z ⟨k, h1, h2, h3⟩)
  rw [k_on]
  refine sp2_has hn (fun p p1 p2 hp => ?_) (fun z => ?_)
  rotate_left
  · rw [fb_eq0t rfl]
    exact no (fun ⟨k, p, h1, h2, h3, h4, h5, h6⟩ => z ⟨p, h4, h5, h6⟩)
  rw [fb_eq0f (by decide) (by decide)]
  subst hk hp
  have hv : v_pm n (nI k) (nI p) k p := ⟨k1, k2, rfl, p1, p2, rfl⟩
  obtain ⟨w1, w2, w3, -⟩ := hwf k k1 k2
  obtain ⟨g1, g2, g3, g4⟩ := hrr k k1 k2
  have t3 := tk_3 (ru k)
  refine fb_le (by omega) (by omega) (fun h => bad k p hv (by omega)) (fun h => ?_)
  rw [k2_count k1 k2 hn g3, fl_t w1, k_takes3 w1]
  refine fb_lt (by omega) (by omega) (fun hl => ?_) (fun hl => bad k p hv (by omega))
  unfold wp_X2_addPremise
  rw [k2_count k1 k2 hn g3, k2_has k1 k2 hn, fb_eq0f (by decide) (by decide), fb_lef (by omega) (by omega)]
  simp (disch := omega) only [↓fx_nm_add, ↓fx_nm_mul, ↓fx_nm_up, ↓fx_ix_n]
  have hr' := rr_pm (C' := upd C k (nI (cn k + 1))) (P' := upd P (k * 3 + cn k) (nI p)) (p := p) hrr hc3 (by omega) pk_us (fun j hj => pk_un hj) (by rw [Nat.mul_comm, pk_us]) (fun j hj => pk_un (by omega))
  have hwf' := wf_pm hwf hl p1 h
  generalize upd C k (nI (cn k + 1)) = C' at hr' ⊢
  generalize upd P (k * 3 + cn k) (nI p) = P' at hr' ⊢
  have hS0 : stt A T S ru ins (uf cn k (cn k + 1)) (pw cn pr k p) (k - 1) := stt_cg (fun j j1 j2 => hS j j1 (by omega)) (fun j j1 j2 => by
    have e : j ≠ k := by omega
    exact ⟨rfl, rfl, uf_n e, fun i _ => by rw [pw, uf_n e]⟩)
  refine wh4_up (n + 1) (fun x K N M => k ≤ x ∧ ∃ S', a3 K N S' (x - 1) ∧ stt A T S' ru ins (uf cn k (cn k + 1)) (pw cn pr k p) (x - 1)) (fun rec x K N M hx hI hrec => ?_) k K N M (by omega) ⟨Nat.le_refl k, S, fun j j1 j2 => hK j j1 (by omega), hS0⟩
  obtain ⟨x1, S', hK', hS'⟩ := hI
  unfold wp_X2_last
  refine fb_lt (by omega) (by omega) (fun h2 => ?_) (fun h2 => ?_)
  · rw [show x - 1 = n by omega] at hK' hS'
    obtain ⟨-, -, g3', -⟩ := hr' k k1 k2
    rw [uf_s] at g3'
    rw [k2_count k1 k2 hn g3']
    exact ok k p hv h hl _ _ _ _ _ S' hr' hS' hK'
  · have hB := tb_of hna hnt bA bT hwf' (show x - 1 ≤ n by omega) hS'
    refine sp_derive (A := A) (T := T) (S := S') (by omega) (by omega) hn hna hnt hA hT hr' hwf' (fun j j1 j2 => ⟨hK' j j1 (by omega), hB j j1 (by omega)⟩) (fun K' N' M' hw => ?_)
    rw [fx_nm_add]
    refine hrec _ _ _ (by omega) ⟨by omega, q_up S' x (so A T S' ru ins (uf cn k (cn k + 1)) (pw cn pr k p) x), ?_, ?_⟩
    rotate_left
    · rw [Nat.add_sub_cancel]
      exact stt_up (by omega) hS' (fun j j1 j2 => (hwf' j j1 (by omega)).2.2.1)
    · rw [Nat.add_sub_cancel]
      exact a3_w hK' hw

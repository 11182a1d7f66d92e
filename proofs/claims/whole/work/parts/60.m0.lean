/-! LOGIC: rows of the class, premises of both -/
theorem sn_cg {A T A' T' : Nat → Q4} {ru j c : Nat} {q r s : Q4} (hA : ru = 0 → A j = A' j) (hT : ru = 1 ∨ ru = 17 → T j = T' j) : sn_one A T ru j c q r s = sn_one A' T' ru j c q r s := by
  by_cases h0 : ru = 0
  · subst h0
    simp only [sn_one, hA rfl]
  by_cases h1 : ru = 1
  · subst h1
    simp only [sn_one, hT (.inl rfl)]
  by_cases h17 : ru = 17
  · subst h17
    simp only [sn_one, hT (.inr rfl)]
  unfold sn_one
  split
  · split <;> first | rfl | omega
  · rfl
theorem so_cg {A T S S' : Nat → Q4} {ru ru' : Nat → Nat} {ins ins' : Nat → Int32} {cn cn' : Nat → Nat} {pr pr' : Nat → Nat → Nat} {k : Nat} (h1 : ru' k = ru k) (h2 : ins' k = ins k) (h3 : cn' k = cn k) (h4 : ∀ i, i < cn k → S' (pr' k i) = S (pr k i)) : so A T S' ru' ins' cn' pr' k = so A T S ru ins cn pr k := by
  have hq : ∀ i, sq S' cn' pr' k i = sq S cn pr k i := by
    intro i
    unfold sq
    rw [h3]
    split
    · exact h4 i (by assumption)
    · rfl
  unfold so
  rw [h1, h2, h3, hq, hq, hq]
theorem stt_cg {A T S : Nat → Q4} {ru ru' : Nat → Nat} {ins ins' : Nat → Int32} {cn cn' : Nat → Nat} {pr pr' : Nat → Nat → Nat} {n : Nat} (h : stt A T S ru ins cn pr n) (g : ∀ k, 1 ≤ k → k ≤ n → ru' k = ru k ∧ ins' k = ins k ∧ cn' k = cn k ∧ ∀ i, i < cn k → pr' k i = pr k i) : stt A T S ru' ins' cn' pr' n := by
  intro k k1 k2
  obtain ⟨g1, g2, g3, g4⟩ := g k k1 k2
  rw [h k k1 k2]
  exact (so_cg g1 g2 g3 (fun i hi => by rw [g4 i hi])).symm
theorem stt_up {A T S : Nat → Q4} {ru : Nat → Nat} {ins : Nat → Int32} {cn : Nat → Nat} {pr : Nat → Nat → Nat} {k : Nat} (k1 : 1 ≤ k) (h : stt A T S ru ins cn pr (k - 1)) (hp : ∀ j, 1 ≤ j → j ≤ k → ∀ i, i < cn j → 1 ≤ pr j i ∧ pr j i < j) : stt A T (q_up S k (so A T S ru ins cn pr k)) ru ins cn pr k := by
  intro j j1 j2
  have hc : so A T (q_up S k (so A T S ru ins cn pr k)) ru ins cn pr j = so A T S ru ins cn pr j := by
    refine so_cg rfl rfl rfl (fun i hi => ?_)
    have := hp j j1 j2 i hi
    exact q_un (by omega)
  rw [hc]
  by_cases e : j = k
  · rw [e, q_us]
  · rw [q_un e]
    exact h j j1 (by omega)
theorem a3_w {K N K' N' : Nat → Int32} {S : Nat → Q4} {k : Nat} {q : Q4} (h : a3 K N S (k - 1)) (hw : w3 K N K' N' k q) : a3 K' N' (q_up S k q) k := by
  intro j j1 j2
  by_cases e : j = k
  · rw [e, q_us]
    exact hw.1
  · rw [q_un e]
    exact hw.2 j e _ (h j j1 (by omega))
theorem tb_of {A T S : Nat → Q4} {ru : Nat → Nat} {ins : Nat → Int32} {cn : Nat → Nat} {pr : Nat → Nat → Nat} {na nt n m : Nat} (hna : na ≤ 100) (hnt : nt ≤ 100) (hA : tb A na) (hT : tb T nt) (hwf : wf na nt ru ins cn pr n) (hm : m ≤ n) (hS : stt A T S ru ins cn pr m) : tb S m := by
  intro k
  induction k using Nat.strongRecOn with
  | _ k ih =>
    intro k1 k2
    obtain ⟨w1, w2, w3, w4, w5, w6⟩ := hwf k k1 (by omega)
    have hz : q_b q_z := ⟨by decide, by decide, by decide, by decide⟩
    have hq : ∀ i, q_b (sq S cn pr k i) := by
      intro i
      unfold sq
      split
      · obtain ⟨p1, p2⟩ := w3 i (by assumption)
        exact ih _ p2 p1 (by omega)
      · exact hz
    rw [hS k k1 k2, so]
    refine sn_bd w1 (fun e => ?_) (fun e => ?_) (fun e => ?_) (hq 0) (hq 1) (hq 2)
    · obtain ⟨j, e1, e2, e3⟩ := w4 e
      rw [e1, nI_clamp (by omega)]
      exact hA j e2 e3
    · obtain ⟨j, e1, e2, e3⟩ := w5 e
      rw [e1, nI_clamp (by omega)]
      exact hT j e2 e3
    · obtain ⟨j, e1, e2⟩ := w6 e
      rw [e1, nI_clamp (by omega)]
      exact e2
theorem wf_row {ru : Nat → Nat} {ins : Nat → Int32} {cn : Nat → Nat} {pr : Nat → Nat → Nat} {na nt n r p : Nat} {a b c : Int32} (hwf : wf na nt ru ins cn pr n) (hv : v_row na nt n a b c r p) : wf na nt (uf ru (n + 1) r) (uf ins (n + 1) b) (uf cn (n + 1) (c1 p)) (uf pr (n + 1) (fun _ => p)) (n + 1) := by
  obtain ⟨h1, h2, ⟨v1, v2, v3⟩, h4⟩ := hv
  intro k k1 k2
  by_cases e : k = n + 1
  · subst e
    simp only [uf_s]
    refine ⟨h2, ?_, fun i hi => ?_, v1, v2, v3⟩
    · clear v1 v2 v3 hwf
      unfold c1
      split
      · omega
      · omega
    · clear v1 v2 v3 hwf
      unfold c1 at hi
      split at hi
      · omega
      · omega
  · simp only [uf_n e]
    exact hwf k k1 (by omega)
theorem sp5_rn {post : Option Nat → Prop} {x : Int32} (yes : ∀ r, r < 18 → x = nI r → post (some r)) (no : (¬ ∃ r, r < 18 ∧ x = nI r) → post none) : wp_X5_ruleNumbered post x := by
  unfold wp_X5_ruleNumbered
  refine fx_br_i (fun h => no ?_) (fun g1 => fx_br_i (fun h => no ?_) (fun g2 => ?_))
  · rintro ⟨k, h1, rfl⟩
    exact nI_pos (by omega) h
  · rintro ⟨k, h1, rfl⟩
    exact nI_ge h1 (by omega) h
  rcases pk_ix x (n := 18) (by decide) with h | h | ⟨j, hj, rfl⟩
  · exact absurd h g1
  · exact absurd h g2
  · rw [fx_ix_n hj (by omega)]
    exact yes j hj rfl
theorem k_onn {X : Prop} {B : Nat → Prop} : fx_on none X B = X := propext ⟨fun z => z.1 rfl, fun z => fx_on_n z⟩
set_option maxHeartbeats 1000000 in
theorem sp_row5 {post : Int32 → Int32 → (Nat → Int32) → (Nat → Int32) → (Nat → Int32) → (Nat → Int32) → (Nat → Int32) → (Nat → Int32) → (Nat → Int32) → Prop} {AK AN TK TN R I C P K N M : Nat → Int32} {A T S : Nat → Q4} {ru : Nat → Nat} {ins : Nat → Int32} {cn : Nat → Nat} {pr : Nat → Nat → Nat} {na nt n : Nat} {a b c : Int32} (hna : na ≤ 100) (hnt : nt ≤ 100) (hn : n ≤ 300)
    (hA : a3 AK AN A na) (hzA : z3 AK na) (kA : tk1 A na) (hT : a3 TK TN T nt) (hzT : z3 TK nt) (kT : tk1 T nt) (bA : tb A na) (bT : tb T nt) (hrr : rr R I C P ru ins cn pr n) (hwf : wf na nt ru ins cn pr n) (hS : stt A T S ru ins cn pr n) (hK : a3 K N S n)
    (bad : (¬ ∃ r p, v_row na nt n a b c r p) ∨ n = 300 → post (nI 0) (nI n) R I C P K N M)
    (ok : ∀ r p, v_row na nt n a b c r p → n < 300 → ∀ R' I' C' P' K' N' M' S', rr R' I' C' P' (uf ru (n + 1) r) (uf ins (n + 1) b) (uf cn (n + 1) (c1 p)) (uf pr (n + 1) (fun _ => p)) (n + 1) → stt A T S' (uf ru (n + 1) r) (uf ins (n + 1) b) (uf cn (n + 1) (c1 p)) (uf pr (n + 1) (fun _ => p)) (n + 1) → a3 K' N' S' (n + 1) → post (nI (n + 1)) (nI (n + 1)) R' I' C' P' K' N' M') : wp_X5_row post AK AN TK TN (nI n) R I C P K N M a b c := by
  have hc3 : ∀ k, 1 ≤ k → k ≤ n → cn k ≤ 3 := fun k k1 k2 => Nat.le_trans (hwf k k1 k2).2.1 (tk_3 _)
  have fin : ∀ r p R' I' C' P', v_row na nt n a b c r p → n < 300 → rr R' I' C' P' (uf ru (n + 1) r) (uf ins (n + 1) b) (uf cn (n + 1) (c1 p)) (uf pr (n + 1) (fun _ => p)) (n + 1) → wp_X5_derive (fun y12 y13 y14 => post (nI (n + 1)) (nI (n + 1)) R' I' C' P' y12 y13 y14) AK AN TK TN (nI (n + 1)) R' I' C' P' K N M (nI (n + 1)) := by
    intro r p R' I' C' P' hv hl hr'
    have hwf' := wf_row hwf hv
    have hS' : stt A T S (uf ru (n + 1) r) (uf ins (n + 1) b) (uf cn (n + 1) (c1 p)) (uf pr (n + 1) (fun _ => p)) n := stt_cg hS (fun k k1 k2 => by
      have e : k ≠ n + 1 := by omega
      exact ⟨uf_n e, uf_n e, uf_n e, fun i _ => by rw [uf_n e]⟩)
    have hB := tb_of hna hnt bA bT hwf (Nat.le_refl n) hS
    refine sp_derive (A := A) (T := T) (S := S) (by omega) (by omega) (by omega) hna hnt hA hT hr' hwf' (fun j j1 j2 => ⟨hK j j1 (by omega), hB j j1 (by omega)⟩) (fun K' N' M' hw => ?_)
    exact ok r p hv hl _ _ _ _ _ _ _ _ hr' (stt_up (by omega) hS' (fun j j1 j2 => (hwf' j j1 j2).2.2.1)) (a3_w hK hw)
  have lay : ∀ (post2 : Int32 → Int32 → (Nat → Int32) → (Nat → Int32) → (Nat → Int32) → Prop) (r : Nat) (b : Int32), (n = 300 → post2 (nI 0) (nI n) R I C) → (n < 300 → post2 (nI (n + 1)) (nI (n + 1)) (upd R (n + 1) (nI r)) (upd I (n + 1) b) (upd C (n + 1) (nI 0))) → wp_X2_lay post2 (nI n) R I C (nI r) b := by
    intro post2 r b f g
    unfold wp_X2_lay
    refine fb_lt (by omega) (by omega) (fun h => ?_) (fun h => f (by omega))
    simp (disch := omega) only [↓fx_nm_add, ↓fx_nm_up, ↓fx_ix_n]
    exact g h
  unfold wp_X5_row
  refine sp5_rn (fun r hr ea => ?_) (fun z => ?_)
  rotate_left
  · rw [k_onn]
    exact bad (.inl (fun ⟨r, p, h1, h2, _⟩ => z ⟨r, h2, h1⟩))
  subst ea
  rw [k_on]
  refine sp_inst5 hr hna hnt hA hzA kA hT hzT kT (fun hv => ?_) (fun hv => ?_)
  rotate_left
  · rw [fb_eq0t rfl]
    refine bad (.inl ?_)
    rintro ⟨r', p, h1, h2, h3, -⟩
    rw [(nI_eq (a := r) (by omega) (by omega)).mp h1] at hv
    exact hv h3
  rw [fb_eq0f (by decide) (by decide)]
  refine fx_br_i (fun e => ?_) (fun e => ?_)
  · refine lay _ r b (fun z => ?_) (fun z => ?_)
    · rw [fb_eq0t rfl]
      exact bad (.inr z)
    · rw [fb_eq0f (by omega) (by omega)]
      have : ∀ (K0 : (Nat → Int32) → (Nat → Int32) → Prop) (B : ((Nat → Int32) → (Nat → Int32) → Prop) → Prop), fx_jn2 K0 B = B K0 := fun _ _ => rfl
      rw [this, fb_t e]
      exact fin r 0 _ _ _ _ ⟨rfl, hr, hv, .inl ⟨e, rfl⟩⟩ z (rr_ext hrr hc3 pk_us (fun k hk => pk_un (by omega)) pk_us (fun k hk => pk_un (by omega)) pk_us (fun k hk => pk_un (by omega)) (by decide) (fun z => absurd z (by decide)) (fun j hj => rfl))
  · refine sp2_has hn (fun p p1 p2 hp => ?_) (fun z => ?_)
    rotate_left
    · rw [fb_eq0t rfl]
      refine bad (.inl ?_)
      rintro ⟨r', p, h1, h2, h3, ⟨h4, _⟩ | ⟨h4, h5, h6, _⟩⟩
      · exact e h4
      · exact z ⟨p, h5, h6, h4⟩
    rw [fb_eq0f (by decide) (by decide), fl_t hr, k_takes3 hr]
    have t3 := tk_3 r
    refine fb_eq0n (by omega) (fun z => ?_) (fun ht => ?_)
    · refine bad (.inl ?_)
      rintro ⟨r', p', h1, h2, h3, ⟨h4, _⟩ | ⟨h4, h5, h6, h7⟩⟩
      · exact e h4
      · rw [← (nI_eq (a := r) (by omega) (by omega)).mp h1] at h7
        omega
    refine lay _ r b (fun z => ?_) (fun z => ?_)
    · rw [fb_eq0t rfl]
      exact bad (.inr z)
    · rw [fb_eq0f (by omega) (by omega)]
      have : ∀ (K0 : (Nat → Int32) → (Nat → Int32) → Prop) (B : ((Nat → Int32) → (Nat → Int32) → Prop) → Prop), fx_jn2 K0 B = B K0 := fun _ _ => rfl
      rw [this, fb_f e]
      have hv' : v_row na nt n (nI r) b c r p := ⟨rfl, hr, hv, .inr ⟨hp, p1, p2, by omega⟩⟩
      have hcp : c1 p = 1 := if_neg (by omega)
      subst hp
      unfold wp_X2_addPremise
      rw [k2_count (c := 0) (by omega) (by omega) (by omega) pk_us, k2_has (by omega) (by omega) (by omega), fb_eq0f (by decide) (by decide), fb_lef (by omega) (by omega)]
      simp (disch := omega) only [↓fx_nm_add, ↓fx_nm_mul, ↓fx_nm_up, ↓fx_ix_n]
      refine fin r p _ _ _ _ hv' z ?_
      rw [hcp]
      refine rr_ext hrr hc3 pk_us (fun k hk => pk_un (by omega)) pk_us (fun k hk => pk_un (by omega)) pk_us (fun k hk => ?_) (by decide) (fun _ => ?_) (fun j hj => pk_un (by omega))
      · rw [pk_un (by omega), pk_un (by omega)]
      · rw [Nat.add_zero, Nat.mul_comm, pk_us]

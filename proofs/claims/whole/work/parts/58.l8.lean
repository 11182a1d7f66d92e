/-! LOGIC: the class's derivation of one row -/
theorem dv {A T : Nat → Q4} {j ru : Nat} {Q : Nat → Q4} (h : ru < 18) : (fitn (fx_ra.getD ru 0) Q (tk ru) = none ∧ sn_one A T ru j (tk ru) (Q 0) (Q 1) (Q 2) = q_z) ∨ ∃ E, fitn (fx_ra.getD ru 0) Q (tk ru) = some E ∧ (3 ≤ ru → ru < 17 → gd E (fx_rg.getD ru 0) ∧ sn_one A T ru j (tk ru) (Q 0) (Q 1) (Q 2) = gv E (fx_rg.getD ru 0)) ∧ (ru = 17 → sn_one A T ru j (tk ru) (Q 0) (Q 1) (Q 2) = T j) ∧ (ru = 0 → sn_one A T ru j (tk ru) (Q 0) (Q 1) (Q 2) = A j) ∧ (ru = 1 → sn_one A T ru j (tk ru) (Q 0) (Q 1) (Q 2) = T j) ∧ (ru = 2 → E = e0 ∧ sn_one A T ru j (tk ru) (Q 0) (Q 1) (Q 2) = (1, j, j, 0)) := by
  rcases (show ru = 0 ∨ ru = 1 ∨ ru = 2 ∨ ru = 3 ∨ ru = 4 ∨ ru = 5 ∨ ru = 6 ∨ ru = 7 ∨ ru = 8 ∨ ru = 9 ∨ ru = 10 ∨ ru = 11 ∨ ru = 12 ∨ ru = 13 ∨ ru = 14 ∨ ru = 15 ∨ ru = 16 ∨ ru = 17 by omega) with rfl | rfl | rfl | rfl | rfl | rfl | rfl | rfl | rfl | rfl | rfl | rfl | rfl | rfl | rfl | rfl | rfl | rfl
  · exact .inr ⟨e0, rfl, fun z => absurd z (by decide), fun z => absurd z (by decide), fun _ => rfl, fun z => absurd z (by decide), fun z => absurd z (by decide)⟩
  · exact .inr ⟨e0, rfl, fun z => absurd z (by decide), fun z => absurd z (by decide), fun z => absurd z (by decide), fun _ => rfl, fun z => absurd z (by decide)⟩
  · exact .inr ⟨e0, rfl, fun z => absurd z (by decide), fun z => absurd z (by decide), fun z => absurd z (by decide), fun z => absurd z (by decide), fun _ => ⟨rfl, rfl⟩⟩
  · rcases ft_3 (A := A) (T := T) (j := j) (q := Q 0) (r := Q 1) (s := Q 2) (Q := Q) (h0 := rfl) (h1 := rfl) with ⟨a, b⟩ | ⟨a, b, c⟩
    · exact .inl ⟨a, b⟩
    · exact .inr ⟨_, a, fun _ _ => ⟨b, c⟩, fun z => absurd z (by decide), fun z => absurd z (by decide), fun z => absurd z (by decide), fun z => absurd z (by decide)⟩
  · rcases ft_4 (A := A) (T := T) (j := j) (q := Q 0) (r := Q 1) (s := Q 2) (Q := Q) (h0 := rfl) (h1 := rfl) with ⟨a, b⟩ | ⟨a, b, c⟩
    · exact .inl ⟨a, b⟩
    · exact .inr ⟨_, a, fun _ _ => ⟨b, c⟩, fun z => absurd z (by decide), fun z => absurd z (by decide), fun z => absurd z (by decide), fun z => absurd z (by decide)⟩
  · rcases ft_5 (A := A) (T := T) (j := j) (q := Q 0) (r := Q 1) (s := Q 2) (Q := Q) (h0 := rfl) (h1 := rfl) with ⟨a, b⟩ | ⟨a, b, c⟩
    · exact .inl ⟨a, b⟩
    · exact .inr ⟨_, a, fun _ _ => ⟨b, c⟩, fun z => absurd z (by decide), fun z => absurd z (by decide), fun z => absurd z (by decide), fun z => absurd z (by decide)⟩
  · rcases ft_6 (A := A) (T := T) (j := j) (q := Q 0) (r := Q 1) (s := Q 2) (Q := Q) (h0 := rfl) (h1 := rfl) with ⟨a, b⟩ | ⟨a, b, c⟩
    · exact .inl ⟨a, b⟩
    · exact .inr ⟨_, a, fun _ _ => ⟨b, c⟩, fun z => absurd z (by decide), fun z => absurd z (by decide), fun z => absurd z (by decide), fun z => absurd z (by decide)⟩
  · rcases ft_7 (A := A) (T := T) (j := j) (q := Q 0) (r := Q 1) (s := Q 2) (Q := Q) (h0 := rfl) (h1 := rfl) with ⟨a, b⟩ | ⟨a, b, c⟩
    · exact .inl ⟨a, b⟩
    · exact .inr ⟨_, a, fun _ _ => ⟨b, c⟩, fun z => absurd z (by decide), fun z => absurd z (by decide), fun z => absurd z (by decide), fun z => absurd z (by decide)⟩
  · rcases ft_8 (A := A) (T := T) (j := j) (q := Q 0) (r := Q 1) (s := Q 2) (Q := Q) (h0 := rfl) (h1 := rfl) with ⟨a, b⟩ | ⟨a, b, c⟩
    · exact .inl ⟨a, b⟩
    · exact .inr ⟨_, a, fun _ _ => ⟨b, c⟩, fun z => absurd z (by decide), fun z => absurd z (by decide), fun z => absurd z (by decide), fun z => absurd z (by decide)⟩
  · rcases ft_9 (A := A) (T := T) (j := j) (q := Q 0) (r := Q 1) (s := Q 2) (Q := Q) (h0 := rfl) (h1 := rfl) with ⟨a, b⟩ | ⟨a, b, c⟩
    · exact .inl ⟨a, b⟩
    · exact .inr ⟨_, a, fun _ _ => ⟨b, c⟩, fun z => absurd z (by decide), fun z => absurd z (by decide), fun z => absurd z (by decide), fun z => absurd z (by decide)⟩
  · rcases ft_10 (A := A) (T := T) (j := j) (q := Q 0) (r := Q 1) (s := Q 2) (Q := Q) (h0 := rfl) (h1 := rfl) (h2 := rfl) with ⟨a, b⟩ | ⟨a, b, c⟩
    · exact .inl ⟨a, b⟩
    · exact .inr ⟨_, a, fun _ _ => ⟨b, c⟩, fun z => absurd z (by decide), fun z => absurd z (by decide), fun z => absurd z (by decide), fun z => absurd z (by decide)⟩
  · rcases ft_11 (A := A) (T := T) (j := j) (q := Q 0) (r := Q 1) (s := Q 2) (Q := Q) (h0 := rfl) (h1 := rfl) with ⟨a, b⟩ | ⟨a, b, c⟩
    · exact .inl ⟨a, b⟩
    · exact .inr ⟨_, a, fun _ _ => ⟨b, c⟩, fun z => absurd z (by decide), fun z => absurd z (by decide), fun z => absurd z (by decide), fun z => absurd z (by decide)⟩
  · rcases ft_12 (A := A) (T := T) (j := j) (q := Q 0) (r := Q 1) (s := Q 2) (Q := Q) (h0 := rfl) with ⟨a, b⟩ | ⟨a, b, c⟩
    · exact .inl ⟨a, b⟩
    · exact .inr ⟨_, a, fun _ _ => ⟨b, c⟩, fun z => absurd z (by decide), fun z => absurd z (by decide), fun z => absurd z (by decide), fun z => absurd z (by decide)⟩
  · rcases ft_13 (A := A) (T := T) (j := j) (q := Q 0) (r := Q 1) (s := Q 2) (Q := Q) (h0 := rfl) (h1 := rfl) with ⟨a, b⟩ | ⟨a, b, c⟩
    · exact .inl ⟨a, b⟩
    · exact .inr ⟨_, a, fun _ _ => ⟨b, c⟩, fun z => absurd z (by decide), fun z => absurd z (by decide), fun z => absurd z (by decide), fun z => absurd z (by decide)⟩
  · rcases ft_14 (A := A) (T := T) (j := j) (q := Q 0) (r := Q 1) (s := Q 2) (Q := Q) (h0 := rfl) (h1 := rfl) (h2 := rfl) with ⟨a, b⟩ | ⟨a, b, c⟩
    · exact .inl ⟨a, b⟩
    · exact .inr ⟨_, a, fun _ _ => ⟨b, c⟩, fun z => absurd z (by decide), fun z => absurd z (by decide), fun z => absurd z (by decide), fun z => absurd z (by decide)⟩
  · rcases ft_15 (A := A) (T := T) (j := j) (q := Q 0) (r := Q 1) (s := Q 2) (Q := Q) (h0 := rfl) (h1 := rfl) (h2 := rfl) with ⟨a, b⟩ | ⟨a, b, c⟩
    · exact .inl ⟨a, b⟩
    · exact .inr ⟨_, a, fun _ _ => ⟨b, c⟩, fun z => absurd z (by decide), fun z => absurd z (by decide), fun z => absurd z (by decide), fun z => absurd z (by decide)⟩
  · rcases ft_16 (A := A) (T := T) (j := j) (q := Q 0) (r := Q 1) (s := Q 2) (Q := Q) (h0 := rfl) (h1 := rfl) with ⟨a, b⟩ | ⟨a, b, c⟩
    · exact .inl ⟨a, b⟩
    · exact .inr ⟨_, a, fun _ _ => ⟨b, c⟩, fun z => absurd z (by decide), fun z => absurd z (by decide), fun z => absurd z (by decide), fun z => absurd z (by decide)⟩
  · rcases ft_17 (A := A) (T := T) (j := j) (q := Q 0) (r := Q 1) (s := Q 2) (Q := Q) (h0 := rfl) with ⟨a, b⟩ | ⟨a, b⟩
    · exact .inl ⟨a, b⟩
    · exact .inr ⟨_, a, fun _ z => absurd z (by decide), fun _ => b, fun z => absurd z (by decide), fun z => absurd z (by decide), fun z => absurd z (by decide)⟩
theorem k2_has {post : Int32 → Prop} {n k : Nat} (h1 : 1 ≤ k) (h2 : k ≤ n) (hn : n ≤ 300) : wp_X2_has post (nI n) (nI k) = post (nI 1) := by
  unfold wp_X2_has
  rw [fb_ltf (by omega) (by omega), fb_ltf (by omega) (by omega), fb_ltf (by omega) (by omega)]
theorem sp2_has {post : Int32 → Prop} {n : Nat} {x : Int32} (hn : n ≤ 300) (yes : ∀ k, 1 ≤ k → k ≤ n → x = nI k → post (nI 1)) (no : (¬ ∃ k, 1 ≤ k ∧ k ≤ n ∧ x = nI k) → post (nI 0)) : wp_X2_has post (nI n) x := by
  unfold wp_X2_has
  refine fx_br_i (fun h => no ?_) (fun g1 => fx_br_i (fun h => no ?_) (fun g2 => ?_))
  · rintro ⟨k, h1, h2, rfl⟩
    exact nI_nlt h1 (by omega) h
  · rintro ⟨k, h1, h2, rfl⟩
    exact nI_nlt h2 (by omega) h
  obtain ⟨k, h1, h2, rfl⟩ := i_rng 1 n (by omega) (by omega) g1 g2
  rw [fb_ltf (by omega) (by omega)]
  exact yes k h1 h2 rfl
theorem k2_count {post : Int32 → Prop} {n k c : Nat} {C : Nat → Int32} (h1 : 1 ≤ k) (h2 : k ≤ n) (hn : n ≤ 300) (hC : C k = nI c) : wp_X2_premiseCount post (nI n) C (nI k) = post (nI c) := by
  unfold wp_X2_premiseCount
  rw [k2_has h1 h2 hn, fb_eq0f (by decide) (by decide), fx_ix_n (by omega) (by omega), fx_nm_rd, hC]
theorem k2_rule {post : Int32 → Prop} {n k : Nat} {R : Nat → Int32} (h1 : 1 ≤ k) (h2 : k ≤ n) (hn : n ≤ 300) : wp_X2_ruleNumber post (nI n) R (nI k) = post (R k) := by
  unfold wp_X2_ruleNumber
  rw [k2_has h1 h2 hn, fb_eq0f (by decide) (by decide), fx_ix_n (by omega) (by omega), fx_nm_rd]
theorem k2_inst {post : Int32 → Prop} {n k : Nat} {R : Nat → Int32} (h1 : 1 ≤ k) (h2 : k ≤ n) (hn : n ≤ 300) : wp_X2_instance post (nI n) R (nI k) = post (R k) := by
  unfold wp_X2_instance
  rw [k2_has h1 h2 hn, fb_eq0f (by decide) (by decide), fx_ix_n (by omega) (by omega), fx_nm_rd]
theorem k2_at {post : Int32 → Prop} {n k c i p : Nat} {C P : Nat → Int32} (h1 : 1 ≤ k) (h2 : k ≤ n) (hn : n ≤ 300) (hC : C k = nI c) (hc : c ≤ 3) (hi : i < c) (hp : P (3 * k + i) = nI p) : wp_X2_premiseAt post (nI n) C P (nI k) (nI i) = post (nI p) := by
  unfold wp_X2_premiseAt
  rw [fj1, fb_lt0 (by omega), fb_lef (by omega) (by omega), k2_count h1 h2 hn hC, fb_lef (by omega) (by omega)]
  simp only []
  rw [fb_eq0f (by decide) (by decide), fx_nm_mul, fx_nm_add, fx_ix_n (by omega) (by omega), fx_nm_rd, Nat.mul_comm, hp]
theorem k5_ruleOf {post : Option Nat → Prop} {n k r : Nat} {R : Nat → Int32} (h1 : 1 ≤ k) (h2 : k ≤ n) (hn : n ≤ 300) (hR : R k = nI r) (hr : r < 18) : wp_X5_ruleOf post (nI n) R (nI k) = post (some r) := by
  unfold wp_X5_ruleOf wp_X5_ruleNumbered
  rw [k2_has h1 h2 hn, fb_eq0f (by decide) (by decide), k2_rule h1 h2 hn, hR, fb_lt0 (by omega), fb_lef (by omega) (by omega), fx_ix_n (by omega) (by omega)]
theorem k_on {i : Nat} {X : Prop} {B : Nat → Prop} : fx_on (some i) X B = B i := propext ⟨fun z => z.2 i rfl, fun z => fx_on_s z⟩
theorem sp_forget {post : (Nat → Int32) → Prop} {M : Nat → Int32} (h : ∀ M', me M' e0 → post M') : wp_X1_forget post M := by
  unfold wp_X1_forget wp_J7_fill_53178
  refine wh2_up 26 (fun i M => ∀ s, s < i → M s = -1) (fun rec i M hi hI hr => ?_) 0 M (by omega) (fun s hs => absurd hs (by omega))
  refine fb_le (by omega) (by omega) (fun hl => h M (fun s hs => ⟨fun _ => hI s (by omega), fun v z => by simp [e0] at z⟩)) (fun hl => ?_)
  rw [fx_ix_n (by omega) (by omega), fx_nm_up, fx_nm_add]
  refine hr _ (by omega) (fun s hs => ?_)
  by_cases e : s = i
  · rw [e, pk_us]
  · rw [pk_un e]
    exact hI s (by omega)
theorem fitn_no {p : Nat} {Q : Nat → Q4} {i : Nat} (h : fitn p Q i = none) : ∀ d, fitn p Q (i + d) = none := by
  intro d
  induction d with
  | zero => exact h
  | succ d ih =>
    show (fitn p Q (i + d)).bind _ = none
    rw [ih]
    rfl
theorem sp_fits {post : Int32 → (Nat → Int32) → Prop} {C P K N M : Nat → Int32} {n k c ru : Nat} {Q : Nat → Q4} {p : Nat → Nat} (h1 : 1 ≤ k) (h2 : k ≤ n) (hn : n ≤ 300) (hr : ru < 18) (hC : C k = nI c) (hc : c ≤ tk ru)
    (hp : ∀ i, i < c → P (3 * k + i) = nI (p i) ∧ 1 ≤ p i ∧ p i ≤ 300 ∧ r3 K N (p i) (Q i) ∧ q_b (Q i))
    (no1 : ¬ c = tk ru → ∀ M', post (nI 0) M') (no : c = tk ru → fitn (fx_ra.getD ru 0) Q (tk ru) = none → ∀ M', post (nI 0) M') (yes : c = tk ru → ∀ E, fitn (fx_ra.getD ru 0) Q (tk ru) = some E → ∀ M', me M' E → post (nI 1) M') : wp_X5_fits post (nI n) C P K N M (nI k) ru := by
  have t3 := tk_3 ru
  have h66 : fx_ra.getD ru 0 < 66 := by
    have : ∀ r, r < 18 → fx_ra.getD r 0 < 66 := by decide +kernel
    exact this ru hr
  unfold wp_X5_fits
  rw [k2_count h1 h2 hn hC, fl_t hr, k_takes3 hr]
  refine fb_eq (by omega) (by omega) (fun e => ?_) (fun e => no1 e _)
  refine sp_forget (fun M' hM' => ?_)
  refine wh2_up (tk ru) (fun i M => ∃ E, fitn (fx_ra.getD ru 0) Q i = some E ∧ me M E) (fun rec i M hi hI hrec => ?_) 0 M' (by omega) ⟨e0, rfl, hM'⟩
  obtain ⟨E, hE, hM⟩ := hI
  rw [fl_t hr, k_takes3 hr]
  refine fb_le (by omega) (by omega) (fun hl => yes e E (by rw [show tk ru = i by omega]; exact hE) M hM) (fun hl => ?_)
  obtain ⟨p1, p2, p3, p4, p5⟩ := hp i (by omega)
  rw [k2_at h1 h2 hn hC (by omega) (by omega) p1, fl_t hr, fx_nm_mul]
  have hs : fitn (fx_ra.getD ru 0) Q (i + 1) = told E (fx_ra.getD ru 0) (i * 4) (Q i) := by
    show (fitn (fx_ra.getD ru 0) Q i).bind _ = _
    rw [hE]
    rfl
  refine sp_told p2 p3 p4 p5 h66 (by omega) hM (fun z M' => ?_) (fun E' z M' hM' => ?_)
  · rw [fb_eq0t rfl]
    refine no e ?_ _
    rw [show tk ru = (i + 1) + (tk ru - (i + 1)) by omega]
    exact fitn_no (hs.trans z) _
  · rw [fb_eq0f (by decide) (by decide), fx_nm_add]
    exact hrec _ (by omega) ⟨E', hs.trans z, hM'⟩
theorem k_mean {post : Int32 → Prop} {M : Nat → Int32} {E : En} {c : Nat} (h : c < 128) (hM : me M E) (hd : df E c) : wp_X1_meaning post M (nI c) = post (nI (mv E c)) := by
  by_cases hl : 97 ≤ c ∧ c ≤ 122
  · rw [k_mean_l hl.1 hl.2]
    obtain ⟨v, hv⟩ := Option.isSome_iff_exists.mp (hd hl)
    rw [((hM (c - 97) (by omega)).2 v hv).2]
    simp only [mv, if_pos hl, hv, Option.getD_some]
  · rw [k_mean_d h hl]
    simp only [mv, if_neg hl]
theorem sp4_put {post : (Nat → Int32) → (Nat → Int32) → Prop} {K N K2 N2 : Nat → Int32} {k j : Nat} {q : Q4} (h1 : 1 ≤ k) (h2 : k ≤ 300) (j1 : 1 ≤ j) (j2 : j ≤ 100) (hq : r3 K2 N2 j q)
    (h : post (upd K k (nI q.1)) (u3 N k (nI q.2.1) (nI q.2.2.1) (nI q.2.2.2))) : wp_X4_put post 301 903 101 303 K N K2 N2 (nI k) (nI j) := by
  obtain ⟨q1, q2, q3, q4⟩ := hq
  unfold wp_X4_put
  rw [k4_kind j1 (by omega) (by omega), k4_number1 j1 (by omega) (by omega) (by omega), k4_number2 j1 (by omega) (by omega) (by omega), k4_number3 j1 (by omega) (by omega) (by omega), q1, q2, q3, q4]
  exact sp4_put_ h1 (by omega) (by omega) (by omega) h
/-- what a write at one row comes to -/
def w3 (K N K' N' : Nat → Int32) (k : Nat) (q : Q4) : Prop := r3 K' N' k q ∧ ∀ j, j ≠ k → ∀ r, r3 K N j r → r3 K' N' j r
theorem w3_set {K N : Nat → Int32} {k : Nat} {q : Q4} : w3 K N (upd K k (nI q.1)) (u3 N k (nI q.2.1) (nI q.2.2.1) (nI q.2.2.2)) k q := ⟨r3_set, fun j hj r hr => r3_ne hj hr⟩
set_option maxHeartbeats 1000000 in
theorem sp_conclude {post : (Nat → Int32) → (Nat → Int32) → (Nat → Int32) → Prop} {AK AN TK TN I K N M : Nat → Int32} {A T : Nat → Q4} {E : En} {n k ru na nt : Nat} {q : Q4} (h1 : 1 ≤ k) (h2 : k ≤ n) (hn : n ≤ 300) (hr : ru < 18) (hna : na ≤ 100) (hnt : nt ≤ 100) (hA : a3 AK AN A na) (hT : a3 TK TN T nt) (hM : me M E)
    (i0 : ru = 0 → ∃ j, I k = nI j ∧ 1 ≤ j ∧ j ≤ na ∧ q = A j) (i1 : ru = 1 ∨ ru = 17 → ∃ j, I k = nI j ∧ 1 ≤ j ∧ j ≤ nt ∧ q = T j) (i2 : ru = 2 → ∃ j, I k = nI j ∧ j < 1000 ∧ E = e0 ∧ q = (1, j, j, 0)) (i3 : 3 ≤ ru → ru < 17 → gd E (fx_rg.getD ru 0) ∧ q = gv E (fx_rg.getD ru 0))
    (h : ∀ K' N' M', w3 K N K' N' k q → post K' N' M') : wp_X5_conclude post AK AN TK TN (nI n) I K N M (nI k) ru := by
  have h66 : fx_rg.getD ru 0 < 66 := by
    have : ∀ r, r < 18 → fx_rg.getD r 0 < 66 := by decide +kernel
    exact this ru hr
  have fin : ∀ (M : Nat → Int32) (E : En), me M E → gd E (fx_rg.getD ru 0) → q = gv E (fx_rg.getD ru 0) → fx_lt ru 18 (wp_X5_signAt (fun r6 => wp_X1_kindFor (fun r7 => fx_lt ru 18 (wp_X5_signAt (fun r8 => wp_X1_meaning (fun r9 => fx_lt ru 18 (wp_X5_signAt (fun r10 => wp_X1_meaning (fun r11 => fx_lt ru 18 (wp_X5_signAt (fun r12 => wp_X1_meaning (fun r13 => wp_X4_put_ (fun y14 y15 => post y14 y15 M) 301 903 K N (nI k) r7 r9 r11 r13) M r12) (fx_rg.getD ru 0) (nI 3))) M r10) (fx_rg.getD ru 0) (nI 2))) M r8) (fx_rg.getD ru 0) (nI 1))) r6) (fx_rg.getD ru 0) (nI 0)) := by
    intro M E hM hg hq
    obtain ⟨d1, d2, d3⟩ := hg
    rw [fl_t hr, k_sign h66 (by decide), k_kindFor (sgn_b h66), fl_t hr, k_sign h66 (by decide), k_mean (sgn_b h66) hM d1, fl_t hr, k_sign h66 (by decide), k_mean (sgn_b h66) hM d2, fl_t hr, k_sign h66 (by decide), k_mean (sgn_b h66) hM d3]
    refine sp4_put_ h1 (by omega) (by omega) (by omega) (h _ _ _ ?_)
    rw [hq]
    exact w3_set (q := gv E (fx_rg.getD ru 0))
  unfold wp_X5_conclude
  rw [k2_inst h1 h2 hn, fl_t hr]
  refine fx_br_i (fun e => ?_) (fun e0' => ?_)
  · obtain ⟨j, e1, e2, e3, rfl⟩ := i0 e
    rw [e1]
    exact sp4_put h1 (by omega) e2 (by omega) (hA j e2 e3) (h _ _ _ w3_set)
  rw [fl_t hr]
  refine fx_br_i (fun e => ?_) (fun e1' => ?_)
  · obtain ⟨j, e1, e2, e3, rfl⟩ := i1 (.inl e)
    rw [e1]
    exact sp4_put h1 (by omega) e2 (by omega) (hT j e2 e3) (h _ _ _ w3_set)
  rw [fl_t hr]
  refine fx_br_i (fun e => ?_) (fun e17 => ?_)
  · obtain ⟨j, e1, e2, e3, rfl⟩ := i1 (.inr e)
    rw [e1]
    exact sp4_put h1 (by omega) e2 (by omega) (hT j e2 e3) (h _ _ _ w3_set)
  rw [fj1, fl_t hr]
  refine fx_br_i (fun e => ?_) (fun e2' => ?_)
  · subst e
    obtain ⟨j, e1, e2, rfl, hq⟩ := i2 rfl
    rw [e1]
    have hg : ag e0 105 j = some (eu e0 8 j) := rfl
    have hgd : gd (eu e0 8 j) (fx_rg.getD 2 0) := ⟨fun _ => rfl, fun _ => rfl, fun z => absurd z (by decide)⟩
    have hgv : q = gv (eu e0 8 j) (fx_rg.getD 2 0) := hq
    refine sp_agree (by decide) e2 hM (fun z M' => ?_) (fun E' z M' hM' => ?_)
    · rw [hg] at z
      exact absurd z (by simp)
    · rw [hg] at z
      have z := Option.some.inj z
      subst z
      exact fin M' _ hM' hgd hgv
  · obtain ⟨a, b⟩ := i3 (by omega) (by omega)
    exact fin M E hM a b
set_option maxHeartbeats 1000000 in
theorem sp_derive {post : (Nat → Int32) → (Nat → Int32) → (Nat → Int32) → Prop} {AK AN TK TN R I C P K N M : Nat → Int32} {A T S : Nat → Q4} {ru : Nat → Nat} {ins : Nat → Int32} {cn : Nat → Nat} {pr : Nat → Nat → Nat} {na nt n k : Nat} (h1 : 1 ≤ k) (h2 : k ≤ n) (hn : n ≤ 300) (hna : na ≤ 100) (hnt : nt ≤ 100) (hA : a3 AK AN A na) (hT : a3 TK TN T nt)
    (hrr : rr R I C P ru ins cn pr n) (hwf : wf na nt ru ins cn pr n) (hS : ∀ j, 1 ≤ j → j < k → r3 K N j (S j) ∧ q_b (S j))
    (h : ∀ K' N' M', w3 K N K' N' k (so A T S ru ins cn pr k) → post K' N' M') : wp_X5_derive post AK AN TK TN (nI n) R I C P K N M (nI k) := by
  obtain ⟨w1, w2, wp3, w4, w5, w6⟩ := hwf k h1 h2
  obtain ⟨g1, g2, g3, g4⟩ := hrr k h1 h2
  have t3 := tk_3 (ru k)
  unfold wp_X5_derive wp_X4_clear
  refine sp4_put_ h1 (by omega) (by omega) (by omega) ?_
  have hw := w3_set (K := K) (N := N) (k := k) (q := q_z)
  revert hw
  show w3 K N (upd K k (nI 0)) (u3 N k (nI 0) (nI 0) (nI 0)) k q_z → _
  generalize upd K k (nI 0) = K1
  generalize u3 N k (nI 0) (nI 0) (nI 0) = N1
  intro hw
  simp only []
  rw [k5_ruleOf h1 h2 hn g1 w1, k_on]
  have zero : so A T S ru ins cn pr k = q_z → ∀ M', post K1 N1 M' := fun e M' => h K1 N1 M' (by rw [e]; exact hw)
  refine sp_fits (Q := sq S cn pr k) (p := pr k) h1 h2 hn w1 g3 w2 (fun i hi => ?_) (fun e M' => ?_) (fun e z M' => ?_) (fun e E z M' hM' => ?_)
  · obtain ⟨p1, p2⟩ := wp3 i hi
    obtain ⟨s1, s2⟩ := hS (pr k i) p1 p2
    refine ⟨g4 i hi, p1, by omega, ?_, ?_⟩
    · rw [sq, if_pos hi]
      exact hw.2 _ (by omega) _ s1
    · rw [sq, if_pos hi]
      exact s2
  · rw [fb_eq0t rfl]
    exact zero (sn_bad (.inl e) w1) M'
  · rw [fb_eq0t rfl]
    refine zero ?_ M'
    rcases dv (A := A) (T := T) (j := (ins k).toNatClampNeg) (Q := sq S cn pr k) w1 with ⟨a, b⟩ | ⟨E, a, b⟩
    · rw [so, e]; exact b
    · rw [z] at a; exact absurd a (by simp)
  · rw [fb_eq0f (by decide) (by decide)]
    rcases dv (A := A) (T := T) (j := (ins k).toNatClampNeg) (Q := sq S cn pr k) w1 with ⟨a, b⟩ | ⟨E', a, b3, b17, b0, b1, b2⟩
    · rw [z] at a; exact absurd a (by simp)
    · rw [z] at a
      have a := Option.some.inj a
      subst a
      have es : so A T S ru ins cn pr k = sn_one A T (ru k) (ins k).toNatClampNeg (tk (ru k)) (sq S cn pr k 0) (sq S cn pr k 1) (sq S cn pr k 2) := by rw [so, e]
      refine sp_conclude (q := so A T S ru ins cn pr k) h1 h2 hn w1 hna hnt hA hT hM' (fun z => ?_) (fun z => ?_) (fun z => ?_) (fun z1 z2 => ?_) (fun K' N' M' hw' => h K' N' M' ⟨hw'.1, fun j hj r hr => hw'.2 j hj r (hw.2 j hj r hr)⟩)
      · obtain ⟨j, c1, c2, c3⟩ := w4 z
        refine ⟨j, g2.trans c1, c2, c3, ?_⟩
        rw [es, b0 z, c1, nI_clamp (by omega)]
      · obtain ⟨j, c1, c2, c3⟩ := w5 z
        refine ⟨j, g2.trans c1, c2, c3, ?_⟩
        rcases z with z | z
        · rw [es, b1 z, c1, nI_clamp (by omega)]
        · rw [es, b17 z, c1, nI_clamp (by omega)]
      · obtain ⟨j, c1, c2⟩ := w6 z
        refine ⟨j, g2.trans c1, c2, (b2 z).1, ?_⟩
        rw [es, (b2 z).2, c1, nI_clamp (by omega)]
      · obtain ⟨c1, c2⟩ := b3 z1 z2
        exact ⟨c1, es.trans c2⟩

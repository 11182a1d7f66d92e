/-! LOGIC: the reference's rows worked out one after the other -/
/-- the rows as they lie in four arrays -/
def rr (R I C P : Nat → Int32) (ru : Nat → Nat) (ins : Nat → Int32) (cn : Nat → Nat) (pr : Nat → Nat → Nat) (n : Nat) : Prop :=
  ∀ k, 1 ≤ k → k ≤ n → R k = nI (ru k) ∧ I k = ins k ∧ C k = nI (cn k) ∧ ∀ i, i < cn k → P (3 * k + i) = nI (pr k i)
/-- the rows are such as may be laid -/
def wf (na nt : Nat) (ru : Nat → Nat) (ins : Nat → Int32) (cn : Nat → Nat) (pr : Nat → Nat → Nat) (n : Nat) : Prop :=
  ∀ k, 1 ≤ k → k ≤ n → ru k < 18 ∧ cn k ≤ tk (ru k) ∧ (∀ i, i < cn k → 1 ≤ pr k i ∧ pr k i < k) ∧ (ru k = 0 → ∃ j, ins k = nI j ∧ 1 ≤ j ∧ j ≤ na) ∧ (ru k = 1 ∨ ru k = 17 → ∃ j, ins k = nI j ∧ 1 ≤ j ∧ j ≤ nt) ∧ (ru k = 2 → ∃ j, ins k = nI j ∧ j < 1000)
def sq (S : Nat → Q4) (cn : Nat → Nat) (pr : Nat → Nat → Nat) (k i : Nat) : Q4 := if i < cn k then S (pr k i) else q_z
/-- what the rows state -/
def so (A T S : Nat → Q4) (ru : Nat → Nat) (ins : Nat → Int32) (cn : Nat → Nat) (pr : Nat → Nat → Nat) (k : Nat) : Q4 :=
  sn_one A T (ru k) (ins k).toNatClampNeg (cn k) (sq S cn pr k 0) (sq S cn pr k 1) (sq S cn pr k 2)
def stt (A T S : Nat → Q4) (ru : Nat → Nat) (ins : Nat → Int32) (cn : Nat → Nat) (pr : Nat → Nat → Nat) (n : Nat) : Prop :=
  ∀ k, 1 ≤ k → k ≤ n → S k = so A T S ru ins cn pr k
theorem sn_bad {A T : Nat → Q4} {ru j c : Nat} {q r s : Q4} (h : ¬ c = tk ru ∨ (1 ≤ tk ru ∧ q.1 = 0) ∨ (2 ≤ tk ru ∧ r.1 = 0) ∨ (3 ≤ tk ru ∧ s.1 = 0)) (hr : ru < 18) : sn_one A T ru j c q r s = q_z := by
  by_cases hc : c = tk ru
  · subst hc
    have h := h.resolve_left (fun z => z rfl)
    rcases (show ru = 0 ∨ ru = 1 ∨ ru = 2 ∨ ru = 3 ∨ ru = 4 ∨ ru = 5 ∨ ru = 6 ∨ ru = 7 ∨ ru = 8 ∨ ru = 9 ∨ ru = 10 ∨ ru = 11 ∨ ru = 12 ∨ ru = 13 ∨ ru = 14 ∨ ru = 15 ∨ ru = 16 ∨ ru = 17 by omega) with rfl | rfl | rfl | rfl | rfl | rfl | rfl | rfl | rfl | rfl | rfl | rfl | rfl | rfl | rfl | rfl | rfl | rfl
    all_goals
      simp only [tk] at h
      first
        | (exfalso; revert h; decide)
        | (rcases h with ⟨h1, h⟩ | ⟨h1, h⟩ | ⟨h1, h⟩ <;> first | (exfalso; revert h1; decide) | simp [sn_one, tk, h])
  · simp [sn_one, hc]
theorem sn_bd {A T : Nat → Q4} {ru j c : Nat} {q r s : Q4} (hr : ru < 18) (hA : ru = 0 → q_b (A j)) (hT : ru = 1 ∨ ru = 17 → q_b (T j)) (hj : ru = 2 → j < 1000) (hq : q_b q) (hr' : q_b r) (hs : q_b s) : q_b (sn_one A T ru j c q r s) := by
  obtain ⟨q1, q2, q3, q4⟩ := hq
  obtain ⟨r1, r2, r3, r4⟩ := hr'
  obtain ⟨s1, s2, s3, s4⟩ := hs
  have hz : q_b q_z := ⟨by decide, by decide, by decide, by decide⟩
  unfold sn_one
  split
  · rcases (show ru = 0 ∨ ru = 1 ∨ ru = 2 ∨ ru = 3 ∨ ru = 4 ∨ ru = 5 ∨ ru = 6 ∨ ru = 7 ∨ ru = 8 ∨ ru = 9 ∨ ru = 10 ∨ ru = 11 ∨ ru = 12 ∨ ru = 13 ∨ ru = 14 ∨ ru = 15 ∨ ru = 16 ∨ ru = 17 by omega) with rfl | rfl | rfl | rfl | rfl | rfl | rfl | rfl | rfl | rfl | rfl | rfl | rfl | rfl | rfl | rfl | rfl | rfl
    · exact hA rfl
    · exact hT (.inl rfl)
    · show (1 : Nat) ≤ 12 ∧ j < 1000 ∧ j < 1000 ∧ 0 < 1000
      exact ⟨by decide, hj rfl, hj rfl, by decide⟩
    rotate_right
    · simp only
      split
      · exact hT (.inr rfl)
      · exact hz
    all_goals
      simp only
      split
      · refine ⟨?_, ?_, ?_, ?_⟩ <;> simp only <;> omega
      · exact hz
  · exact hz

theorem sp6_single {post : (Nat → Int32) → Prop} {FA FT rules ins cnt prem F : Nat → Int32} {A T : Nat → Q4} {k ru : Nat} {Q : Nat → Q4} (p : Nat → Nat) (hk : k ≤ 300) (hru : ru < 18) (hR : rules k = nI ru) (hC : cnt k = nI (tk ru))
    (hp : ∀ i, i < tk ru → prem (3 * k + i) = nI (p i) ∧ p i ≤ 300 ∧ r4 F (p i) (Q i) ∧ q_b (Q i))
    (h0 : ru = 0 → ∃ j, ins k = nI j ∧ j ≤ 100 ∧ r4 FA j (A j)) (h1 : ru = 1 ∨ ru = 17 → ∃ j, ins k = nI j ∧ j ≤ 100 ∧ r4 FT j (T j)) (h2 : ru = 2 → ∃ j, ins k = nI j ∧ j < 1000)
    (hz : sn_one A T ru (ins k).toNatClampNeg (tk ru) (Q 0) (Q 1) (Q 2) = q_z → post F) (ho : ∀ a b c d, sn_one A T ru (ins k).toNatClampNeg (tk ru) (Q 0) (Q 1) (Q 2) = (a, b, c, d) → post (u4 F k (nI a) (nI b) (nI c) (nI d))) : wp_X6_single post FA FT rules ins cnt prem F (nI k) := by
  have hRP : ∀ P : Int32 → Prop, fx_nm (rules k) P = P (nI ru) := fun P => by rw [fx_nm_eq, hR]
  unfold wp_X6_single
  rw [fx_ix_n (by omega) (by omega), fx_nm_rd, fx_ix_n (by omega) (by omega), hRP]
  rcases (show ru = 0 ∨ ru = 1 ∨ ru = 2 ∨ ru = 3 ∨ ru = 4 ∨ ru = 5 ∨ ru = 6 ∨ ru = 7 ∨ ru = 8 ∨ ru = 9 ∨ ru = 10 ∨ ru = 11 ∨ ru = 12 ∨ ru = 13 ∨ ru = 14 ∨ ru = 15 ∨ ru = 16 ∨ ru = 17 by omega) with rfl | rfl | rfl | rfl | rfl | rfl | rfl | rfl | rfl | rfl | rfl | rfl | rfl | rfl | rfl | rfl | rfl | rfl
  · simp (disch := omega) only [↓fb_eqt, ↓fb_eqf]
    obtain ⟨j, e, hj, hq⟩ := h0 rfl
    rw [e, nI_clamp (by omega)] at ho
    rw [e, k6_copy_a hk hj hq]
    exact ho _ _ _ _ (by simp [sn_one, tk])
  · simp (disch := omega) only [↓fb_eqt, ↓fb_eqf]
    obtain ⟨j, e, hj, hq⟩ := h1 (.inl rfl)
    rw [e, nI_clamp (by omega)] at ho
    rw [e, k6_copy_t hk hj hq]
    exact ho _ _ _ _ (by simp [sn_one, tk])
  · simp (disch := omega) only [↓fb_eqt, ↓fb_eqf]
    obtain ⟨j, e, hj⟩ := h2 rfl
    rw [e, nI_clamp (by omega)] at ho
    rw [e, k6_state hk]
    exact ho 1 j j 0 (by simp [sn_one, tk])
  · simp (disch := omega) only [↓fb_eqt, ↓fb_eqf]
    obtain ⟨e0, b0, f0, c0⟩ := hp 0 (by decide)
    obtain ⟨e1, b1, f1, c1⟩ := hp 1 (by decide)
    exact c6_3 hk hR hC e0 b0 f0 c0 e1 b1 f1 c1 hz ho
  · simp (disch := omega) only [↓fb_eqt, ↓fb_eqf]
    obtain ⟨e0, b0, f0, c0⟩ := hp 0 (by decide)
    obtain ⟨e1, b1, f1, c1⟩ := hp 1 (by decide)
    exact c6_4 hk hR hC e0 b0 f0 c0 e1 b1 f1 c1 hz ho
  · simp (disch := omega) only [↓fb_eqt, ↓fb_eqf]
    obtain ⟨e0, b0, f0, c0⟩ := hp 0 (by decide)
    obtain ⟨e1, b1, f1, c1⟩ := hp 1 (by decide)
    exact c6_5 hk hR hC e0 b0 f0 c0 e1 b1 f1 c1 hz ho
  · simp (disch := omega) only [↓fb_eqt, ↓fb_eqf]
    obtain ⟨e0, b0, f0, c0⟩ := hp 0 (by decide)
    obtain ⟨e1, b1, f1, c1⟩ := hp 1 (by decide)
    exact c6_6 hk hR hC e0 b0 f0 c0 e1 b1 f1 c1 hz ho
  · simp (disch := omega) only [↓fb_eqt, ↓fb_eqf]
    obtain ⟨e0, b0, f0, c0⟩ := hp 0 (by decide)
    obtain ⟨e1, b1, f1, c1⟩ := hp 1 (by decide)
    exact c6_7 hk hR hC e0 b0 f0 c0 e1 b1 f1 c1 hz ho
  · simp (disch := omega) only [↓fb_eqt, ↓fb_eqf]
    obtain ⟨e0, b0, f0, c0⟩ := hp 0 (by decide)
    obtain ⟨e1, b1, f1, c1⟩ := hp 1 (by decide)
    exact c6_8 hk hR hC e0 b0 f0 c0 e1 b1 f1 c1 hz ho
  · simp (disch := omega) only [↓fb_eqt, ↓fb_eqf]
    obtain ⟨e0, b0, f0, c0⟩ := hp 0 (by decide)
    obtain ⟨e1, b1, f1, c1⟩ := hp 1 (by decide)
    exact c6_9 hk hR hC e0 b0 f0 c0 e1 b1 f1 c1 hz ho
  · simp (disch := omega) only [↓fb_eqt, ↓fb_eqf]
    obtain ⟨e0, b0, f0, c0⟩ := hp 0 (by decide)
    obtain ⟨e1, b1, f1, c1⟩ := hp 1 (by decide)
    obtain ⟨e2, b2, f2, c2⟩ := hp 2 (by decide)
    exact c6_10 hk hR hC e0 b0 f0 c0 e1 b1 f1 c1 e2 b2 f2 c2 hz ho
  · simp (disch := omega) only [↓fb_eqt, ↓fb_eqf]
    obtain ⟨e0, b0, f0, c0⟩ := hp 0 (by decide)
    obtain ⟨e1, b1, f1, c1⟩ := hp 1 (by decide)
    exact c6_11 hk hR hC e0 b0 f0 c0 e1 b1 f1 c1 hz ho
  · simp (disch := omega) only [↓fb_eqt, ↓fb_eqf]
    obtain ⟨e0, b0, f0, c0⟩ := hp 0 (by decide)
    exact c6_12 hk hR hC e0 b0 f0 c0 hz ho
  · simp (disch := omega) only [↓fb_eqt, ↓fb_eqf]
    obtain ⟨e0, b0, f0, c0⟩ := hp 0 (by decide)
    obtain ⟨e1, b1, f1, c1⟩ := hp 1 (by decide)
    exact c6_13 hk hR hC e0 b0 f0 c0 e1 b1 f1 c1 hz ho
  · simp (disch := omega) only [↓fb_eqt, ↓fb_eqf]
    obtain ⟨e0, b0, f0, c0⟩ := hp 0 (by decide)
    obtain ⟨e1, b1, f1, c1⟩ := hp 1 (by decide)
    obtain ⟨e2, b2, f2, c2⟩ := hp 2 (by decide)
    exact c6_14 hk hR hC e0 b0 f0 c0 e1 b1 f1 c1 e2 b2 f2 c2 hz ho
  · simp (disch := omega) only [↓fb_eqt, ↓fb_eqf]
    obtain ⟨e0, b0, f0, c0⟩ := hp 0 (by decide)
    obtain ⟨e1, b1, f1, c1⟩ := hp 1 (by decide)
    obtain ⟨e2, b2, f2, c2⟩ := hp 2 (by decide)
    exact c6_15 hk hR hC e0 b0 f0 c0 e1 b1 f1 c1 e2 b2 f2 c2 hz ho
  · simp (disch := omega) only [↓fb_eqt, ↓fb_eqf]
    obtain ⟨e0, b0, f0, c0⟩ := hp 0 (by decide)
    obtain ⟨e1, b1, f1, c1⟩ := hp 1 (by decide)
    exact c6_16 hk hR hC e0 b0 f0 c0 e1 b1 f1 c1 hz ho
  · simp (disch := omega) only [↓fb_eqt, ↓fb_eqf]
    obtain ⟨e0, b0, f0, c0⟩ := hp 0 (by decide)
    obtain ⟨j, e, hj, hq⟩ := h1 (.inr rfl)
    rw [e, nI_clamp (by omega)] at ho hz
    exact c6_17 hk hR hC e0 b0 f0 c0 hj e hq hz ho
theorem a4_z {F : Nat → Int32} {S : Nat → Q4} {k : Nat} {a b c d : Int32} (hk : 1 ≤ k) (h : a4 F S (k - 1)) : a4 (u4 F k a b c d) S (k - 1) := fun i h1 h2 => r4_ne (by omega) (h i h1 h2)
theorem a4_s {F : Nat → Int32} {S : Nat → Q4} {k : Nat} (hk : 1 ≤ k) (h : a4 F S (k - 1)) (h2 : r4 F k (S k)) : a4 F S k := by
  intro i h1 h3
  by_cases e : i = k
  · rw [e]; exact h2
  · exact h i h1 (by omega)
set_option maxHeartbeats 1000000 in
theorem sp6_work {post : (Nat → Int32) → Prop} {FA FT R I C P F : Nat → Int32} {A T S : Nat → Q4} {ru : Nat → Nat} {ins : Nat → Int32} {cn : Nat → Nat} {pr : Nat → Nat → Nat} {na nt n r : Nat} (hna : na ≤ 100) (hnt : nt ≤ 100) (hn : n ≤ 300) (hr : r ≤ n)
    (hA : a4 FA A na) (hT : a4 FT T nt) (hrr : rr R I C P ru ins cn pr n) (hwf : wf na nt ru ins cn pr n) (hS : stt A T S ru ins cn pr n) (hB : tb S n)
    (h : ∀ F', a4 F' S r → post F') : wp_X6_work post FA FT R I C P F (nI r) := by
  unfold wp_X6_work
  refine wh2_up (r + 1) (fun k F => 1 ≤ k ∧ a4 F S (k - 1)) (fun rec k F hk hI hrec => ?_) 1 F (by omega) ⟨by omega, fun i h1 h2 => absurd h1 (by omega)⟩
  obtain ⟨k1, hF⟩ := hI
  refine fb_lt (by omega) (by omega) (fun hl => h F (by rw [show k - 1 = r by omega] at hF; exact hF)) (fun hl => ?_)
  obtain ⟨w1, w2, w3, w4, w5, w6⟩ := hwf k k1 (by omega)
  obtain ⟨g1, g2, g3, g4⟩ := hrr k k1 (by omega)
  have t3 := tk_3 (ru k)
  have hCP : ∀ P : Int32 → Prop, fx_nm (C k) P = P (nI (cn k)) := fun P => by rw [fx_nm_eq, g3]
  have hRP : ∀ P : Int32 → Prop, fx_nm (R k) P = P (nI (ru k)) := fun P => by rw [fx_nm_eq, g1]
  rw [k6_state (by omega), fx_ix_n (by omega) (by omega), hCP, fx_ix_n (by omega) (by omega), hRP, k6_takes w1]
  have hF1 := a4_z (a := nI 0) (b := nI 0) (c := nI 0) (d := nI 0) k1 hF
  have hk0 : r4 (u4 F k (nI 0) (nI 0) (nI 0) (nI 0)) k q_z := r4_set
  generalize u4 F k (nI 0) (nI 0) (nI 0) (nI 0) = F1 at hF1 hk0 ⊢
  have hSk := hS k k1 (by omega)
  refine fj1_i (fun x => x = nI 1 ∧ cn k = tk (ru k) ∨ x = nI 0 ∧ ¬ cn k = tk (ru k)) (fun x hx => ?_) (fun K hK => ?_)
  · refine wh2_up (cn k) (fun i x => x = nI 1 ∧ cn k = tk (ru k) ∧ (∀ i', i' < i → ¬ (S (pr k i')).1 = 0) ∨ x = nI 0 ∧ S k = q_z) (fun rec2 i x hi hI2 hrec2 => ?_) 0 x (by omega) ?_
    · rw [fx_ix_n (by omega) (by omega), hCP]
      refine fb_le (by omega) (by omega) (fun hl2 => ?_) (fun hl2 => ?_)
      · rcases hI2 with ⟨rfl, hc, hall⟩ | ⟨rfl, hz⟩
        · rw [fb_eq0f (by decide) (by decide)]
          rw [hc] at g3 g4 hl2
          have hq : ∀ i, i < tk (ru k) → sq S cn pr k i = S (pr k i) := fun i hi => by unfold sq; rw [if_pos (by omega)]
          refine sp6_single (A := A) (T := T) (Q := sq S cn pr k) (pr k) (by omega) w1 g1 g3 (fun i hi2 => ?_) (fun e => ?_) (fun e => ?_) (fun e => ?_) (fun e => ?_) (fun a b c d e => ?_)
          · obtain ⟨p1, p2⟩ := w3 i (by omega)
            rw [hq i hi2]
            exact ⟨g4 i hi2, by omega, hF1 _ p1 (by omega), hB _ p1 (by omega)⟩
          · obtain ⟨j, e1, e2, e3⟩ := w4 e
            exact ⟨j, g2.trans e1, by omega, hA j e2 e3⟩
          · obtain ⟨j, e1, e2, e3⟩ := w5 e
            exact ⟨j, g2.trans e1, by omega, hT j e2 e3⟩
          · obtain ⟨j, e1, e2⟩ := w6 e
            exact ⟨j, g2.trans e1, e2⟩
          · rw [g2] at e
            rw [fx_nm_add]
            refine hrec F1 (by omega) ⟨by omega, ?_⟩
            rw [Nat.add_sub_cancel]
            refine a4_s k1 hF1 ?_
            rw [hSk, so, hc, e]
            exact hk0
          · rw [g2] at e
            rw [fx_nm_add]
            refine hrec _ (by omega) ⟨by omega, ?_⟩
            rw [Nat.add_sub_cancel]
            refine a4_s k1 (a4_z k1 hF1) ?_
            rw [hSk, so, hc, e]
            exact r4_set
        · rw [fb_eq0t rfl, fx_nm_add]
          refine hrec F1 (by omega) ⟨by omega, ?_⟩
          rw [Nat.add_sub_cancel]
          refine a4_s k1 hF1 ?_
          rw [hz]
          exact hk0
      · rcases hI2 with ⟨rfl, hc, hall⟩ | ⟨rfl, hz⟩
        · rw [fb_eq0f (by decide) (by decide)]
          obtain ⟨p1, p2⟩ := w3 i hl2
          rw [k6_of (by omega) (by omega) (g4 i hl2) (by omega) (by decide), Nat.add_zero, (hF1 _ p1 (by omega)).1]
          obtain ⟨b1, -⟩ := hB _ p1 (by omega)
          refine fb_eq0n (by omega) (fun e => ?_) (fun e => ?_)
          · rw [fx_nm_add]
            refine hrec2 _ hl2 (.inr ⟨rfl, ?_⟩)
            rw [hSk, so]
            have hqi : (sq S cn pr k i).1 = 0 := by unfold sq; rw [if_pos hl2]; exact e
            refine sn_bad (.inr ?_) w1
            rcases (show i = 0 ∨ i = 1 ∨ i = 2 by omega) with rfl | rfl | rfl
            · exact .inl ⟨by omega, hqi⟩
            · exact .inr (.inl ⟨by omega, hqi⟩)
            · exact .inr (.inr ⟨by omega, hqi⟩)
          · rw [fx_nm_add]
            refine hrec2 _ hl2 (.inl ⟨rfl, hc, fun i' h' => ?_⟩)
            by_cases z : i' = i
            · rw [z]; exact e
            · exact hall i' (by omega)
        · rw [fb_eq0t rfl, fx_nm_add]
          exact hrec2 _ hl2 (.inr ⟨rfl, hz⟩)
    · rcases hx with ⟨rfl, hc⟩ | ⟨rfl, hc⟩
      · exact .inl ⟨rfl, hc, fun i' h' => absurd h' (by omega)⟩
      · refine .inr ⟨rfl, ?_⟩
        rw [hSk, so]
        exact sn_bad (.inl hc) w1
  · exact fb_eq (by omega) (by omega) (fun e => hK _ (.inl ⟨rfl, e⟩)) (fun e => hK _ (.inr ⟨rfl, e⟩))

/-! LOGIC: the reference's rules, one by one -/
set_option maxHeartbeats 2000000 in
theorem c6_3 {post : (Nat → Int32) → Prop} {FT rules ins cnt prem F : Nat → Int32} {A T : Nat → Q4} {k j p0 p1 : Nat} {q r : Q4} {s : Q4} (hk : k ≤ 300) (hR : rules k = nI 3) (hC : cnt k = nI 2) (e0 : prem (3 * k + 0) = nI p0) (b0 : p0 ≤ 300) (f0 : r4 F p0 q) (c0 : q_b q) (e1 : prem (3 * k + 1) = nI p1) (b1 : p1 ≤ 300) (f1 : r4 F p1 r) (c1 : q_b r)
    (hz : sn_one A T 3 j 2 q r s = q_z → post F) (ho : ∀ a b c d, sn_one A T 3 j 2 q r s = (a, b, c, d) → post (u4 F k (nI a) (nI b) (nI c) (nI d))) : wp_X6_chain post FT rules ins cnt prem F (nI k) := by
  have hRP : ∀ P : Int32 → Prop, fx_nm (rules k) P = P (nI 3) := fun P => by rw [fx_nm_eq, hR]
  have hCP : ∀ P : Int32 → Prop, fx_nm (cnt k) P = P (nI 2) := fun P => by rw [fx_nm_eq, hC]
  have o01 : ∀ post : Int32 → Prop, wp_X6_of post prem F (nI k) (nI 0) (nI 1) = post (nI q.2.1) := fun post => by rw [k6_of hk (by decide) e0 b0 (by decide), f0.2.1]
  have o02 : ∀ post : Int32 → Prop, wp_X6_of post prem F (nI k) (nI 0) (nI 2) = post (nI q.2.2.1) := fun post => by rw [k6_of hk (by decide) e0 b0 (by decide), f0.2.2.1]
  have o03 : ∀ post : Int32 → Prop, wp_X6_of post prem F (nI k) (nI 0) (nI 3) = post (nI q.2.2.2) := fun post => by rw [k6_of hk (by decide) e0 b0 (by decide), f0.2.2.2]
  have i0 : ∀ (post : Int32 → Prop) (x : Int32), wp_X6_is post prem F (nI k) (nI 0) x = fx_br (nI q.1 = x) (post (nI 1)) (post (nI 0)) := fun post x => k6_is hk (by decide) e0 b0 f0
  obtain ⟨c00, c01, c02, c03⟩ := c0
  have o11 : ∀ post : Int32 → Prop, wp_X6_of post prem F (nI k) (nI 1) (nI 1) = post (nI r.2.1) := fun post => by rw [k6_of hk (by decide) e1 b1 (by decide), f1.2.1]
  have o12 : ∀ post : Int32 → Prop, wp_X6_of post prem F (nI k) (nI 1) (nI 2) = post (nI r.2.2.1) := fun post => by rw [k6_of hk (by decide) e1 b1 (by decide), f1.2.2.1]
  have o13 : ∀ post : Int32 → Prop, wp_X6_of post prem F (nI k) (nI 1) (nI 3) = post (nI r.2.2.2) := fun post => by rw [k6_of hk (by decide) e1 b1 (by decide), f1.2.2.2]
  have i1 : ∀ (post : Int32 → Prop) (x : Int32), wp_X6_is post prem F (nI k) (nI 1) x = fx_br (nI r.1 = x) (post (nI 1)) (post (nI 0)) := fun post x => k6_is hk (by decide) e1 b1 f1
  obtain ⟨c10, c11, c12, c13⟩ := c1
  clear hR e0 f0 e1 f1
  unfold wp_X6_chain
  simp (disch := omega) only [↓fj1, ↓fx_ix_n, ↓hRP, ↓hCP, ↓o01, ↓o02, ↓o03, ↓o11, ↓o12, ↓o13, ↓i0, ↓i1, ↓fb_let, ↓fb_lef, ↓fb_eqt, ↓fb_eqf, ↓fb_eq0t, ↓fb_eq0f, ↓k6_state, ↓fx_nm_sub, Nat.reduceSub]
  repeat' first | (refine fb_eq0n (by omega) (fun _ => ?_) (fun _ => ?_)) | (refine fb_eq (by omega) (by omega) (fun _ => ?_) (fun _ => ?_))
  all_goals first | (exfalso; omega) | (refine hz ?_; simp [sn_one, tk, *]; done) | (refine ho _ _ _ _ ?_; simp [sn_one, tk, *]; done)
set_option maxHeartbeats 2000000 in
theorem c6_4 {post : (Nat → Int32) → Prop} {FT rules ins cnt prem F : Nat → Int32} {A T : Nat → Q4} {k j p0 p1 : Nat} {q r : Q4} {s : Q4} (hk : k ≤ 300) (hR : rules k = nI 4) (hC : cnt k = nI 2) (e0 : prem (3 * k + 0) = nI p0) (b0 : p0 ≤ 300) (f0 : r4 F p0 q) (c0 : q_b q) (e1 : prem (3 * k + 1) = nI p1) (b1 : p1 ≤ 300) (f1 : r4 F p1 r) (c1 : q_b r)
    (hz : sn_one A T 4 j 2 q r s = q_z → post F) (ho : ∀ a b c d, sn_one A T 4 j 2 q r s = (a, b, c, d) → post (u4 F k (nI a) (nI b) (nI c) (nI d))) : wp_X6_chain post FT rules ins cnt prem F (nI k) := by
  have hRP : ∀ P : Int32 → Prop, fx_nm (rules k) P = P (nI 4) := fun P => by rw [fx_nm_eq, hR]
  have hCP : ∀ P : Int32 → Prop, fx_nm (cnt k) P = P (nI 2) := fun P => by rw [fx_nm_eq, hC]
  have o01 : ∀ post : Int32 → Prop, wp_X6_of post prem F (nI k) (nI 0) (nI 1) = post (nI q.2.1) := fun post => by rw [k6_of hk (by decide) e0 b0 (by decide), f0.2.1]
  have o02 : ∀ post : Int32 → Prop, wp_X6_of post prem F (nI k) (nI 0) (nI 2) = post (nI q.2.2.1) := fun post => by rw [k6_of hk (by decide) e0 b0 (by decide), f0.2.2.1]
  have o03 : ∀ post : Int32 → Prop, wp_X6_of post prem F (nI k) (nI 0) (nI 3) = post (nI q.2.2.2) := fun post => by rw [k6_of hk (by decide) e0 b0 (by decide), f0.2.2.2]
  have i0 : ∀ (post : Int32 → Prop) (x : Int32), wp_X6_is post prem F (nI k) (nI 0) x = fx_br (nI q.1 = x) (post (nI 1)) (post (nI 0)) := fun post x => k6_is hk (by decide) e0 b0 f0
  obtain ⟨c00, c01, c02, c03⟩ := c0
  have o11 : ∀ post : Int32 → Prop, wp_X6_of post prem F (nI k) (nI 1) (nI 1) = post (nI r.2.1) := fun post => by rw [k6_of hk (by decide) e1 b1 (by decide), f1.2.1]
  have o12 : ∀ post : Int32 → Prop, wp_X6_of post prem F (nI k) (nI 1) (nI 2) = post (nI r.2.2.1) := fun post => by rw [k6_of hk (by decide) e1 b1 (by decide), f1.2.2.1]
  have o13 : ∀ post : Int32 → Prop, wp_X6_of post prem F (nI k) (nI 1) (nI 3) = post (nI r.2.2.2) := fun post => by rw [k6_of hk (by decide) e1 b1 (by decide), f1.2.2.2]
  have i1 : ∀ (post : Int32 → Prop) (x : Int32), wp_X6_is post prem F (nI k) (nI 1) x = fx_br (nI r.1 = x) (post (nI 1)) (post (nI 0)) := fun post x => k6_is hk (by decide) e1 b1 f1
  obtain ⟨c10, c11, c12, c13⟩ := c1
  clear hR e0 f0 e1 f1
  unfold wp_X6_chain
  simp (disch := omega) only [↓fj1, ↓fx_ix_n, ↓hRP, ↓hCP, ↓o01, ↓o02, ↓o03, ↓o11, ↓o12, ↓o13, ↓i0, ↓i1, ↓fb_let, ↓fb_lef, ↓fb_eqt, ↓fb_eqf, ↓fb_eq0t, ↓fb_eq0f, ↓k6_state, ↓fx_nm_sub, Nat.reduceSub]
  repeat' first | (refine fb_eq0n (by omega) (fun _ => ?_) (fun _ => ?_)) | (refine fb_eq (by omega) (by omega) (fun _ => ?_) (fun _ => ?_))
  all_goals first | (exfalso; omega) | (refine hz ?_; simp [sn_one, tk, *]; done) | (refine ho _ _ _ _ ?_; simp [sn_one, tk, *]; done)
set_option maxHeartbeats 2000000 in
theorem c6_5 {post : (Nat → Int32) → Prop} {FT rules ins cnt prem F : Nat → Int32} {A T : Nat → Q4} {k j p0 p1 : Nat} {q r : Q4} {s : Q4} (hk : k ≤ 300) (hR : rules k = nI 5) (hC : cnt k = nI 2) (e0 : prem (3 * k + 0) = nI p0) (b0 : p0 ≤ 300) (f0 : r4 F p0 q) (c0 : q_b q) (e1 : prem (3 * k + 1) = nI p1) (b1 : p1 ≤ 300) (f1 : r4 F p1 r) (c1 : q_b r)
    (hz : sn_one A T 5 j 2 q r s = q_z → post F) (ho : ∀ a b c d, sn_one A T 5 j 2 q r s = (a, b, c, d) → post (u4 F k (nI a) (nI b) (nI c) (nI d))) : wp_X6_chain post FT rules ins cnt prem F (nI k) := by
  have hRP : ∀ P : Int32 → Prop, fx_nm (rules k) P = P (nI 5) := fun P => by rw [fx_nm_eq, hR]
  have hCP : ∀ P : Int32 → Prop, fx_nm (cnt k) P = P (nI 2) := fun P => by rw [fx_nm_eq, hC]
  have o01 : ∀ post : Int32 → Prop, wp_X6_of post prem F (nI k) (nI 0) (nI 1) = post (nI q.2.1) := fun post => by rw [k6_of hk (by decide) e0 b0 (by decide), f0.2.1]
  have o02 : ∀ post : Int32 → Prop, wp_X6_of post prem F (nI k) (nI 0) (nI 2) = post (nI q.2.2.1) := fun post => by rw [k6_of hk (by decide) e0 b0 (by decide), f0.2.2.1]
  have o03 : ∀ post : Int32 → Prop, wp_X6_of post prem F (nI k) (nI 0) (nI 3) = post (nI q.2.2.2) := fun post => by rw [k6_of hk (by decide) e0 b0 (by decide), f0.2.2.2]
  have i0 : ∀ (post : Int32 → Prop) (x : Int32), wp_X6_is post prem F (nI k) (nI 0) x = fx_br (nI q.1 = x) (post (nI 1)) (post (nI 0)) := fun post x => k6_is hk (by decide) e0 b0 f0
  obtain ⟨c00, c01, c02, c03⟩ := c0
  have o11 : ∀ post : Int32 → Prop, wp_X6_of post prem F (nI k) (nI 1) (nI 1) = post (nI r.2.1) := fun post => by rw [k6_of hk (by decide) e1 b1 (by decide), f1.2.1]
  have o12 : ∀ post : Int32 → Prop, wp_X6_of post prem F (nI k) (nI 1) (nI 2) = post (nI r.2.2.1) := fun post => by rw [k6_of hk (by decide) e1 b1 (by decide), f1.2.2.1]
  have o13 : ∀ post : Int32 → Prop, wp_X6_of post prem F (nI k) (nI 1) (nI 3) = post (nI r.2.2.2) := fun post => by rw [k6_of hk (by decide) e1 b1 (by decide), f1.2.2.2]
  have i1 : ∀ (post : Int32 → Prop) (x : Int32), wp_X6_is post prem F (nI k) (nI 1) x = fx_br (nI r.1 = x) (post (nI 1)) (post (nI 0)) := fun post x => k6_is hk (by decide) e1 b1 f1
  obtain ⟨c10, c11, c12, c13⟩ := c1
  clear hR e0 f0 e1 f1
  unfold wp_X6_chain
  simp (disch := omega) only [↓fj1, ↓fx_ix_n, ↓hRP, ↓hCP, ↓o01, ↓o02, ↓o03, ↓o11, ↓o12, ↓o13, ↓i0, ↓i1, ↓fb_let, ↓fb_lef, ↓fb_eqt, ↓fb_eqf, ↓fb_eq0t, ↓fb_eq0f, ↓k6_state, ↓fx_nm_sub, Nat.reduceSub]
  repeat' first | (refine fb_eq0n (by omega) (fun _ => ?_) (fun _ => ?_)) | (refine fb_eq (by omega) (by omega) (fun _ => ?_) (fun _ => ?_))
  all_goals first | (exfalso; omega) | (refine hz ?_; simp [sn_one, tk, *]; done) | (refine ho _ _ _ _ ?_; simp [sn_one, tk, *]; done)
set_option maxHeartbeats 2000000 in
theorem c6_6 {post : (Nat → Int32) → Prop} {FT rules ins cnt prem F : Nat → Int32} {A T : Nat → Q4} {k j p0 p1 : Nat} {q r : Q4} {s : Q4} (hk : k ≤ 300) (hR : rules k = nI 6) (hC : cnt k = nI 2) (e0 : prem (3 * k + 0) = nI p0) (b0 : p0 ≤ 300) (f0 : r4 F p0 q) (c0 : q_b q) (e1 : prem (3 * k + 1) = nI p1) (b1 : p1 ≤ 300) (f1 : r4 F p1 r) (c1 : q_b r)
    (hz : sn_one A T 6 j 2 q r s = q_z → post F) (ho : ∀ a b c d, sn_one A T 6 j 2 q r s = (a, b, c, d) → post (u4 F k (nI a) (nI b) (nI c) (nI d))) : wp_X6_chain post FT rules ins cnt prem F (nI k) := by
  have hRP : ∀ P : Int32 → Prop, fx_nm (rules k) P = P (nI 6) := fun P => by rw [fx_nm_eq, hR]
  have hCP : ∀ P : Int32 → Prop, fx_nm (cnt k) P = P (nI 2) := fun P => by rw [fx_nm_eq, hC]
  have o01 : ∀ post : Int32 → Prop, wp_X6_of post prem F (nI k) (nI 0) (nI 1) = post (nI q.2.1) := fun post => by rw [k6_of hk (by decide) e0 b0 (by decide), f0.2.1]
  have o02 : ∀ post : Int32 → Prop, wp_X6_of post prem F (nI k) (nI 0) (nI 2) = post (nI q.2.2.1) := fun post => by rw [k6_of hk (by decide) e0 b0 (by decide), f0.2.2.1]
  have o03 : ∀ post : Int32 → Prop, wp_X6_of post prem F (nI k) (nI 0) (nI 3) = post (nI q.2.2.2) := fun post => by rw [k6_of hk (by decide) e0 b0 (by decide), f0.2.2.2]
  have i0 : ∀ (post : Int32 → Prop) (x : Int32), wp_X6_is post prem F (nI k) (nI 0) x = fx_br (nI q.1 = x) (post (nI 1)) (post (nI 0)) := fun post x => k6_is hk (by decide) e0 b0 f0
  obtain ⟨c00, c01, c02, c03⟩ := c0
  have o11 : ∀ post : Int32 → Prop, wp_X6_of post prem F (nI k) (nI 1) (nI 1) = post (nI r.2.1) := fun post => by rw [k6_of hk (by decide) e1 b1 (by decide), f1.2.1]
  have o12 : ∀ post : Int32 → Prop, wp_X6_of post prem F (nI k) (nI 1) (nI 2) = post (nI r.2.2.1) := fun post => by rw [k6_of hk (by decide) e1 b1 (by decide), f1.2.2.1]
  have o13 : ∀ post : Int32 → Prop, wp_X6_of post prem F (nI k) (nI 1) (nI 3) = post (nI r.2.2.2) := fun post => by rw [k6_of hk (by decide) e1 b1 (by decide), f1.2.2.2]
  have i1 : ∀ (post : Int32 → Prop) (x : Int32), wp_X6_is post prem F (nI k) (nI 1) x = fx_br (nI r.1 = x) (post (nI 1)) (post (nI 0)) := fun post x => k6_is hk (by decide) e1 b1 f1
  obtain ⟨c10, c11, c12, c13⟩ := c1
  clear hR e0 f0 e1 f1
  unfold wp_X6_chain
  simp (disch := omega) only [↓fj1, ↓fx_ix_n, ↓hRP, ↓hCP, ↓o01, ↓o02, ↓o03, ↓o11, ↓o12, ↓o13, ↓i0, ↓i1, ↓fb_let, ↓fb_lef, ↓fb_eqt, ↓fb_eqf, ↓fb_eq0t, ↓fb_eq0f, ↓k6_state, ↓fx_nm_sub, Nat.reduceSub]
  repeat' first | (refine fb_eq0n (by omega) (fun _ => ?_) (fun _ => ?_)) | (refine fb_eq (by omega) (by omega) (fun _ => ?_) (fun _ => ?_))
  all_goals first | (exfalso; omega) | (refine hz ?_; simp [sn_one, tk, *]; done) | (refine ho _ _ _ _ ?_; simp [sn_one, tk, *]; done)
set_option maxHeartbeats 2000000 in
theorem c6_7 {post : (Nat → Int32) → Prop} {FT rules ins cnt prem F : Nat → Int32} {A T : Nat → Q4} {k j p0 p1 : Nat} {q r : Q4} {s : Q4} (hk : k ≤ 300) (hR : rules k = nI 7) (hC : cnt k = nI 2) (e0 : prem (3 * k + 0) = nI p0) (b0 : p0 ≤ 300) (f0 : r4 F p0 q) (c0 : q_b q) (e1 : prem (3 * k + 1) = nI p1) (b1 : p1 ≤ 300) (f1 : r4 F p1 r) (c1 : q_b r)
    (hz : sn_one A T 7 j 2 q r s = q_z → post F) (ho : ∀ a b c d, sn_one A T 7 j 2 q r s = (a, b, c, d) → post (u4 F k (nI a) (nI b) (nI c) (nI d))) : wp_X6_chain post FT rules ins cnt prem F (nI k) := by
  have hRP : ∀ P : Int32 → Prop, fx_nm (rules k) P = P (nI 7) := fun P => by rw [fx_nm_eq, hR]
  have hCP : ∀ P : Int32 → Prop, fx_nm (cnt k) P = P (nI 2) := fun P => by rw [fx_nm_eq, hC]
  have o01 : ∀ post : Int32 → Prop, wp_X6_of post prem F (nI k) (nI 0) (nI 1) = post (nI q.2.1) := fun post => by rw [k6_of hk (by decide) e0 b0 (by decide), f0.2.1]
  have o02 : ∀ post : Int32 → Prop, wp_X6_of post prem F (nI k) (nI 0) (nI 2) = post (nI q.2.2.1) := fun post => by rw [k6_of hk (by decide) e0 b0 (by decide), f0.2.2.1]
  have o03 : ∀ post : Int32 → Prop, wp_X6_of post prem F (nI k) (nI 0) (nI 3) = post (nI q.2.2.2) := fun post => by rw [k6_of hk (by decide) e0 b0 (by decide), f0.2.2.2]
  have i0 : ∀ (post : Int32 → Prop) (x : Int32), wp_X6_is post prem F (nI k) (nI 0) x = fx_br (nI q.1 = x) (post (nI 1)) (post (nI 0)) := fun post x => k6_is hk (by decide) e0 b0 f0
  obtain ⟨c00, c01, c02, c03⟩ := c0
  have o11 : ∀ post : Int32 → Prop, wp_X6_of post prem F (nI k) (nI 1) (nI 1) = post (nI r.2.1) := fun post => by rw [k6_of hk (by decide) e1 b1 (by decide), f1.2.1]
  have o12 : ∀ post : Int32 → Prop, wp_X6_of post prem F (nI k) (nI 1) (nI 2) = post (nI r.2.2.1) := fun post => by rw [k6_of hk (by decide) e1 b1 (by decide), f1.2.2.1]
  have o13 : ∀ post : Int32 → Prop, wp_X6_of post prem F (nI k) (nI 1) (nI 3) = post (nI r.2.2.2) := fun post => by rw [k6_of hk (by decide) e1 b1 (by decide), f1.2.2.2]
  have i1 : ∀ (post : Int32 → Prop) (x : Int32), wp_X6_is post prem F (nI k) (nI 1) x = fx_br (nI r.1 = x) (post (nI 1)) (post (nI 0)) := fun post x => k6_is hk (by decide) e1 b1 f1
  obtain ⟨c10, c11, c12, c13⟩ := c1
  clear hR e0 f0 e1 f1
  unfold wp_X6_chain
  simp (disch := omega) only [↓fj1, ↓fx_ix_n, ↓hRP, ↓hCP, ↓o01, ↓o02, ↓o03, ↓o11, ↓o12, ↓o13, ↓i0, ↓i1, ↓fb_let, ↓fb_lef, ↓fb_eqt, ↓fb_eqf, ↓fb_eq0t, ↓fb_eq0f, ↓k6_state, ↓fx_nm_sub, Nat.reduceSub]
  repeat' first | (refine fb_eq0n (by omega) (fun _ => ?_) (fun _ => ?_)) | (refine fb_eq (by omega) (by omega) (fun _ => ?_) (fun _ => ?_))
  all_goals first | (exfalso; omega) | (refine hz ?_; simp [sn_one, tk, *]; done) | (refine ho _ _ _ _ ?_; simp [sn_one, tk, *]; done)
set_option maxHeartbeats 2000000 in
theorem c6_8 {post : (Nat → Int32) → Prop} {FT rules ins cnt prem F : Nat → Int32} {A T : Nat → Q4} {k j p0 p1 : Nat} {q r : Q4} {s : Q4} (hk : k ≤ 300) (hR : rules k = nI 8) (hC : cnt k = nI 2) (e0 : prem (3 * k + 0) = nI p0) (b0 : p0 ≤ 300) (f0 : r4 F p0 q) (c0 : q_b q) (e1 : prem (3 * k + 1) = nI p1) (b1 : p1 ≤ 300) (f1 : r4 F p1 r) (c1 : q_b r)
    (hz : sn_one A T 8 j 2 q r s = q_z → post F) (ho : ∀ a b c d, sn_one A T 8 j 2 q r s = (a, b, c, d) → post (u4 F k (nI a) (nI b) (nI c) (nI d))) : wp_X6_chain post FT rules ins cnt prem F (nI k) := by
  have hRP : ∀ P : Int32 → Prop, fx_nm (rules k) P = P (nI 8) := fun P => by rw [fx_nm_eq, hR]
  have hCP : ∀ P : Int32 → Prop, fx_nm (cnt k) P = P (nI 2) := fun P => by rw [fx_nm_eq, hC]
  have o01 : ∀ post : Int32 → Prop, wp_X6_of post prem F (nI k) (nI 0) (nI 1) = post (nI q.2.1) := fun post => by rw [k6_of hk (by decide) e0 b0 (by decide), f0.2.1]
  have o02 : ∀ post : Int32 → Prop, wp_X6_of post prem F (nI k) (nI 0) (nI 2) = post (nI q.2.2.1) := fun post => by rw [k6_of hk (by decide) e0 b0 (by decide), f0.2.2.1]
  have o03 : ∀ post : Int32 → Prop, wp_X6_of post prem F (nI k) (nI 0) (nI 3) = post (nI q.2.2.2) := fun post => by rw [k6_of hk (by decide) e0 b0 (by decide), f0.2.2.2]
  have i0 : ∀ (post : Int32 → Prop) (x : Int32), wp_X6_is post prem F (nI k) (nI 0) x = fx_br (nI q.1 = x) (post (nI 1)) (post (nI 0)) := fun post x => k6_is hk (by decide) e0 b0 f0
  obtain ⟨c00, c01, c02, c03⟩ := c0
  have o11 : ∀ post : Int32 → Prop, wp_X6_of post prem F (nI k) (nI 1) (nI 1) = post (nI r.2.1) := fun post => by rw [k6_of hk (by decide) e1 b1 (by decide), f1.2.1]
  have o12 : ∀ post : Int32 → Prop, wp_X6_of post prem F (nI k) (nI 1) (nI 2) = post (nI r.2.2.1) := fun post => by rw [k6_of hk (by decide) e1 b1 (by decide), f1.2.2.1]
  have o13 : ∀ post : Int32 → Prop, wp_X6_of post prem F (nI k) (nI 1) (nI 3) = post (nI r.2.2.2) := fun post => by rw [k6_of hk (by decide) e1 b1 (by decide), f1.2.2.2]
  have i1 : ∀ (post : Int32 → Prop) (x : Int32), wp_X6_is post prem F (nI k) (nI 1) x = fx_br (nI r.1 = x) (post (nI 1)) (post (nI 0)) := fun post x => k6_is hk (by decide) e1 b1 f1
  obtain ⟨c10, c11, c12, c13⟩ := c1
  clear hR e0 f0 e1 f1
  unfold wp_X6_chain
  simp (disch := omega) only [↓fj1, ↓fx_ix_n, ↓hRP, ↓hCP, ↓o01, ↓o02, ↓o03, ↓o11, ↓o12, ↓o13, ↓i0, ↓i1, ↓fb_let, ↓fb_lef, ↓fb_eqt, ↓fb_eqf, ↓fb_eq0t, ↓fb_eq0f, ↓k6_state, ↓fx_nm_sub, Nat.reduceSub]
  repeat' first | (refine fb_eq0n (by omega) (fun _ => ?_) (fun _ => ?_)) | (refine fb_eq (by omega) (by omega) (fun _ => ?_) (fun _ => ?_))
  all_goals first | (exfalso; omega) | (refine hz ?_; simp [sn_one, tk, *]; done) | (refine ho _ _ _ _ ?_; simp [sn_one, tk, *]; done)
set_option maxHeartbeats 2000000 in
theorem c6_9 {post : (Nat → Int32) → Prop} {FT rules ins cnt prem F : Nat → Int32} {A T : Nat → Q4} {k j p0 p1 : Nat} {q r : Q4} {s : Q4} (hk : k ≤ 300) (hR : rules k = nI 9) (hC : cnt k = nI 2) (e0 : prem (3 * k + 0) = nI p0) (b0 : p0 ≤ 300) (f0 : r4 F p0 q) (c0 : q_b q) (e1 : prem (3 * k + 1) = nI p1) (b1 : p1 ≤ 300) (f1 : r4 F p1 r) (c1 : q_b r)
    (hz : sn_one A T 9 j 2 q r s = q_z → post F) (ho : ∀ a b c d, sn_one A T 9 j 2 q r s = (a, b, c, d) → post (u4 F k (nI a) (nI b) (nI c) (nI d))) : wp_X6_chain post FT rules ins cnt prem F (nI k) := by
  have hRP : ∀ P : Int32 → Prop, fx_nm (rules k) P = P (nI 9) := fun P => by rw [fx_nm_eq, hR]
  have hCP : ∀ P : Int32 → Prop, fx_nm (cnt k) P = P (nI 2) := fun P => by rw [fx_nm_eq, hC]
  have o01 : ∀ post : Int32 → Prop, wp_X6_of post prem F (nI k) (nI 0) (nI 1) = post (nI q.2.1) := fun post => by rw [k6_of hk (by decide) e0 b0 (by decide), f0.2.1]
  have o02 : ∀ post : Int32 → Prop, wp_X6_of post prem F (nI k) (nI 0) (nI 2) = post (nI q.2.2.1) := fun post => by rw [k6_of hk (by decide) e0 b0 (by decide), f0.2.2.1]
  have o03 : ∀ post : Int32 → Prop, wp_X6_of post prem F (nI k) (nI 0) (nI 3) = post (nI q.2.2.2) := fun post => by rw [k6_of hk (by decide) e0 b0 (by decide), f0.2.2.2]
  have i0 : ∀ (post : Int32 → Prop) (x : Int32), wp_X6_is post prem F (nI k) (nI 0) x = fx_br (nI q.1 = x) (post (nI 1)) (post (nI 0)) := fun post x => k6_is hk (by decide) e0 b0 f0
  obtain ⟨c00, c01, c02, c03⟩ := c0
  have o11 : ∀ post : Int32 → Prop, wp_X6_of post prem F (nI k) (nI 1) (nI 1) = post (nI r.2.1) := fun post => by rw [k6_of hk (by decide) e1 b1 (by decide), f1.2.1]
  have o12 : ∀ post : Int32 → Prop, wp_X6_of post prem F (nI k) (nI 1) (nI 2) = post (nI r.2.2.1) := fun post => by rw [k6_of hk (by decide) e1 b1 (by decide), f1.2.2.1]
  have o13 : ∀ post : Int32 → Prop, wp_X6_of post prem F (nI k) (nI 1) (nI 3) = post (nI r.2.2.2) := fun post => by rw [k6_of hk (by decide) e1 b1 (by decide), f1.2.2.2]
  have i1 : ∀ (post : Int32 → Prop) (x : Int32), wp_X6_is post prem F (nI k) (nI 1) x = fx_br (nI r.1 = x) (post (nI 1)) (post (nI 0)) := fun post x => k6_is hk (by decide) e1 b1 f1
  obtain ⟨c10, c11, c12, c13⟩ := c1
  clear hR e0 f0 e1 f1
  unfold wp_X6_chain
  simp (disch := omega) only [↓fj1, ↓fx_ix_n, ↓hRP, ↓hCP, ↓o01, ↓o02, ↓o03, ↓o11, ↓o12, ↓o13, ↓i0, ↓i1, ↓fb_let, ↓fb_lef, ↓fb_eqt, ↓fb_eqf, ↓fb_eq0t, ↓fb_eq0f, ↓k6_state, ↓fx_nm_sub, Nat.reduceSub]
  repeat' first | (refine fb_eq0n (by omega) (fun _ => ?_) (fun _ => ?_)) | (refine fb_eq (by omega) (by omega) (fun _ => ?_) (fun _ => ?_))
  all_goals first | (exfalso; omega) | (refine hz ?_; simp [sn_one, tk, *]; done) | (refine ho _ _ _ _ ?_; simp [sn_one, tk, *]; done)
set_option maxHeartbeats 2000000 in
theorem c6_10 {post : (Nat → Int32) → Prop} {FT rules ins cnt prem F : Nat → Int32} {A T : Nat → Q4} {k j p0 p1 p2 : Nat} {q r s : Q4} (hk : k ≤ 300) (hR : rules k = nI 10) (hC : cnt k = nI 3) (e0 : prem (3 * k + 0) = nI p0) (b0 : p0 ≤ 300) (f0 : r4 F p0 q) (c0 : q_b q) (e1 : prem (3 * k + 1) = nI p1) (b1 : p1 ≤ 300) (f1 : r4 F p1 r) (c1 : q_b r) (e2 : prem (3 * k + 2) = nI p2) (b2 : p2 ≤ 300) (f2 : r4 F p2 s) (c2 : q_b s)
    (hz : sn_one A T 10 j 3 q r s = q_z → post F) (ho : ∀ a b c d, sn_one A T 10 j 3 q r s = (a, b, c, d) → post (u4 F k (nI a) (nI b) (nI c) (nI d))) : wp_X6_chain post FT rules ins cnt prem F (nI k) := by
  have hRP : ∀ P : Int32 → Prop, fx_nm (rules k) P = P (nI 10) := fun P => by rw [fx_nm_eq, hR]
  have hCP : ∀ P : Int32 → Prop, fx_nm (cnt k) P = P (nI 3) := fun P => by rw [fx_nm_eq, hC]
  have o01 : ∀ post : Int32 → Prop, wp_X6_of post prem F (nI k) (nI 0) (nI 1) = post (nI q.2.1) := fun post => by rw [k6_of hk (by decide) e0 b0 (by decide), f0.2.1]
  have o02 : ∀ post : Int32 → Prop, wp_X6_of post prem F (nI k) (nI 0) (nI 2) = post (nI q.2.2.1) := fun post => by rw [k6_of hk (by decide) e0 b0 (by decide), f0.2.2.1]
  have o03 : ∀ post : Int32 → Prop, wp_X6_of post prem F (nI k) (nI 0) (nI 3) = post (nI q.2.2.2) := fun post => by rw [k6_of hk (by decide) e0 b0 (by decide), f0.2.2.2]
  have i0 : ∀ (post : Int32 → Prop) (x : Int32), wp_X6_is post prem F (nI k) (nI 0) x = fx_br (nI q.1 = x) (post (nI 1)) (post (nI 0)) := fun post x => k6_is hk (by decide) e0 b0 f0
  obtain ⟨c00, c01, c02, c03⟩ := c0
  have o11 : ∀ post : Int32 → Prop, wp_X6_of post prem F (nI k) (nI 1) (nI 1) = post (nI r.2.1) := fun post => by rw [k6_of hk (by decide) e1 b1 (by decide), f1.2.1]
  have o12 : ∀ post : Int32 → Prop, wp_X6_of post prem F (nI k) (nI 1) (nI 2) = post (nI r.2.2.1) := fun post => by rw [k6_of hk (by decide) e1 b1 (by decide), f1.2.2.1]
  have o13 : ∀ post : Int32 → Prop, wp_X6_of post prem F (nI k) (nI 1) (nI 3) = post (nI r.2.2.2) := fun post => by rw [k6_of hk (by decide) e1 b1 (by decide), f1.2.2.2]
  have i1 : ∀ (post : Int32 → Prop) (x : Int32), wp_X6_is post prem F (nI k) (nI 1) x = fx_br (nI r.1 = x) (post (nI 1)) (post (nI 0)) := fun post x => k6_is hk (by decide) e1 b1 f1
  obtain ⟨c10, c11, c12, c13⟩ := c1
  have o21 : ∀ post : Int32 → Prop, wp_X6_of post prem F (nI k) (nI 2) (nI 1) = post (nI s.2.1) := fun post => by rw [k6_of hk (by decide) e2 b2 (by decide), f2.2.1]
  have o22 : ∀ post : Int32 → Prop, wp_X6_of post prem F (nI k) (nI 2) (nI 2) = post (nI s.2.2.1) := fun post => by rw [k6_of hk (by decide) e2 b2 (by decide), f2.2.2.1]
  have o23 : ∀ post : Int32 → Prop, wp_X6_of post prem F (nI k) (nI 2) (nI 3) = post (nI s.2.2.2) := fun post => by rw [k6_of hk (by decide) e2 b2 (by decide), f2.2.2.2]
  have i2 : ∀ (post : Int32 → Prop) (x : Int32), wp_X6_is post prem F (nI k) (nI 2) x = fx_br (nI s.1 = x) (post (nI 1)) (post (nI 0)) := fun post x => k6_is hk (by decide) e2 b2 f2
  obtain ⟨c20, c21, c22, c23⟩ := c2
  clear hR e0 f0 e1 f1 e2 f2
  unfold wp_X6_chain
  simp (disch := omega) only [↓fj1, ↓fx_ix_n, ↓hRP, ↓hCP, ↓o01, ↓o02, ↓o03, ↓o11, ↓o12, ↓o13, ↓o21, ↓o22, ↓o23, ↓i0, ↓i1, ↓i2, ↓wp_X6_three, ↓fb_let, ↓fb_lef, ↓fb_eqt, ↓fb_eqf, ↓fb_eq0t, ↓fb_eq0f, ↓k6_state, ↓fx_nm_sub, Nat.reduceSub]
  repeat' first | (refine fb_eq0n (by omega) (fun _ => ?_) (fun _ => ?_)) | (refine fb_eq (by omega) (by omega) (fun _ => ?_) (fun _ => ?_))
  all_goals first | (exfalso; omega) | (refine hz ?_; simp [sn_one, tk, *]; done) | (refine ho _ _ _ _ ?_; simp [sn_one, tk, *]; done)
set_option maxHeartbeats 2000000 in
theorem c6_11 {post : (Nat → Int32) → Prop} {FT rules ins cnt prem F : Nat → Int32} {A T : Nat → Q4} {k j p0 p1 : Nat} {q r : Q4} {s : Q4} (hk : k ≤ 300) (hR : rules k = nI 11) (hC : cnt k = nI 2) (e0 : prem (3 * k + 0) = nI p0) (b0 : p0 ≤ 300) (f0 : r4 F p0 q) (c0 : q_b q) (e1 : prem (3 * k + 1) = nI p1) (b1 : p1 ≤ 300) (f1 : r4 F p1 r) (c1 : q_b r)
    (hz : sn_one A T 11 j 2 q r s = q_z → post F) (ho : ∀ a b c d, sn_one A T 11 j 2 q r s = (a, b, c, d) → post (u4 F k (nI a) (nI b) (nI c) (nI d))) : wp_X6_chain post FT rules ins cnt prem F (nI k) := by
  have hRP : ∀ P : Int32 → Prop, fx_nm (rules k) P = P (nI 11) := fun P => by rw [fx_nm_eq, hR]
  have hCP : ∀ P : Int32 → Prop, fx_nm (cnt k) P = P (nI 2) := fun P => by rw [fx_nm_eq, hC]
  have o01 : ∀ post : Int32 → Prop, wp_X6_of post prem F (nI k) (nI 0) (nI 1) = post (nI q.2.1) := fun post => by rw [k6_of hk (by decide) e0 b0 (by decide), f0.2.1]
  have o02 : ∀ post : Int32 → Prop, wp_X6_of post prem F (nI k) (nI 0) (nI 2) = post (nI q.2.2.1) := fun post => by rw [k6_of hk (by decide) e0 b0 (by decide), f0.2.2.1]
  have o03 : ∀ post : Int32 → Prop, wp_X6_of post prem F (nI k) (nI 0) (nI 3) = post (nI q.2.2.2) := fun post => by rw [k6_of hk (by decide) e0 b0 (by decide), f0.2.2.2]
  have i0 : ∀ (post : Int32 → Prop) (x : Int32), wp_X6_is post prem F (nI k) (nI 0) x = fx_br (nI q.1 = x) (post (nI 1)) (post (nI 0)) := fun post x => k6_is hk (by decide) e0 b0 f0
  obtain ⟨c00, c01, c02, c03⟩ := c0
  have o11 : ∀ post : Int32 → Prop, wp_X6_of post prem F (nI k) (nI 1) (nI 1) = post (nI r.2.1) := fun post => by rw [k6_of hk (by decide) e1 b1 (by decide), f1.2.1]
  have o12 : ∀ post : Int32 → Prop, wp_X6_of post prem F (nI k) (nI 1) (nI 2) = post (nI r.2.2.1) := fun post => by rw [k6_of hk (by decide) e1 b1 (by decide), f1.2.2.1]
  have o13 : ∀ post : Int32 → Prop, wp_X6_of post prem F (nI k) (nI 1) (nI 3) = post (nI r.2.2.2) := fun post => by rw [k6_of hk (by decide) e1 b1 (by decide), f1.2.2.2]
  have i1 : ∀ (post : Int32 → Prop) (x : Int32), wp_X6_is post prem F (nI k) (nI 1) x = fx_br (nI r.1 = x) (post (nI 1)) (post (nI 0)) := fun post x => k6_is hk (by decide) e1 b1 f1
  obtain ⟨c10, c11, c12, c13⟩ := c1
  clear hR e0 f0 e1 f1
  unfold wp_X6_chain
  simp (disch := omega) only [↓fj1, ↓fx_ix_n, ↓hRP, ↓hCP, ↓o01, ↓o02, ↓o03, ↓o11, ↓o12, ↓o13, ↓i0, ↓i1, ↓fb_let, ↓fb_lef, ↓fb_eqt, ↓fb_eqf, ↓fb_eq0t, ↓fb_eq0f, ↓k6_state, ↓fx_nm_sub, Nat.reduceSub]
  repeat' first | (refine fb_eq0n (by omega) (fun _ => ?_) (fun _ => ?_)) | (refine fb_eq (by omega) (by omega) (fun _ => ?_) (fun _ => ?_))
  all_goals first | (exfalso; omega) | (refine hz ?_; simp [sn_one, tk, *]; done) | (refine ho _ _ _ _ ?_; simp [sn_one, tk, *]; done)
set_option maxHeartbeats 2000000 in
theorem c6_12 {post : (Nat → Int32) → Prop} {FT rules ins cnt prem F : Nat → Int32} {A T : Nat → Q4} {k j p0 : Nat} {q : Q4} {r s : Q4} (hk : k ≤ 300) (hR : rules k = nI 12) (hC : cnt k = nI 1) (e0 : prem (3 * k + 0) = nI p0) (b0 : p0 ≤ 300) (f0 : r4 F p0 q) (c0 : q_b q)
    (hz : sn_one A T 12 j 1 q r s = q_z → post F) (ho : ∀ a b c d, sn_one A T 12 j 1 q r s = (a, b, c, d) → post (u4 F k (nI a) (nI b) (nI c) (nI d))) : wp_X6_chain post FT rules ins cnt prem F (nI k) := by
  have hRP : ∀ P : Int32 → Prop, fx_nm (rules k) P = P (nI 12) := fun P => by rw [fx_nm_eq, hR]
  have hCP : ∀ P : Int32 → Prop, fx_nm (cnt k) P = P (nI 1) := fun P => by rw [fx_nm_eq, hC]
  have o01 : ∀ post : Int32 → Prop, wp_X6_of post prem F (nI k) (nI 0) (nI 1) = post (nI q.2.1) := fun post => by rw [k6_of hk (by decide) e0 b0 (by decide), f0.2.1]
  have o02 : ∀ post : Int32 → Prop, wp_X6_of post prem F (nI k) (nI 0) (nI 2) = post (nI q.2.2.1) := fun post => by rw [k6_of hk (by decide) e0 b0 (by decide), f0.2.2.1]
  have o03 : ∀ post : Int32 → Prop, wp_X6_of post prem F (nI k) (nI 0) (nI 3) = post (nI q.2.2.2) := fun post => by rw [k6_of hk (by decide) e0 b0 (by decide), f0.2.2.2]
  have i0 : ∀ (post : Int32 → Prop) (x : Int32), wp_X6_is post prem F (nI k) (nI 0) x = fx_br (nI q.1 = x) (post (nI 1)) (post (nI 0)) := fun post x => k6_is hk (by decide) e0 b0 f0
  obtain ⟨c00, c01, c02, c03⟩ := c0
  clear hR e0 f0
  unfold wp_X6_chain
  simp (disch := omega) only [↓fj1, ↓fx_ix_n, ↓hRP, ↓hCP, ↓o01, ↓o02, ↓o03, ↓i0, ↓fb_let, ↓fb_lef, ↓fb_eqt, ↓fb_eqf, ↓fb_eq0t, ↓fb_eq0f, ↓k6_state, ↓fx_nm_sub, Nat.reduceSub]
  repeat' first | (refine fb_eq0n (by omega) (fun _ => ?_) (fun _ => ?_)) | (refine fb_eq (by omega) (by omega) (fun _ => ?_) (fun _ => ?_))
  all_goals first | (exfalso; omega) | (refine hz ?_; simp [sn_one, tk, *]; done) | (refine ho _ _ _ _ ?_; simp [sn_one, tk, *]; done)
set_option maxHeartbeats 2000000 in
theorem c6_13 {post : (Nat → Int32) → Prop} {FT rules ins cnt prem F : Nat → Int32} {A T : Nat → Q4} {k j p0 p1 : Nat} {q r : Q4} {s : Q4} (hk : k ≤ 300) (hR : rules k = nI 13) (hC : cnt k = nI 2) (e0 : prem (3 * k + 0) = nI p0) (b0 : p0 ≤ 300) (f0 : r4 F p0 q) (c0 : q_b q) (e1 : prem (3 * k + 1) = nI p1) (b1 : p1 ≤ 300) (f1 : r4 F p1 r) (c1 : q_b r)
    (hz : sn_one A T 13 j 2 q r s = q_z → post F) (ho : ∀ a b c d, sn_one A T 13 j 2 q r s = (a, b, c, d) → post (u4 F k (nI a) (nI b) (nI c) (nI d))) : wp_X6_chain post FT rules ins cnt prem F (nI k) := by
  have hRP : ∀ P : Int32 → Prop, fx_nm (rules k) P = P (nI 13) := fun P => by rw [fx_nm_eq, hR]
  have hCP : ∀ P : Int32 → Prop, fx_nm (cnt k) P = P (nI 2) := fun P => by rw [fx_nm_eq, hC]
  have o01 : ∀ post : Int32 → Prop, wp_X6_of post prem F (nI k) (nI 0) (nI 1) = post (nI q.2.1) := fun post => by rw [k6_of hk (by decide) e0 b0 (by decide), f0.2.1]
  have o02 : ∀ post : Int32 → Prop, wp_X6_of post prem F (nI k) (nI 0) (nI 2) = post (nI q.2.2.1) := fun post => by rw [k6_of hk (by decide) e0 b0 (by decide), f0.2.2.1]
  have o03 : ∀ post : Int32 → Prop, wp_X6_of post prem F (nI k) (nI 0) (nI 3) = post (nI q.2.2.2) := fun post => by rw [k6_of hk (by decide) e0 b0 (by decide), f0.2.2.2]
  have i0 : ∀ (post : Int32 → Prop) (x : Int32), wp_X6_is post prem F (nI k) (nI 0) x = fx_br (nI q.1 = x) (post (nI 1)) (post (nI 0)) := fun post x => k6_is hk (by decide) e0 b0 f0
  obtain ⟨c00, c01, c02, c03⟩ := c0
  have o11 : ∀ post : Int32 → Prop, wp_X6_of post prem F (nI k) (nI 1) (nI 1) = post (nI r.2.1) := fun post => by rw [k6_of hk (by decide) e1 b1 (by decide), f1.2.1]
  have o12 : ∀ post : Int32 → Prop, wp_X6_of post prem F (nI k) (nI 1) (nI 2) = post (nI r.2.2.1) := fun post => by rw [k6_of hk (by decide) e1 b1 (by decide), f1.2.2.1]
  have o13 : ∀ post : Int32 → Prop, wp_X6_of post prem F (nI k) (nI 1) (nI 3) = post (nI r.2.2.2) := fun post => by rw [k6_of hk (by decide) e1 b1 (by decide), f1.2.2.2]
  have i1 : ∀ (post : Int32 → Prop) (x : Int32), wp_X6_is post prem F (nI k) (nI 1) x = fx_br (nI r.1 = x) (post (nI 1)) (post (nI 0)) := fun post x => k6_is hk (by decide) e1 b1 f1
  obtain ⟨c10, c11, c12, c13⟩ := c1
  clear hR e0 f0 e1 f1
  unfold wp_X6_chain
  simp (disch := omega) only [↓fj1, ↓fx_ix_n, ↓hRP, ↓hCP, ↓o01, ↓o02, ↓o03, ↓o11, ↓o12, ↓o13, ↓i0, ↓i1, ↓fb_let, ↓fb_lef, ↓fb_eqt, ↓fb_eqf, ↓fb_eq0t, ↓fb_eq0f, ↓k6_state, ↓fx_nm_sub, Nat.reduceSub]
  repeat' first | (refine fb_eq0n (by omega) (fun _ => ?_) (fun _ => ?_)) | (refine fb_eq (by omega) (by omega) (fun _ => ?_) (fun _ => ?_))
  all_goals first | (exfalso; omega) | (refine hz ?_; simp [sn_one, tk, *]; done) | (refine ho _ _ _ _ ?_; simp [sn_one, tk, *]; done)
set_option maxHeartbeats 2000000 in
theorem c6_14 {post : (Nat → Int32) → Prop} {FT rules ins cnt prem F : Nat → Int32} {A T : Nat → Q4} {k j p0 p1 p2 : Nat} {q r s : Q4} (hk : k ≤ 300) (hR : rules k = nI 14) (hC : cnt k = nI 3) (e0 : prem (3 * k + 0) = nI p0) (b0 : p0 ≤ 300) (f0 : r4 F p0 q) (c0 : q_b q) (e1 : prem (3 * k + 1) = nI p1) (b1 : p1 ≤ 300) (f1 : r4 F p1 r) (c1 : q_b r) (e2 : prem (3 * k + 2) = nI p2) (b2 : p2 ≤ 300) (f2 : r4 F p2 s) (c2 : q_b s)
    (hz : sn_one A T 14 j 3 q r s = q_z → post F) (ho : ∀ a b c d, sn_one A T 14 j 3 q r s = (a, b, c, d) → post (u4 F k (nI a) (nI b) (nI c) (nI d))) : wp_X6_chain post FT rules ins cnt prem F (nI k) := by
  have hRP : ∀ P : Int32 → Prop, fx_nm (rules k) P = P (nI 14) := fun P => by rw [fx_nm_eq, hR]
  have hCP : ∀ P : Int32 → Prop, fx_nm (cnt k) P = P (nI 3) := fun P => by rw [fx_nm_eq, hC]
  have o01 : ∀ post : Int32 → Prop, wp_X6_of post prem F (nI k) (nI 0) (nI 1) = post (nI q.2.1) := fun post => by rw [k6_of hk (by decide) e0 b0 (by decide), f0.2.1]
  have o02 : ∀ post : Int32 → Prop, wp_X6_of post prem F (nI k) (nI 0) (nI 2) = post (nI q.2.2.1) := fun post => by rw [k6_of hk (by decide) e0 b0 (by decide), f0.2.2.1]
  have o03 : ∀ post : Int32 → Prop, wp_X6_of post prem F (nI k) (nI 0) (nI 3) = post (nI q.2.2.2) := fun post => by rw [k6_of hk (by decide) e0 b0 (by decide), f0.2.2.2]
  have i0 : ∀ (post : Int32 → Prop) (x : Int32), wp_X6_is post prem F (nI k) (nI 0) x = fx_br (nI q.1 = x) (post (nI 1)) (post (nI 0)) := fun post x => k6_is hk (by decide) e0 b0 f0
  obtain ⟨c00, c01, c02, c03⟩ := c0
  have o11 : ∀ post : Int32 → Prop, wp_X6_of post prem F (nI k) (nI 1) (nI 1) = post (nI r.2.1) := fun post => by rw [k6_of hk (by decide) e1 b1 (by decide), f1.2.1]
  have o12 : ∀ post : Int32 → Prop, wp_X6_of post prem F (nI k) (nI 1) (nI 2) = post (nI r.2.2.1) := fun post => by rw [k6_of hk (by decide) e1 b1 (by decide), f1.2.2.1]
  have o13 : ∀ post : Int32 → Prop, wp_X6_of post prem F (nI k) (nI 1) (nI 3) = post (nI r.2.2.2) := fun post => by rw [k6_of hk (by decide) e1 b1 (by decide), f1.2.2.2]
  have i1 : ∀ (post : Int32 → Prop) (x : Int32), wp_X6_is post prem F (nI k) (nI 1) x = fx_br (nI r.1 = x) (post (nI 1)) (post (nI 0)) := fun post x => k6_is hk (by decide) e1 b1 f1
  obtain ⟨c10, c11, c12, c13⟩ := c1
  have o21 : ∀ post : Int32 → Prop, wp_X6_of post prem F (nI k) (nI 2) (nI 1) = post (nI s.2.1) := fun post => by rw [k6_of hk (by decide) e2 b2 (by decide), f2.2.1]
  have o22 : ∀ post : Int32 → Prop, wp_X6_of post prem F (nI k) (nI 2) (nI 2) = post (nI s.2.2.1) := fun post => by rw [k6_of hk (by decide) e2 b2 (by decide), f2.2.2.1]
  have o23 : ∀ post : Int32 → Prop, wp_X6_of post prem F (nI k) (nI 2) (nI 3) = post (nI s.2.2.2) := fun post => by rw [k6_of hk (by decide) e2 b2 (by decide), f2.2.2.2]
  have i2 : ∀ (post : Int32 → Prop) (x : Int32), wp_X6_is post prem F (nI k) (nI 2) x = fx_br (nI s.1 = x) (post (nI 1)) (post (nI 0)) := fun post x => k6_is hk (by decide) e2 b2 f2
  obtain ⟨c20, c21, c22, c23⟩ := c2
  clear hR e0 f0 e1 f1 e2 f2
  unfold wp_X6_chain
  simp (disch := omega) only [↓fj1, ↓fx_ix_n, ↓hRP, ↓hCP, ↓o01, ↓o02, ↓o03, ↓o11, ↓o12, ↓o13, ↓o21, ↓o22, ↓o23, ↓i0, ↓i1, ↓i2, ↓wp_X6_three, ↓fb_let, ↓fb_lef, ↓fb_eqt, ↓fb_eqf, ↓fb_eq0t, ↓fb_eq0f, ↓k6_state, ↓fx_nm_sub, Nat.reduceSub]
  repeat' first | (refine fb_eq0n (by omega) (fun _ => ?_) (fun _ => ?_)) | (refine fb_eq (by omega) (by omega) (fun _ => ?_) (fun _ => ?_))
  all_goals first | (exfalso; omega) | (refine hz ?_; simp [sn_one, tk, *]; done) | (refine ho _ _ _ _ ?_; simp [sn_one, tk, *]; done)
set_option maxHeartbeats 2000000 in
theorem c6_15 {post : (Nat → Int32) → Prop} {FT rules ins cnt prem F : Nat → Int32} {A T : Nat → Q4} {k j p0 p1 p2 : Nat} {q r s : Q4} (hk : k ≤ 300) (hR : rules k = nI 15) (hC : cnt k = nI 3) (e0 : prem (3 * k + 0) = nI p0) (b0 : p0 ≤ 300) (f0 : r4 F p0 q) (c0 : q_b q) (e1 : prem (3 * k + 1) = nI p1) (b1 : p1 ≤ 300) (f1 : r4 F p1 r) (c1 : q_b r) (e2 : prem (3 * k + 2) = nI p2) (b2 : p2 ≤ 300) (f2 : r4 F p2 s) (c2 : q_b s)
    (hz : sn_one A T 15 j 3 q r s = q_z → post F) (ho : ∀ a b c d, sn_one A T 15 j 3 q r s = (a, b, c, d) → post (u4 F k (nI a) (nI b) (nI c) (nI d))) : wp_X6_chain post FT rules ins cnt prem F (nI k) := by
  have hRP : ∀ P : Int32 → Prop, fx_nm (rules k) P = P (nI 15) := fun P => by rw [fx_nm_eq, hR]
  have hCP : ∀ P : Int32 → Prop, fx_nm (cnt k) P = P (nI 3) := fun P => by rw [fx_nm_eq, hC]
  have o01 : ∀ post : Int32 → Prop, wp_X6_of post prem F (nI k) (nI 0) (nI 1) = post (nI q.2.1) := fun post => by rw [k6_of hk (by decide) e0 b0 (by decide), f0.2.1]
  have o02 : ∀ post : Int32 → Prop, wp_X6_of post prem F (nI k) (nI 0) (nI 2) = post (nI q.2.2.1) := fun post => by rw [k6_of hk (by decide) e0 b0 (by decide), f0.2.2.1]
  have o03 : ∀ post : Int32 → Prop, wp_X6_of post prem F (nI k) (nI 0) (nI 3) = post (nI q.2.2.2) := fun post => by rw [k6_of hk (by decide) e0 b0 (by decide), f0.2.2.2]
  have i0 : ∀ (post : Int32 → Prop) (x : Int32), wp_X6_is post prem F (nI k) (nI 0) x = fx_br (nI q.1 = x) (post (nI 1)) (post (nI 0)) := fun post x => k6_is hk (by decide) e0 b0 f0
  obtain ⟨c00, c01, c02, c03⟩ := c0
  have o11 : ∀ post : Int32 → Prop, wp_X6_of post prem F (nI k) (nI 1) (nI 1) = post (nI r.2.1) := fun post => by rw [k6_of hk (by decide) e1 b1 (by decide), f1.2.1]
  have o12 : ∀ post : Int32 → Prop, wp_X6_of post prem F (nI k) (nI 1) (nI 2) = post (nI r.2.2.1) := fun post => by rw [k6_of hk (by decide) e1 b1 (by decide), f1.2.2.1]
  have o13 : ∀ post : Int32 → Prop, wp_X6_of post prem F (nI k) (nI 1) (nI 3) = post (nI r.2.2.2) := fun post => by rw [k6_of hk (by decide) e1 b1 (by decide), f1.2.2.2]
  have i1 : ∀ (post : Int32 → Prop) (x : Int32), wp_X6_is post prem F (nI k) (nI 1) x = fx_br (nI r.1 = x) (post (nI 1)) (post (nI 0)) := fun post x => k6_is hk (by decide) e1 b1 f1
  obtain ⟨c10, c11, c12, c13⟩ := c1
  have o21 : ∀ post : Int32 → Prop, wp_X6_of post prem F (nI k) (nI 2) (nI 1) = post (nI s.2.1) := fun post => by rw [k6_of hk (by decide) e2 b2 (by decide), f2.2.1]
  have o22 : ∀ post : Int32 → Prop, wp_X6_of post prem F (nI k) (nI 2) (nI 2) = post (nI s.2.2.1) := fun post => by rw [k6_of hk (by decide) e2 b2 (by decide), f2.2.2.1]
  have o23 : ∀ post : Int32 → Prop, wp_X6_of post prem F (nI k) (nI 2) (nI 3) = post (nI s.2.2.2) := fun post => by rw [k6_of hk (by decide) e2 b2 (by decide), f2.2.2.2]
  have i2 : ∀ (post : Int32 → Prop) (x : Int32), wp_X6_is post prem F (nI k) (nI 2) x = fx_br (nI s.1 = x) (post (nI 1)) (post (nI 0)) := fun post x => k6_is hk (by decide) e2 b2 f2
  obtain ⟨c20, c21, c22, c23⟩ := c2
  clear hR e0 f0 e1 f1 e2 f2
  unfold wp_X6_chain
  simp (disch := omega) only [↓fj1, ↓fx_ix_n, ↓hRP, ↓hCP, ↓o01, ↓o02, ↓o03, ↓o11, ↓o12, ↓o13, ↓o21, ↓o22, ↓o23, ↓i0, ↓i1, ↓i2, ↓wp_X6_three, ↓fb_let, ↓fb_lef, ↓fb_eqt, ↓fb_eqf, ↓fb_eq0t, ↓fb_eq0f, ↓k6_state, ↓fx_nm_sub, Nat.reduceSub]
  repeat' first | (refine fb_eq0n (by omega) (fun _ => ?_) (fun _ => ?_)) | (refine fb_eq (by omega) (by omega) (fun _ => ?_) (fun _ => ?_))
  all_goals first | (exfalso; omega) | (refine hz ?_; simp [sn_one, tk, *]; done) | (refine ho _ _ _ _ ?_; simp [sn_one, tk, *]; done)
set_option maxHeartbeats 2000000 in
theorem c6_16 {post : (Nat → Int32) → Prop} {FT rules ins cnt prem F : Nat → Int32} {A T : Nat → Q4} {k j p0 p1 : Nat} {q r : Q4} {s : Q4} (hk : k ≤ 300) (hR : rules k = nI 16) (hC : cnt k = nI 2) (e0 : prem (3 * k + 0) = nI p0) (b0 : p0 ≤ 300) (f0 : r4 F p0 q) (c0 : q_b q) (e1 : prem (3 * k + 1) = nI p1) (b1 : p1 ≤ 300) (f1 : r4 F p1 r) (c1 : q_b r)
    (hz : sn_one A T 16 j 2 q r s = q_z → post F) (ho : ∀ a b c d, sn_one A T 16 j 2 q r s = (a, b, c, d) → post (u4 F k (nI a) (nI b) (nI c) (nI d))) : wp_X6_chain post FT rules ins cnt prem F (nI k) := by
  have hRP : ∀ P : Int32 → Prop, fx_nm (rules k) P = P (nI 16) := fun P => by rw [fx_nm_eq, hR]
  have hCP : ∀ P : Int32 → Prop, fx_nm (cnt k) P = P (nI 2) := fun P => by rw [fx_nm_eq, hC]
  have o01 : ∀ post : Int32 → Prop, wp_X6_of post prem F (nI k) (nI 0) (nI 1) = post (nI q.2.1) := fun post => by rw [k6_of hk (by decide) e0 b0 (by decide), f0.2.1]
  have o02 : ∀ post : Int32 → Prop, wp_X6_of post prem F (nI k) (nI 0) (nI 2) = post (nI q.2.2.1) := fun post => by rw [k6_of hk (by decide) e0 b0 (by decide), f0.2.2.1]
  have o03 : ∀ post : Int32 → Prop, wp_X6_of post prem F (nI k) (nI 0) (nI 3) = post (nI q.2.2.2) := fun post => by rw [k6_of hk (by decide) e0 b0 (by decide), f0.2.2.2]
  have i0 : ∀ (post : Int32 → Prop) (x : Int32), wp_X6_is post prem F (nI k) (nI 0) x = fx_br (nI q.1 = x) (post (nI 1)) (post (nI 0)) := fun post x => k6_is hk (by decide) e0 b0 f0
  obtain ⟨c00, c01, c02, c03⟩ := c0
  have o11 : ∀ post : Int32 → Prop, wp_X6_of post prem F (nI k) (nI 1) (nI 1) = post (nI r.2.1) := fun post => by rw [k6_of hk (by decide) e1 b1 (by decide), f1.2.1]
  have o12 : ∀ post : Int32 → Prop, wp_X6_of post prem F (nI k) (nI 1) (nI 2) = post (nI r.2.2.1) := fun post => by rw [k6_of hk (by decide) e1 b1 (by decide), f1.2.2.1]
  have o13 : ∀ post : Int32 → Prop, wp_X6_of post prem F (nI k) (nI 1) (nI 3) = post (nI r.2.2.2) := fun post => by rw [k6_of hk (by decide) e1 b1 (by decide), f1.2.2.2]
  have i1 : ∀ (post : Int32 → Prop) (x : Int32), wp_X6_is post prem F (nI k) (nI 1) x = fx_br (nI r.1 = x) (post (nI 1)) (post (nI 0)) := fun post x => k6_is hk (by decide) e1 b1 f1
  obtain ⟨c10, c11, c12, c13⟩ := c1
  clear hR e0 f0 e1 f1
  unfold wp_X6_chain
  simp (disch := omega) only [↓fj1, ↓fx_ix_n, ↓hRP, ↓hCP, ↓o01, ↓o02, ↓o03, ↓o11, ↓o12, ↓o13, ↓i0, ↓i1, ↓fb_let, ↓fb_lef, ↓fb_eqt, ↓fb_eqf, ↓fb_eq0t, ↓fb_eq0f, ↓k6_state, ↓fx_nm_sub, Nat.reduceSub]
  repeat' first | (refine fb_eq0n (by omega) (fun _ => ?_) (fun _ => ?_)) | (refine fb_eq (by omega) (by omega) (fun _ => ?_) (fun _ => ?_))
  all_goals first | (exfalso; omega) | (refine hz ?_; simp [sn_one, tk, *]; done) | (refine ho _ _ _ _ ?_; simp [sn_one, tk, *]; done)
set_option maxHeartbeats 2000000 in
theorem c6_17 {post : (Nat → Int32) → Prop} {FT rules ins cnt prem F : Nat → Int32} {A T : Nat → Q4} {k j p0 : Nat} {q : Q4} {r s : Q4} (hk : k ≤ 300) (hR : rules k = nI 17) (hC : cnt k = nI 1) (e0 : prem (3 * k + 0) = nI p0) (b0 : p0 ≤ 300) (f0 : r4 F p0 q) (c0 : q_b q) (hj : j ≤ 100) (hi : ins k = nI j) (hT : r4 FT j (T j))
    (hz : sn_one A T 17 j 1 q r s = q_z → post F) (ho : ∀ a b c d, sn_one A T 17 j 1 q r s = (a, b, c, d) → post (u4 F k (nI a) (nI b) (nI c) (nI d))) : wp_X6_chain post FT rules ins cnt prem F (nI k) := by
  have hRP : ∀ P : Int32 → Prop, fx_nm (rules k) P = P (nI 17) := fun P => by rw [fx_nm_eq, hR]
  have hCP : ∀ P : Int32 → Prop, fx_nm (cnt k) P = P (nI 1) := fun P => by rw [fx_nm_eq, hC]
  have o01 : ∀ post : Int32 → Prop, wp_X6_of post prem F (nI k) (nI 0) (nI 1) = post (nI q.2.1) := fun post => by rw [k6_of hk (by decide) e0 b0 (by decide), f0.2.1]
  have o02 : ∀ post : Int32 → Prop, wp_X6_of post prem F (nI k) (nI 0) (nI 2) = post (nI q.2.2.1) := fun post => by rw [k6_of hk (by decide) e0 b0 (by decide), f0.2.2.1]
  have o03 : ∀ post : Int32 → Prop, wp_X6_of post prem F (nI k) (nI 0) (nI 3) = post (nI q.2.2.2) := fun post => by rw [k6_of hk (by decide) e0 b0 (by decide), f0.2.2.2]
  have i0 : ∀ (post : Int32 → Prop) (x : Int32), wp_X6_is post prem F (nI k) (nI 0) x = fx_br (nI q.1 = x) (post (nI 1)) (post (nI 0)) := fun post x => k6_is hk (by decide) e0 b0 f0
  obtain ⟨c00, c01, c02, c03⟩ := c0
  have hI : ∀ P : Int32 → Prop, fx_nm (ins k) P = P (nI j) := fun P => by rw [fx_nm_eq, hi]
  have hC : ∀ post : (Nat → Int32) → Prop, wp_X6_copy_t post FT F (nI j) (nI k) = post (u4 F k (nI (T j).1) (nI (T j).2.1) (nI (T j).2.2.1) (nI (T j).2.2.2)) := fun post => k6_copy_t hk hj hT
  clear hR hi e0 f0
  unfold wp_X6_chain
  simp (disch := omega) only [↓fj1, ↓fx_ix_n, ↓hRP, ↓hCP, ↓o01, ↓o02, ↓o03, ↓i0, ↓hI, ↓hC, ↓fb_let, ↓fb_lef, ↓fb_eqt, ↓fb_eqf, ↓fb_eq0t, ↓fb_eq0f, ↓k6_state, ↓fx_nm_sub, Nat.reduceSub]
  repeat' first | (refine fb_eq0n (by omega) (fun _ => ?_) (fun _ => ?_)) | (refine fb_eq (by omega) (by omega) (fun _ => ?_) (fun _ => ?_))
  all_goals first | (exfalso; omega) | (refine hz ?_; simp [sn_one, tk, *]; done) | (refine ho _ _ _ _ ?_; simp [sn_one, tk, *]; done)

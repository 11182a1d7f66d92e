/-! LOGIC: the law, call by call -/
theorem lc_4 {L j : Nat} {xs : Nat → Int32} {g : Nat → Int64} {rec3 : ST → Prop} (hL : L ≤ 2048) (hj : j + 4 ≤ L) (hg : ∀ j, j < 98 → g j = lN (fx_ph.getD j 0)) {na nt n bk q ce sl : Nat} {A T S : Nat → Q4} {ru cn : Nat → Nat} {ins : Nat → Int32} {pr : Nat → Nat → Nat} {l : List Nat} {lt : Int32} {AK AN TK TN R I C P K N M f Y Z FA FT R6 I6 C6 P6 F Y6 X Z6 L6 : Nat → Int32} (h1 : iT na nt n A T S ru cn ins pr) (h2 : iX na nt n A T S ru cn ins pr AK AN TK TN R I C P K N) (h3 : iM na nt n A T ru cn ins pr FA FT R6 I6 C6 P6) (h4 : iW q f X l ce sl) (hrec : ∀ st, IV (j + 4) st → rec3 st) : fx_nm ((nI j) + (nI 1)) (fun v116 => fx_ix v116 L (fun k118 => fx_nm (xs k118) (fun v117 => wp_X5_check (fun r119 y120 y121 => fx_nm ((nI j) + (nI 1)) (fun v122 => fx_ix v122 L (fun k124 => fx_nm (xs k124) (fun v123 => wp_X6_check (fun r125 y126 y127 y128 => fx_br (r119 = r125) (fx_nm ((nI j) + (nI 4)) (fun v129 => rec3 (v129, y120, (nI na), AK, AN, (nI nt), TK, TN, (nI n), R, I, C, P, K, N, M, lt, (nI l.length), q, f, y121, Z, (nI na), (nI nt), (nI n), y126, (nI l.length), FA, FT, R6, I6, C6, P6, y127, y128, X, Z6, L6, ce, sl))) (False)) (nI n) (nI bk) FA FT R6 I6 C6 P6 F Y6 v123)))) (nI bk) (nI n) C P K Y v117))) := by
  have hh1 := h1
  have hh2 := h2
  have hh3 := h3
  have hh4 := h4
  obtain ⟨kT, bS, hc3⟩ := iT_k h1
  obtain ⟨t1, t2, t3, t4, t5, t6, t7, t8, t9⟩ := h1
  obtain ⟨x1, x2, x3, x4, x5, x6⟩ := h2
  obtain ⟨m1, m2, m3⟩ := h3
  obtain ⟨s1, s2, s3, s4, s5, s6, s7, hch⟩ := h4
  rw [fx_nm_add, fx_ix_n (by omega) (by omega), fx_nm_rd]
  refine sp_check5 t3 x5 t8 x6 bS (fun z => ?_) (fun r r1 r2 hr b Y' hb => ?_)
  · rw [fx_nm_add, fx_ix_n (by omega) (by omega), fx_nm_rd]
    exact sp_check6 t1 t2 t3 m1 m2 m3 t8 t9 bS (fun _ => (fx_br_t rfl (by rw [fx_nm_add]; exact hrec _ (iv hh1 hh2 hh3 hh4)))) (fun r2 r3 r4 r5 _ _ _ _ => absurd ⟨r2, r3, r4, r5⟩ z)
  · rw [fx_nm_add, fx_ix_n (by omega) (by omega), fx_nm_rd]
    refine sp_check6 t1 t2 t3 m1 m2 m3 t8 t9 bS (fun z => absurd ⟨r, r1, r2, hr⟩ z) (fun r' r1' r2' hr' b' F' Y'' hb' => ?_)
    have er := nI_inj (by omega) (by omega) hr hr'
    subst er
    have eb := lb_inj hb hb'
    subst eb
    exact (fx_br_t rfl (by rw [fx_nm_add]; exact hrec _ (iv hh1 hh2 hh3 hh4)))
theorem lc_5 {L j : Nat} {xs : Nat → Int32} {g : Nat → Int64} {rec3 : ST → Prop} (hL : L ≤ 2048) (hj : j + 4 ≤ L) (hg : ∀ j, j < 98 → g j = lN (fx_ph.getD j 0)) {na nt n bk q ce sl : Nat} {A T S : Nat → Q4} {ru cn : Nat → Nat} {ins : Nat → Int32} {pr : Nat → Nat → Nat} {l : List Nat} {lt : Int32} {AK AN TK TN R I C P K N M f Y Z FA FT R6 I6 C6 P6 F Y6 X Z6 L6 : Nat → Int32} (h1 : iT na nt n A T S ru cn ins pr) (h2 : iX na nt n A T S ru cn ins pr AK AN TK TN R I C P K N) (h3 : iM na nt n A T ru cn ins pr FA FT R6 I6 C6 P6) (h4 : iW q f X l ce sl) (hrec : ∀ st, IV (j + 4) st → rec3 st) : wp_X5_broken (fun r130 => wp_X6_broken (fun r131 => fx_br (r130 = r131) (fx_nm ((nI j) + (nI 4)) (fun v132 => rec3 (v132, (nI bk), (nI na), AK, AN, (nI nt), TK, TN, (nI n), R, I, C, P, K, N, M, lt, (nI l.length), q, f, Y, Z, (nI na), (nI nt), (nI n), (nI bk), (nI l.length), FA, FT, R6, I6, C6, P6, F, Y6, X, Z6, L6, ce, sl))) (False)) (nI bk)) (nI bk) := by
  have hh1 := h1
  have hh2 := h2
  have hh3 := h3
  have hh4 := h4
  obtain ⟨kT, bS, hc3⟩ := iT_k h1
  obtain ⟨t1, t2, t3, t4, t5, t6, t7, t8, t9⟩ := h1
  obtain ⟨x1, x2, x3, x4, x5, x6⟩ := h2
  obtain ⟨m1, m2, m3⟩ := h3
  obtain ⟨s1, s2, s3, s4, s5, s6, s7, hch⟩ := h4
  unfold wp_X5_broken wp_X6_broken
  exact (fx_br_t rfl (by rw [fx_nm_add]; exact hrec _ (iv hh1 hh2 hh3 hh4)))
theorem lc_6 {L j : Nat} {xs : Nat → Int32} {g : Nat → Int64} {rec3 : ST → Prop} (hL : L ≤ 2048) (hj : j + 4 ≤ L) (hg : ∀ j, j < 98 → g j = lN (fx_ph.getD j 0)) {na nt n bk q ce sl : Nat} {A T S : Nat → Q4} {ru cn : Nat → Nat} {ins : Nat → Int32} {pr : Nat → Nat → Nat} {l : List Nat} {lt : Int32} {AK AN TK TN R I C P K N M f Y Z FA FT R6 I6 C6 P6 F Y6 X Z6 L6 : Nat → Int32} (h1 : iT na nt n A T S ru cn ins pr) (h2 : iX na nt n A T S ru cn ins pr AK AN TK TN R I C P K N) (h3 : iM na nt n A T ru cn ins pr FA FT R6 I6 C6 P6) (h4 : iW q f X l ce sl) (hrec : ∀ st, IV (j + 4) st → rec3 st) : fx_nm ((nI j) + (nI 1)) (fun v133 => fx_ix v133 L (fun k135 => fx_nm (xs k135) (fun v134 => wp_X5_rows (fun r136 y137 => fx_nm ((nI j) + (nI 1)) (fun v138 => fx_ix v138 L (fun k140 => fx_nm (xs k140) (fun v139 => wp_X6_rows (fun r141 y142 => fx_br (r136 = r141) (fx_nm ((nI j) + (nI 4)) (fun v143 => rec3 (v143, (nI bk), (nI na), AK, AN, (nI nt), TK, TN, (nI n), R, I, C, P, K, N, M, lt, (nI l.length), q, f, y137, Z, (nI na), (nI nt), (nI n), (nI bk), (nI l.length), FA, FT, R6, I6, C6, P6, F, y142, X, Z6, L6, ce, sl))) (False)) (nI n) C6 P6 Y6 v139)))) (nI n) C P Y v134))) := by
  have hh1 := h1
  have hh2 := h2
  have hh3 := h3
  have hh4 := h4
  obtain ⟨kT, bS, hc3⟩ := iT_k h1
  obtain ⟨t1, t2, t3, t4, t5, t6, t7, t8, t9⟩ := h1
  obtain ⟨x1, x2, x3, x4, x5, x6⟩ := h2
  obtain ⟨m1, m2, m3⟩ := h3
  obtain ⟨s1, s2, s3, s4, s5, s6, s7, hch⟩ := h4
  rw [fx_nm_add, fx_ix_n (by omega) (by omega), fx_nm_rd]
  refine sp_rows5 t3 x5 t8 (fun z => ?_) (fun r r1 r2 hr Y' => ?_)
  · rw [fx_nm_add, fx_ix_n (by omega) (by omega), fx_nm_rd]
    exact sp_rows6 t3 m3 t8 (fun _ => (fx_br_t rfl (by rw [fx_nm_add]; exact hrec _ (iv hh1 hh2 hh3 hh4)))) (fun r2 r3 r4 r5 _ => absurd ⟨r2, r3, r4, r5⟩ z)
  · rw [fx_nm_add, fx_ix_n (by omega) (by omega), fx_nm_rd]
    refine sp_rows6 t3 m3 t8 (fun z => absurd ⟨r, r1, r2, hr⟩ z) (fun r' r1' r2' hr' Y'' => ?_)
    have er := nI_inj (by omega) (by omega) hr hr'
    subst er
    exact (fx_br_t rfl (by rw [fx_nm_add]; exact hrec _ (iv hh1 hh2 hh3 hh4)))
theorem lc_7 {L j : Nat} {xs : Nat → Int32} {g : Nat → Int64} {rec3 : ST → Prop} (hL : L ≤ 2048) (hj : j + 4 ≤ L) (hg : ∀ j, j < 98 → g j = lN (fx_ph.getD j 0)) {na nt n bk q ce sl : Nat} {A T S : Nat → Q4} {ru cn : Nat → Nat} {ins : Nat → Int32} {pr : Nat → Nat → Nat} {l : List Nat} {lt : Int32} {AK AN TK TN R I C P K N M f Y Z FA FT R6 I6 C6 P6 F Y6 X Z6 L6 : Nat → Int32} (h1 : iT na nt n A T S ru cn ins pr) (h2 : iX na nt n A T S ru cn ins pr AK AN TK TN R I C P K N) (h3 : iM na nt n A T ru cn ins pr FA FT R6 I6 C6 P6) (h4 : iW q f X l ce sl) (hrec : ∀ st, IV (j + 4) st → rec3 st) : fx_nm ((nI j) + (nI 1)) (fun v144 => fx_ix v144 L (fun k146 => fx_nm (xs k146) (fun v145 => wp_X5_size (fun r147 y148 => fx_nm ((nI j) + (nI 1)) (fun v149 => fx_ix v149 L (fun k151 => fx_nm (xs k151) (fun v150 => wp_X6_size (fun r152 y153 => fx_br (r147 = r152) (fx_nm ((nI j) + (nI 4)) (fun v154 => rec3 (v154, (nI bk), (nI na), AK, AN, (nI nt), TK, TN, (nI n), R, I, C, P, K, N, M, lt, (nI l.length), q, f, Y, y148, (nI na), (nI nt), (nI n), (nI bk), (nI l.length), FA, FT, R6, I6, C6, P6, F, Y6, X, y153, L6, ce, sl))) (False)) (nI n) C6 P6 Z6 v150)))) (nI n) C P Z v145))) := by
  have hh1 := h1
  have hh2 := h2
  have hh3 := h3
  have hh4 := h4
  obtain ⟨kT, bS, hc3⟩ := iT_k h1
  obtain ⟨t1, t2, t3, t4, t5, t6, t7, t8, t9⟩ := h1
  obtain ⟨x1, x2, x3, x4, x5, x6⟩ := h2
  obtain ⟨m1, m2, m3⟩ := h3
  obtain ⟨s1, s2, s3, s4, s5, s6, s7, hch⟩ := h4
  rw [fx_nm_add, fx_ix_n (by omega) (by omega), fx_nm_rd]
  refine sp_size5 t3 x5 t8 (fun z => ?_) (fun r r1 r2 hr Y' => ?_)
  · rw [fx_nm_add, fx_ix_n (by omega) (by omega), fx_nm_rd]
    exact sp_size6 t3 m3 t8 (fun _ => (fx_br_t rfl (by rw [fx_nm_add]; exact hrec _ (iv hh1 hh2 hh3 hh4)))) (fun r2 r3 r4 r5 _ => absurd ⟨r2, r3, r4, r5⟩ z)
  · rw [fx_nm_add, fx_ix_n (by omega) (by omega), fx_nm_rd]
    refine sp_size6 t3 m3 t8 (fun z => absurd ⟨r, r1, r2, hr⟩ z) (fun r' r1' r2' hr' Y'' => ?_)
    have er := nI_inj (by omega) (by omega) hr hr'
    subst er
    exact (fx_br_t rfl (by rw [fx_nm_add]; exact hrec _ (iv hh1 hh2 hh3 hh4)))
theorem lc_8 {L j : Nat} {xs : Nat → Int32} {g : Nat → Int64} {rec3 : ST → Prop} (hL : L ≤ 2048) (hj : j + 4 ≤ L) (hg : ∀ j, j < 98 → g j = lN (fx_ph.getD j 0)) {na nt n bk q ce sl : Nat} {A T S : Nat → Q4} {ru cn : Nat → Nat} {ins : Nat → Int32} {pr : Nat → Nat → Nat} {l : List Nat} {lt : Int32} {AK AN TK TN R I C P K N M f Y Z FA FT R6 I6 C6 P6 F Y6 X Z6 L6 : Nat → Int32} (h1 : iT na nt n A T S ru cn ins pr) (h2 : iX na nt n A T S ru cn ins pr AK AN TK TN R I C P K N) (h3 : iM na nt n A T ru cn ins pr FA FT R6 I6 C6 P6) (h4 : iW q f X l ce sl) (hrec : ∀ st, IV (j + 4) st → rec3 st) : fx_nm ((nI j) + (nI 1)) (fun v155 => fx_ix v155 L (fun k157 => fx_nm (xs k157) (fun v156 => wp_X5_drop (fun r158 y159 y160 y161 y162 y163 y164 y165 y166 y167 y168 => fx_nm ((nI j) + (nI 1)) (fun v169 => fx_ix v169 L (fun k171 => fx_nm (xs k171) (fun v170 => wp_X6_drop (fun r172 y173 y174 y175 y176 y177 y178 y179 y180 => fx_br (r158 = r172) (fx_nm ((nI j) + (nI 4)) (fun v181 => rec3 (v181, y159, (nI na), AK, AN, (nI nt), TK, TN, y160, y161, y162, y163, y164, y165, y166, M, lt, (nI l.length), q, f, y167, y168, (nI na), (nI nt), y173, y174, (nI l.length), FA, FT, y175, y176, y177, y178, F, y179, X, Z6, y180, ce, sl))) (False)) (nI n) (nI bk) R6 I6 C6 P6 Y6 L6 v170)))) (nI bk) (nI n) R I C P K N Y Z v156))) := by
  have hh1 := h1
  have hh2 := h2
  have hh3 := h3
  have hh4 := h4
  obtain ⟨kT, bS, hc3⟩ := iT_k h1
  obtain ⟨t1, t2, t3, t4, t5, t6, t7, t8, t9⟩ := h1
  obtain ⟨x1, x2, x3, x4, x5, x6⟩ := h2
  obtain ⟨m1, m2, m3⟩ := h3
  obtain ⟨s1, s2, s3, s4, s5, s6, s7, hch⟩ := h4
  rw [fx_nm_add, fx_ix_n (by omega) (by omega), fx_nm_rd]
  refine sp_drop5 t3 x5 t8 x6 (fun z => ?_) (fun r r1 r2 hr R' I' C' P' K' N' Y' Z' d e => ?_)
  · rw [fx_nm_add, fx_ix_n (by omega) (by omega), fx_nm_rd]
    exact sp_drop6 t3 m3 t8 (fun _ => (fx_br_t rfl (by rw [fx_nm_add]; exact hrec _ (iv hh1 hh2 hh3 hh4)))) (fun r2 r3 r4 r5 _ _ _ _ _ _ _ => absurd ⟨r2, r3, r4, r5⟩ z)
  · rw [fx_nm_add, fx_ix_n (by omega) (by omega), fx_nm_rd]
    refine sp_drop6 t3 m3 t8 (fun z => absurd ⟨r, r1, r2, hr⟩ z) (fun r' r1' r2' hr' R'' I'' C'' P'' Y'' Z'' d' => ?_)
    have er := nI_inj (by omega) (by omega) hr hr'
    subst er
    have hp : ∀ k, 1 ≤ k → k ≤ n → ∀ i, i < cn k → 1 ≤ pr k i ∧ pr k i < k := fun k k1 k2 => (t8 k k1 k2).2.2.1
    have hcl : ∀ j i, 1 ≤ j → j ≤ r → md cn pr r r j = true → i < cn j → md cn pr r r (pr j i) = true := fun j i j1 j2 j3 j4 => md_cl (fun k k1 k2 => hp k k1 (by omega)) j1 j2 j3 j4
    have hle := nc_le (md cn pr r r) r
    exact (fx_br_t rfl (by rw [fx_nm_add]; exact hrec _ (iv ⟨t1, t2, by omega, t4, t5, t6, t7, wf_dr r2 t8 hcl, stt_dr r2 hp t9 hcl⟩ ⟨x1, x2, x3, x4, d, e⟩ ⟨m1, m2, d'⟩ hh4)))
theorem lc_9 {L j : Nat} {xs : Nat → Int32} {g : Nat → Int64} {rec3 : ST → Prop} (hL : L ≤ 2048) (hj : j + 4 ≤ L) (hg : ∀ j, j < 98 → g j = lN (fx_ph.getD j 0)) {na nt n bk q ce sl : Nat} {A T S : Nat → Q4} {ru cn : Nat → Nat} {ins : Nat → Int32} {pr : Nat → Nat → Nat} {l : List Nat} {lt : Int32} {AK AN TK TN R I C P K N M f Y Z FA FT R6 I6 C6 P6 F Y6 X Z6 L6 : Nat → Int32} (h1 : iT na nt n A T S ru cn ins pr) (h2 : iX na nt n A T S ru cn ins pr AK AN TK TN R I C P K N) (h3 : iM na nt n A T ru cn ins pr FA FT R6 I6 C6 P6) (h4 : iW q f X l ce sl) (hrec : ∀ st, IV (j + 4) st → rec3 st) : fx_nm ((nI j) + (nI 1)) (fun v182 => fx_ix v182 L (fun k184 => fx_nm (xs k184) (fun v183 => wp_X5_name (fun r185 => fx_nm ((nI j) + (nI 1)) (fun v186 => fx_ix v186 L (fun k188 => fx_nm (xs k188) (fun v187 => wp_X6_name (fun r189 => fx_br (r185 = r189) (fx_nm ((nI j) + (nI 4)) (fun v190 => rec3 (v190, (nI bk), (nI na), AK, AN, (nI nt), TK, TN, (nI n), R, I, C, P, K, N, M, lt, (nI l.length), q, f, Y, Z, (nI na), (nI nt), (nI n), (nI bk), (nI l.length), FA, FT, R6, I6, C6, P6, F, Y6, X, Z6, L6, ce, sl))) (False)) (nI n) R6 v187)))) (nI n) R v183))) := by
  have hh1 := h1
  have hh2 := h2
  have hh3 := h3
  have hh4 := h4
  obtain ⟨kT, bS, hc3⟩ := iT_k h1
  obtain ⟨t1, t2, t3, t4, t5, t6, t7, t8, t9⟩ := h1
  obtain ⟨x1, x2, x3, x4, x5, x6⟩ := h2
  obtain ⟨m1, m2, m3⟩ := h3
  obtain ⟨s1, s2, s3, s4, s5, s6, s7, hch⟩ := h4
  rw [fx_nm_add, fx_ix_n (by omega) (by omega), fx_nm_rd]
  refine sp_name5 t3 x5 (fun z => ?_) (fun r r1 r2 hr => ?_)
  · rw [fx_nm_add, fx_ix_n (by omega) (by omega), fx_nm_rd]
    exact sp_name6 t3 m3 (fun _ => (fx_br_t rfl (by rw [fx_nm_add]; exact hrec _ (iv hh1 hh2 hh3 hh4)))) (fun r2 r3 r4 r5 => absurd ⟨r2, r3, r4, r5⟩ z)
  · rw [fx_nm_add, fx_ix_n (by omega) (by omega), fx_nm_rd]
    refine sp_name6 t3 m3 (fun z => absurd ⟨r, r1, r2, hr⟩ z) (fun r' r1' r2' hr' => ?_)
    have er := nI_inj (by omega) (by omega) hr hr'
    subst er
    exact (fx_br_t rfl (by rw [fx_nm_add]; exact hrec _ (iv hh1 hh2 hh3 hh4)))

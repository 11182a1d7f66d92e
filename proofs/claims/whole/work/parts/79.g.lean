/-! LOGIC: the law, call by call -/
theorem lc_10 {L j : Nat} {xs : Nat → Int32} {g : Nat → Int64} {rec3 : ST → Prop} (hL : L ≤ 2048) (hj : j + 4 ≤ L) (hg : ∀ j, j < 98 → g j = lN (fx_ph.getD j 0)) {na nt n bk q ce sl : Nat} {A T S : Nat → Q4} {ru cn : Nat → Nat} {ins : Nat → Int32} {pr : Nat → Nat → Nat} {l : List Nat} {lt : Int32} {AK AN TK TN R I C P K N M f Y Z FA FT R6 I6 C6 P6 F Y6 X Z6 L6 : Nat → Int32} (h1 : iT na nt n A T S ru cn ins pr) (h2 : iX na nt n A T S ru cn ins pr AK AN TK TN R I C P K N) (h3 : iM na nt n A T ru cn ins pr FA FT R6 I6 C6 P6) (h4 : iW q f X l ce sl) (hrec : ∀ st, IV (j + 4) st → rec3 st) : fx_nm ((nI j) + (nI 1)) (fun v191 => fx_ix v191 L (fun k193 => fx_nm (xs k193) (fun v192 => fx_nm ((nI j) + (nI 2)) (fun v194 => fx_ix v194 L (fun k196 => fx_nm (xs k196) (fun v195 => wp_X5_states (fun r197 => fx_nm ((nI j) + (nI 1)) (fun v198 => fx_ix v198 L (fun k200 => fx_nm (xs k200) (fun v199 => fx_nm ((nI j) + (nI 2)) (fun v201 => fx_ix v201 L (fun k203 => fx_nm (xs k203) (fun v202 => wp_X6_states (fun r204 y205 => fx_br (r197 = r204) (fx_nm ((nI j) + (nI 4)) (fun v206 => rec3 (v206, (nI bk), (nI na), AK, AN, (nI nt), TK, TN, (nI n), R, I, C, P, K, N, M, lt, (nI l.length), q, f, Y, Z, (nI na), (nI nt), (nI n), (nI bk), (nI l.length), FA, FT, R6, I6, C6, P6, y205, Y6, X, Z6, L6, ce, sl))) (False)) (nI n) FA FT R6 I6 C6 P6 F v199 v202))))))) (nI n) K N v192 v195)))))) := by
  have hh1 := h1
  have hh2 := h2
  have hh3 := h3
  have hh4 := h4
  obtain ⟨kT, bS, hc3⟩ := iT_k h1
  obtain ⟨t1, t2, t3, t4, t5, t6, t7, t8, t9⟩ := h1
  obtain ⟨x1, x2, x3, x4, x5, x6⟩ := h2
  obtain ⟨m1, m2, m3⟩ := h3
  obtain ⟨s1, s2, s3, s4, s5, s6, s7, hch⟩ := h4
  rw [fx_nm_add, fx_ix_n (by omega) (by omega), fx_nm_rd, fx_nm_add, fx_ix_n (by omega) (by omega), fx_nm_rd]
  refine sp_states5 t3 x6 (fun z => ?_) (fun r r1 r2 hr w => ?_) (fun r w r1 r2 hr hw hb => ?_)
  · rw [fx_nm_add, fx_ix_n (by omega) (by omega), fx_nm_rd, fx_nm_add, fx_ix_n (by omega) (by omega), fx_nm_rd]
    exact sp_states6 t1 t2 t3 m1 m2 m3 t8 t9 bS (fun _ => (fx_br_t rfl (by rw [fx_nm_add]; exact hrec _ (iv hh1 hh2 hh3 hh4)))) (fun r' a1 a2 a3 _ => absurd ⟨r', a1, a2, a3⟩ z) (fun r' _ a1 a2 a3 _ _ _ => absurd ⟨r', a1, a2, a3⟩ z)
  · rw [fx_nm_add, fx_ix_n (by omega) (by omega), fx_nm_rd, fx_nm_add, fx_ix_n (by omega) (by omega), fx_nm_rd]
    exact sp_states6 t1 t2 t3 m1 m2 m3 t8 t9 bS (fun z => absurd ⟨r, r1, r2, hr⟩ z) (fun _ _ _ _ _ => (fx_br_t rfl (by rw [fx_nm_add]; exact hrec _ (iv hh1 hh2 hh3 hh4)))) (fun r' w' _ _ _ a4 a5 _ => absurd ⟨w', a4, a5⟩ w)
  · rw [fx_nm_add, fx_ix_n (by omega) (by omega), fx_nm_rd, fx_nm_add, fx_ix_n (by omega) (by omega), fx_nm_rd]
    refine sp_states6 t1 t2 t3 m1 m2 m3 t8 t9 bS (fun z => absurd ⟨r, r1, r2, hr⟩ z) (fun _ _ _ _ a4 => absurd ⟨w, hw, hb⟩ a4) (fun r' w' r1' r2' hr' hw' hb' F' => ?_)
    have er := nI_inj (by omega) (by omega) hr hr'
    have ew := nI_inj (by omega) (by omega) hb hb'
    subst er
    subst ew
    exact (fx_br_t rfl (by rw [fx_nm_add]; exact hrec _ (iv hh1 hh2 hh3 hh4)))
theorem lc_11 {L j : Nat} {xs : Nat → Int32} {g : Nat → Int64} {rec3 : ST → Prop} (hL : L ≤ 2048) (hj : j + 4 ≤ L) (hg : ∀ j, j < 98 → g j = lN (fx_ph.getD j 0)) {na nt n bk q ce sl : Nat} {A T S : Nat → Q4} {ru cn : Nat → Nat} {ins : Nat → Int32} {pr : Nat → Nat → Nat} {l : List Nat} {lt : Int32} {AK AN TK TN R I C P K N M f Y Z FA FT R6 I6 C6 P6 F Y6 X Z6 L6 : Nat → Int32} (h1 : iT na nt n A T S ru cn ins pr) (h2 : iX na nt n A T S ru cn ins pr AK AN TK TN R I C P K N) (h3 : iM na nt n A T ru cn ins pr FA FT R6 I6 C6 P6) (h4 : iW q f X l ce sl) (hrec : ∀ st, IV (j + 4) st → rec3 st) : fx_nm ((nI j) + (nI 1)) (fun v207 => fx_ix v207 L (fun k209 => fx_nm (xs k209) (fun v208 => fx_al ce sl 600000 7302250 (fun a216 b217 => wp_X5_sentence (fun r210 y211 y212 y214 y215 => fx_nm ((nI j) + (nI 1)) (fun v218 => fx_ix v218 L (fun k220 => fx_nm (xs k220) (fun v219 => wp_X6_sentence (fun r221 y222 y223 y224 => fx_br (r210 = r221) (fx_nm ((nI j) + (nI 4)) (fun v225 => rec3 (v225, (nI bk), (nI na), AK, AN, (nI nt), TK, TN, (nI n), R, I, C, P, K, N, M, y211, y212, y214, y215, Y, Z, (nI na), (nI nt), (nI n), (nI bk), y222, FA, FT, R6, I6, C6, P6, y223, Y6, y224, Z6, L6, (ce + a216), (sl + b217)))) (False)) (nI n) (nI l.length) g FA FT R6 I6 C6 P6 F X v219)))) a216 b217 (nI n) R C P K N lt (nI l.length) q f v208)))) := by
  have hh1 := h1
  have hh2 := h2
  have hh3 := h3
  have hh4 := h4
  obtain ⟨kT, bS, hc3⟩ := iT_k h1
  obtain ⟨t1, t2, t3, t4, t5, t6, t7, t8, t9⟩ := h1
  obtain ⟨x1, x2, x3, x4, x5, x6⟩ := h2
  obtain ⟨m1, m2, m3⟩ := h3
  obtain ⟨s1, s2, s3, s4, s5, s6, s7, hch⟩ := h4
  rw [fx_nm_add, fx_ix_n (by omega) (by omega), fx_nm_rd]
  have hw : ∃ u, u ≤ 1 ∧ (∀ r, 1 ≤ r → r ≤ n → xs (j + 1) = nI r → q < (se S ru cn pr r).length → u = 1) ∧ (u = 1 → ∃ r, 1 ≤ r ∧ r ≤ n ∧ xs (j + 1) = nI r ∧ q < (se S ru cn pr r).length) := by
    by_cases h : ∃ r, 1 ≤ r ∧ r ≤ n ∧ xs (j + 1) = nI r ∧ q < (se S ru cn pr r).length
    · exact ⟨1, by omega, fun _ _ _ _ _ => rfl, fun _ => h⟩
    · exact ⟨0, by omega, fun r a1 a2 a3 a4 => absurd ⟨r, a1, a2, a3, a4⟩ h, fun z => absurd z (by decide)⟩
  obtain ⟨u, u1, u2, u3⟩ := hw
  refine ⟨61 * u, 61 * (1300 * u), by omega, by omega, sp_sent5 t3 x5 t8 x6 bS s2 s4 u2 (fun z => ?_) (fun r r1 r2 hr lt' q' f' hq' hf' => ?_)⟩
  · rw [fx_nm_add, fx_ix_n (by omega) (by omega), fx_nm_rd]
    have u0 : u = 0 := by
      by_cases e : u = 1
      · obtain ⟨r, a1, a2, a3, _⟩ := u3 e
        exact absurd ⟨r, a1, a2, a3⟩ z
      · omega
    subst u0
    exact sp_sent6 t1 t2 t3 hg m1 m2 m3 t8 t9 bS (fun _ => (fx_br_t rfl (by rw [fx_nm_add]; exact hrec _ (iv hh1 hh2 hh3 hh4)))) (fun r2 r3 r4 r5 _ _ _ => absurd ⟨r2, r3, r4, r5⟩ z)
  · rw [fx_nm_add, fx_ix_n (by omega) (by omega), fx_nm_rd]
    refine sp_sent6 t1 t2 t3 hg m1 m2 m3 t8 t9 bS (fun z => absurd ⟨r, r1, r2, hr⟩ z) (fun r' r1' r2' hr' F' X' hX' => ?_)
    have er := nI_inj (by omega) (by omega) hr hr'
    subst er
    have hb := se_b (pr := pr) (bS r r1 r2).1 (t8 r r1 r2).1 (hc3 r r1 r2)
    have hc7 := cm_7 (cm_se (S := S) (ru := ru) (cn := cn) (pr := pr) (by omega : r < 1000) (bS r r1 r2) (t8 r r1 r2).1 (fun i hi => by have := ((t8 r r1 r2).2.2.1 i hi).2; omega))
    have hq2 : q' ≤ 600 := hq'.2
    have hq3 := hq'.1
    have hl' := hf'.1
    have hgrow : u = 0 ∧ q ≤ q' ∨ u = 1 ∧ 2 * q + 2 ≤ q' := by
      by_cases e : u = 1
      · obtain ⟨r', a1, a2, a3, a4⟩ := u3 e
        have er := nI_inj (by omega) (by omega) hr a3
        subst er
        exact .inr ⟨e, by omega⟩
      · exact .inl ⟨by omega, by omega⟩
    exact (fx_br_t rfl (by rw [fx_nm_add]; exact hrec _ (iv hh1 hh2 hh3 ⟨by omega, hq2, hb, hf', hX', by omega, by omega, hc7⟩)))
theorem lc_12 {L j : Nat} {xs : Nat → Int32} {g : Nat → Int64} {rec3 : ST → Prop} (hL : L ≤ 2048) (hj : j + 4 ≤ L) (hg : ∀ j, j < 98 → g j = lN (fx_ph.getD j 0)) {na nt n bk q ce sl : Nat} {A T S : Nat → Q4} {ru cn : Nat → Nat} {ins : Nat → Int32} {pr : Nat → Nat → Nat} {l : List Nat} {lt : Int32} {AK AN TK TN R I C P K N M f Y Z FA FT R6 I6 C6 P6 F Y6 X Z6 L6 : Nat → Int32} (h1 : iT na nt n A T S ru cn ins pr) (h2 : iX na nt n A T S ru cn ins pr AK AN TK TN R I C P K N) (h3 : iM na nt n A T ru cn ins pr FA FT R6 I6 C6 P6) (h4 : iW q f X l ce sl) (hrec : ∀ st, IV (j + 4) st → rec3 st) : fx_nm ((nI j) + (nI 1)) (fun v226 => fx_ix v226 L (fun k228 => fx_nm (xs k228) (fun v227 => wp_X5_at (fun r229 => fx_nm ((nI j) + (nI 1)) (fun v230 => fx_ix v230 L (fun k232 => fx_nm (xs k232) (fun v231 => wp_X6_at (fun r233 => fx_br (r229 = r233) (fx_nm ((nI j) + (nI 4)) (fun v234 => rec3 (v234, (nI bk), (nI na), AK, AN, (nI nt), TK, TN, (nI n), R, I, C, P, K, N, M, lt, (nI l.length), q, f, Y, Z, (nI na), (nI nt), (nI n), (nI bk), (nI l.length), FA, FT, R6, I6, C6, P6, F, Y6, X, Z6, L6, ce, sl))) (False)) (nI l.length) X v231)))) (nI l.length) q f v227))) := by
  have hh1 := h1
  have hh2 := h2
  have hh3 := h3
  have hh4 := h4
  obtain ⟨kT, bS, hc3⟩ := iT_k h1
  obtain ⟨t1, t2, t3, t4, t5, t6, t7, t8, t9⟩ := h1
  obtain ⟨x1, x2, x3, x4, x5, x6⟩ := h2
  obtain ⟨m1, m2, m3⟩ := h3
  obtain ⟨s1, s2, s3, s4, s5, s6, s7, hch⟩ := h4
  rw [fx_nm_add, fx_ix_n (by omega) (by omega), fx_nm_rd]
  refine sp_at5 s4.1 (by omega) s4.2.1 hch (fun z => ?_) (fun i i1 i2 => ?_)
  · rw [fx_nm_add, fx_ix_n (by omega) (by omega), fx_nm_rd]
    exact sp_at6 (by omega) s5 (fun _ => (fx_br_t rfl (by rw [fx_nm_add]; exact hrec _ (iv hh1 hh2 hh3 hh4)))) (fun i' a1 a2 => absurd ⟨i', a1, a2⟩ z)
  · rw [fx_nm_add, fx_ix_n (by omega) (by omega), fx_nm_rd]
    refine sp_at6 (by omega) s5 (fun z => absurd ⟨i, i1, i2⟩ z) (fun i' a1 a2 => ?_)
    have er := nI_inj (by omega) (by omega) i2 a2
    subst er
    exact (fx_br_t rfl (by rw [fx_nm_add]; exact hrec _ (iv hh1 hh2 hh3 hh4)))
theorem lc_13 {L j : Nat} {xs : Nat → Int32} {g : Nat → Int64} {rec3 : ST → Prop} (hL : L ≤ 2048) (hj : j + 4 ≤ L) (hg : ∀ j, j < 98 → g j = lN (fx_ph.getD j 0)) {na nt n bk q ce sl : Nat} {A T S : Nat → Q4} {ru cn : Nat → Nat} {ins : Nat → Int32} {pr : Nat → Nat → Nat} {l : List Nat} {lt : Int32} {AK AN TK TN R I C P K N M f Y Z FA FT R6 I6 C6 P6 F Y6 X Z6 L6 : Nat → Int32} (h1 : iT na nt n A T S ru cn ins pr) (h2 : iX na nt n A T S ru cn ins pr AK AN TK TN R I C P K N) (h3 : iM na nt n A T ru cn ins pr FA FT R6 I6 C6 P6) (h4 : iW q f X l ce sl) (hrec : ∀ st, IV (j + 4) st → rec3 st) : fx_nm ((nI j) + (nI 1)) (fun v235 => fx_ix v235 L (fun k237 => fx_nm (xs k237) (fun v236 => fx_nm ((nI j) + (nI 2)) (fun v238 => fx_ix v238 L (fun k240 => fx_nm (xs k240) (fun v239 => wp_X5_concludes (fun r241 => fx_nm ((nI j) + (nI 1)) (fun v242 => fx_ix v242 L (fun k244 => fx_nm (xs k244) (fun v243 => fx_nm ((nI j) + (nI 2)) (fun v245 => fx_ix v245 L (fun k247 => fx_nm (xs k247) (fun v246 => wp_X6_concludes (fun r248 y249 => fx_br (r241 = r248) (fx_nm ((nI j) + (nI 4)) (fun v250 => rec3 (v250, (nI bk), (nI na), AK, AN, (nI nt), TK, TN, (nI n), R, I, C, P, K, N, M, lt, (nI l.length), q, f, Y, Z, (nI na), (nI nt), (nI n), (nI bk), (nI l.length), FA, FT, R6, I6, C6, P6, y249, Y6, X, Z6, L6, ce, sl))) (False)) (nI nt) (nI n) FA FT R6 I6 C6 P6 F v243 v246))))))) TK TN (nI n) K N v236 v239)))))) := by
  have hh1 := h1
  have hh2 := h2
  have hh3 := h3
  have hh4 := h4
  obtain ⟨kT, bS, hc3⟩ := iT_k h1
  obtain ⟨t1, t2, t3, t4, t5, t6, t7, t8, t9⟩ := h1
  obtain ⟨x1, x2, x3, x4, x5, x6⟩ := h2
  obtain ⟨m1, m2, m3⟩ := h3
  obtain ⟨s1, s2, s3, s4, s5, s6, s7, hch⟩ := h4
  rw [fx_nm_add, fx_ix_n (by omega) (by omega), fx_nm_rd, fx_nm_add, fx_ix_n (by omega) (by omega), fx_nm_rd]
  refine sp_conc5 t3 t2 x6 bS x3 x4 kT t6 (fun z => ?_) (fun r t r1 r2 hr b1 b2 hb => ?_)
  · rw [fx_nm_add, fx_ix_n (by omega) (by omega), fx_nm_rd, fx_nm_add, fx_ix_n (by omega) (by omega), fx_nm_rd]
    exact sp_conc6 t1 t2 t3 m1 m2 t6 m3 t8 t9 bS (fun _ => (fx_br_t rfl (by rw [fx_nm_add]; exact hrec _ (iv hh1 hh2 hh3 hh4)))) (fun r' t' a1 a2 a3 a4 a5 a6 _ => absurd ⟨r', t', a1, a2, a3, a4, a5, a6⟩ z)
  · rw [fx_nm_add, fx_ix_n (by omega) (by omega), fx_nm_rd, fx_nm_add, fx_ix_n (by omega) (by omega), fx_nm_rd]
    refine sp_conc6 t1 t2 t3 m1 m2 t6 m3 t8 t9 bS (fun z => absurd ⟨r, t, r1, r2, hr, b1, b2, hb⟩ z) (fun r' t' a1 a2 hr' a4 a5 hb' F' => ?_)
    have er := nI_inj (by omega) (by omega) hr hr'
    have eb := nI_inj (by omega) (by omega) hb hb'
    subst er
    subst eb
    exact (fx_br_t rfl (by rw [fx_nm_add]; exact hrec _ (iv hh1 hh2 hh3 hh4)))

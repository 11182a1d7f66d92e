/-! LOGIC: the law, call by call -/
theorem lc_0 {L j : Nat} {xs : Nat → Int32} {g : Nat → Int64} {rec3 : ST → Prop} (hL : L ≤ 2048) (hj : j + 4 ≤ L) (hg : ∀ j, j < 98 → g j = lN (fx_ph.getD j 0)) {na nt n bk q ce sl : Nat} {A T S : Nat → Q4} {ru cn : Nat → Nat} {ins : Nat → Int32} {pr : Nat → Nat → Nat} {l : List Nat} {lt : Int32} {AK AN TK TN R I C P K N M f Y Z FA FT R6 I6 C6 P6 F Y6 X Z6 L6 : Nat → Int32} (h1 : iT na nt n A T S ru cn ins pr) (h2 : iX na nt n A T S ru cn ins pr AK AN TK TN R I C P K N) (h3 : iM na nt n A T ru cn ins pr FA FT R6 I6 C6 P6) (h4 : iW q f X l ce sl) (hrec : ∀ st, IV (j + 4) st → rec3 st) : fx_nm ((nI j) + (nI 1)) (fun v8 => fx_ix v8 L (fun k10 => fx_nm (xs k10) (fun v9 => fx_nm ((nI j) + (nI 2)) (fun v11 => fx_ix v11 L (fun k13 => fx_nm (xs k13) (fun v12 => fx_nm ((nI j) + (nI 3)) (fun v14 => fx_ix v14 L (fun k16 => fx_nm (xs k16) (fun v15 => wp_X5_axiom (fun r17 y18 y19 y20 => fx_nm ((nI j) + (nI 1)) (fun v21 => fx_ix v21 L (fun k23 => fx_nm (xs k23) (fun v22 => fx_nm ((nI j) + (nI 2)) (fun v24 => fx_ix v24 L (fun k26 => fx_nm (xs k26) (fun v25 => fx_nm ((nI j) + (nI 3)) (fun v27 => fx_ix v27 L (fun k29 => fx_nm (xs k29) (fun v28 => wp_X6_axiom (fun r30 y31 y32 => fx_br (r17 = r30) (fx_nm ((nI j) + (nI 4)) (fun v33 => rec3 (v33, (nI bk), y18, y19, y20, (nI nt), TK, TN, (nI n), R, I, C, P, K, N, M, lt, (nI l.length), q, f, Y, Z, y31, (nI nt), (nI n), (nI bk), (nI l.length), y32, FT, R6, I6, C6, P6, F, Y6, X, Z6, L6, ce, sl))) (False)) (nI na) FA v22 v25 v28)))))))))) (nI na) AK AN v9 v12 v15))))))))) := by
  have hh1 := h1
  have hh2 := h2
  have hh3 := h3
  have hh4 := h4
  obtain ⟨kT, bS, hc3⟩ := iT_k h1
  obtain ⟨t1, t2, t3, t4, t5, t6, t7, t8, t9⟩ := h1
  obtain ⟨x1, x2, x3, x4, x5, x6⟩ := h2
  obtain ⟨m1, m2, m3⟩ := h3
  obtain ⟨s1, s2, s3, s4, s5, s6, s7, hch⟩ := h4
  rw [fx_nm_add, fx_ix_n (by omega) (by omega), fx_nm_rd, fx_nm_add, fx_ix_n (by omega) (by omega), fx_nm_rd, fx_nm_add, fx_ix_n (by omega) (by omega), fx_nm_rd]
  refine sp_axiom5 t1 x1 x2 (fun b => ?_) (fun q1 b c => ?_) (fun q1 b c K' N' d e => ?_)
  · rw [fx_nm_add, fx_ix_n (by omega) (by omega), fx_nm_rd, fx_nm_add, fx_ix_n (by omega) (by omega), fx_nm_rd, fx_nm_add, fx_ix_n (by omega) (by omega), fx_nm_rd]
    exact sp_axiom6 t1 m1 (fun _ => (fx_br_t rfl (by rw [fx_nm_add]; exact hrec _ (iv hh1 hh2 hh3 hh4)))) (fun q2 b' _ => absurd ⟨q2, b'⟩ b) (fun q2 b' _ _ _ => absurd ⟨q2, b'⟩ b)
  · rw [fx_nm_add, fx_ix_n (by omega) (by omega), fx_nm_rd, fx_nm_add, fx_ix_n (by omega) (by omega), fx_nm_rd, fx_nm_add, fx_ix_n (by omega) (by omega), fx_nm_rd]
    exact sp_axiom6 t1 m1 (fun b' => absurd ⟨q1, b⟩ b') (fun _ _ _ => (fx_br_t rfl (by rw [fx_nm_add]; exact hrec _ (iv hh1 hh2 hh3 hh4)))) (fun _ _ c' _ _ => absurd c' (by omega))
  · rw [fx_nm_add, fx_ix_n (by omega) (by omega), fx_nm_rd, fx_nm_add, fx_ix_n (by omega) (by omega), fx_nm_rd, fx_nm_add, fx_ix_n (by omega) (by omega), fx_nm_rd]
    refine sp_axiom6 t1 m1 (fun b' => absurd ⟨q1, b⟩ b') (fun _ _ c' => absurd c' (by omega)) (fun q2 b' _ F' d' => ?_)
    rw [v_ax_inj b' b] at d'
    obtain ⟨v1, v2⟩ := v_ax_b b
    exact (fx_br_t rfl (by rw [fx_nm_add]; exact hrec _ (iv (iT_A hh1 v1 v2 c) ⟨d, e, x3, x4, x5, x6⟩ ⟨d', m2, m3⟩ hh4)))
theorem lc_1 {L j : Nat} {xs : Nat → Int32} {g : Nat → Int64} {rec3 : ST → Prop} (hL : L ≤ 2048) (hj : j + 4 ≤ L) (hg : ∀ j, j < 98 → g j = lN (fx_ph.getD j 0)) {na nt n bk q ce sl : Nat} {A T S : Nat → Q4} {ru cn : Nat → Nat} {ins : Nat → Int32} {pr : Nat → Nat → Nat} {l : List Nat} {lt : Int32} {AK AN TK TN R I C P K N M f Y Z FA FT R6 I6 C6 P6 F Y6 X Z6 L6 : Nat → Int32} (h1 : iT na nt n A T S ru cn ins pr) (h2 : iX na nt n A T S ru cn ins pr AK AN TK TN R I C P K N) (h3 : iM na nt n A T ru cn ins pr FA FT R6 I6 C6 P6) (h4 : iW q f X l ce sl) (hrec : ∀ st, IV (j + 4) st → rec3 st) : fx_nm ((nI j) + (nI 1)) (fun v34 => fx_ix v34 L (fun k36 => fx_nm (xs k36) (fun v35 => fx_nm ((nI j) + (nI 2)) (fun v37 => fx_ix v37 L (fun k39 => fx_nm (xs k39) (fun v38 => fx_nm ((nI j) + (nI 3)) (fun v40 => fx_ix v40 L (fun k42 => fx_nm (xs k42) (fun v41 => wp_X5_triple (fun r43 y44 y45 y46 => fx_nm ((nI j) + (nI 1)) (fun v47 => fx_ix v47 L (fun k49 => fx_nm (xs k49) (fun v48 => fx_nm ((nI j) + (nI 2)) (fun v50 => fx_ix v50 L (fun k52 => fx_nm (xs k52) (fun v51 => fx_nm ((nI j) + (nI 3)) (fun v53 => fx_ix v53 L (fun k55 => fx_nm (xs k55) (fun v54 => wp_X6_triple (fun r56 y57 y58 => fx_br (r43 = r56) (fx_nm ((nI j) + (nI 4)) (fun v59 => rec3 (v59, (nI bk), (nI na), AK, AN, y44, y45, y46, (nI n), R, I, C, P, K, N, M, lt, (nI l.length), q, f, Y, Z, (nI na), y57, (nI n), (nI bk), (nI l.length), FA, y58, R6, I6, C6, P6, F, Y6, X, Z6, L6, ce, sl))) (False)) (nI nt) FT v48 v51 v54)))))))))) (nI nt) TK TN v35 v38 v41))))))))) := by
  have hh1 := h1
  have hh2 := h2
  have hh3 := h3
  have hh4 := h4
  obtain ⟨kT, bS, hc3⟩ := iT_k h1
  obtain ⟨t1, t2, t3, t4, t5, t6, t7, t8, t9⟩ := h1
  obtain ⟨x1, x2, x3, x4, x5, x6⟩ := h2
  obtain ⟨m1, m2, m3⟩ := h3
  obtain ⟨s1, s2, s3, s4, s5, s6, s7, hch⟩ := h4
  rw [fx_nm_add, fx_ix_n (by omega) (by omega), fx_nm_rd, fx_nm_add, fx_ix_n (by omega) (by omega), fx_nm_rd, fx_nm_add, fx_ix_n (by omega) (by omega), fx_nm_rd]
  refine sp_triple5 t2 x3 x4 t6 (fun b => ?_) (fun q1 b i i1 i2 i3 i4 => ?_) (fun q1 b c d => ?_) (fun q1 b c d K' N' e e' => ?_)
  · rw [fx_nm_add, fx_ix_n (by omega) (by omega), fx_nm_rd, fx_nm_add, fx_ix_n (by omega) (by omega), fx_nm_rd, fx_nm_add, fx_ix_n (by omega) (by omega), fx_nm_rd]
    exact sp_triple6 t2 m2 t6 t7 (fun _ => (fx_br_t rfl (by rw [fx_nm_add]; exact hrec _ (iv hh1 hh2 hh3 hh4)))) (fun q2 b' _ _ _ _ _ => absurd ⟨q2, b'⟩ b) (fun q2 b' _ _ => absurd ⟨q2, b'⟩ b) (fun q2 b' _ _ _ _ => absurd ⟨q2, b'⟩ b)
  · rw [fx_nm_add, fx_ix_n (by omega) (by omega), fx_nm_rd, fx_nm_add, fx_ix_n (by omega) (by omega), fx_nm_rd, fx_nm_add, fx_ix_n (by omega) (by omega), fx_nm_rd]
    refine sp_triple6 t2 m2 t6 t7 (fun b' => absurd ⟨q1, b⟩ b') (fun q2 b' i' j1 j2 j3 j4 => ?_) (fun q2 b' c' _ => absurd (i3.trans (v_tr_inj b b')) (c' i i1 i2)) (fun q2 b' c' _ _ _ => absurd (i3.trans (v_tr_inj b b')) (c' i i1 i2))
    have e : i = i' := by
      have e2 := v_tr_inj b b'
      rcases Nat.lt_trichotomy i i' with z | z | z
      · exact absurd (i3.trans e2) (j4 i i1 z)
      · exact z
      · exact absurd (j3.trans e2.symm) (i4 i' j1 z)
    subst e
    exact (fx_br_t rfl (by rw [fx_nm_add]; exact hrec _ (iv hh1 hh2 hh3 hh4)))
  · rw [fx_nm_add, fx_ix_n (by omega) (by omega), fx_nm_rd, fx_nm_add, fx_ix_n (by omega) (by omega), fx_nm_rd, fx_nm_add, fx_ix_n (by omega) (by omega), fx_nm_rd]
    exact sp_triple6 t2 m2 t6 t7 (fun b' => absurd ⟨q1, b⟩ b') (fun q2 b' i' j1 j2 j3 _ => absurd (j3.trans (v_tr_inj b' b)) (c i' j1 j2)) (fun _ _ _ _ => (fx_br_t rfl (by rw [fx_nm_add]; exact hrec _ (iv hh1 hh2 hh3 hh4)))) (fun _ _ _ d' _ _ => absurd d' (by omega))
  · rw [fx_nm_add, fx_ix_n (by omega) (by omega), fx_nm_rd, fx_nm_add, fx_ix_n (by omega) (by omega), fx_nm_rd, fx_nm_add, fx_ix_n (by omega) (by omega), fx_nm_rd]
    refine sp_triple6 t2 m2 t6 t7 (fun b' => absurd ⟨q1, b⟩ b') (fun q2 b' i' j1 j2 j3 _ => absurd (j3.trans (v_tr_inj b' b)) (c i' j1 j2)) (fun _ _ _ d' => absurd d' (by omega)) (fun q2 b' _ _ F' e2 => ?_)
    rw [v_tr_inj b' b] at e2
    obtain ⟨v1, v2⟩ := v_tr_b b
    exact (fx_br_t rfl (by rw [fx_nm_add]; exact hrec _ (iv (iT_T hh1 v1 v2 d) ⟨x1, x2, e, e', x5, x6⟩ ⟨m1, e2, m3⟩ hh4)))
theorem lc_2 {L j : Nat} {xs : Nat → Int32} {g : Nat → Int64} {rec3 : ST → Prop} (hL : L ≤ 2048) (hj : j + 4 ≤ L) (hg : ∀ j, j < 98 → g j = lN (fx_ph.getD j 0)) {na nt n bk q ce sl : Nat} {A T S : Nat → Q4} {ru cn : Nat → Nat} {ins : Nat → Int32} {pr : Nat → Nat → Nat} {l : List Nat} {lt : Int32} {AK AN TK TN R I C P K N M f Y Z FA FT R6 I6 C6 P6 F Y6 X Z6 L6 : Nat → Int32} (h1 : iT na nt n A T S ru cn ins pr) (h2 : iX na nt n A T S ru cn ins pr AK AN TK TN R I C P K N) (h3 : iM na nt n A T ru cn ins pr FA FT R6 I6 C6 P6) (h4 : iW q f X l ce sl) (hrec : ∀ st, IV (j + 4) st → rec3 st) : fx_nm ((nI j) + (nI 1)) (fun v60 => fx_ix v60 L (fun k62 => fx_nm (xs k62) (fun v61 => fx_nm ((nI j) + (nI 2)) (fun v63 => fx_ix v63 L (fun k65 => fx_nm (xs k65) (fun v64 => fx_nm ((nI j) + (nI 3)) (fun v66 => fx_ix v66 L (fun k68 => fx_nm (xs k68) (fun v67 => wp_X5_row (fun r69 y70 y71 y72 y73 y74 y75 y76 y77 => fx_nm ((nI j) + (nI 1)) (fun v78 => fx_ix v78 L (fun k80 => fx_nm (xs k80) (fun v79 => fx_nm ((nI j) + (nI 2)) (fun v81 => fx_ix v81 L (fun k83 => fx_nm (xs k83) (fun v82 => fx_nm ((nI j) + (nI 3)) (fun v84 => fx_ix v84 L (fun k86 => fx_nm (xs k86) (fun v85 => wp_X6_row (fun r87 y88 y89 y90 y91 y92 => fx_br (r69 = r87) (fx_nm ((nI j) + (nI 4)) (fun v93 => rec3 (v93, (nI bk), (nI na), AK, AN, (nI nt), TK, TN, y70, y71, y72, y73, y74, y75, y76, y77, lt, (nI l.length), q, f, Y, Z, (nI na), (nI nt), y88, (nI bk), (nI l.length), FA, FT, y89, y90, y91, y92, F, Y6, X, Z6, L6, ce, sl))) (False)) (nI na) (nI nt) (nI n) R6 I6 C6 P6 v79 v82 v85)))))))))) AK AN TK TN (nI n) R I C P K N M v61 v64 v67))))))))) := by
  have hh1 := h1
  have hh2 := h2
  have hh3 := h3
  have hh4 := h4
  obtain ⟨kT, bS, hc3⟩ := iT_k h1
  obtain ⟨t1, t2, t3, t4, t5, t6, t7, t8, t9⟩ := h1
  obtain ⟨x1, x2, x3, x4, x5, x6⟩ := h2
  obtain ⟨m1, m2, m3⟩ := h3
  obtain ⟨s1, s2, s3, s4, s5, s6, s7, hch⟩ := h4
  rw [fx_nm_add, fx_ix_n (by omega) (by omega), fx_nm_rd, fx_nm_add, fx_ix_n (by omega) (by omega), fx_nm_rd, fx_nm_add, fx_ix_n (by omega) (by omega), fx_nm_rd]
  refine sp_row5 t1 t2 t3 x1 x2 t5 x3 x4 kT t4 t6 x5 t8 t9 x6 (fun b => ?_) (fun r p b c R' I' C' P' K' N' M' S' d e e' => ?_)
  · rw [fx_nm_add, fx_ix_n (by omega) (by omega), fx_nm_rd, fx_nm_add, fx_ix_n (by omega) (by omega), fx_nm_rd, fx_nm_add, fx_ix_n (by omega) (by omega), fx_nm_rd]
    refine sp_row6 t1 t2 t3 m3 hc3 (fun _ => (fx_br_t rfl (by rw [fx_nm_add]; exact hrec _ (iv hh1 hh2 hh3 hh4)))) (fun r' p' b' c' _ _ _ _ _ => ?_)
    rcases b with b | b
    · exact absurd ⟨r', p', b'⟩ b
    · exact absurd b (by omega)
  · rw [fx_nm_add, fx_ix_n (by omega) (by omega), fx_nm_rd, fx_nm_add, fx_ix_n (by omega) (by omega), fx_nm_rd, fx_nm_add, fx_ix_n (by omega) (by omega), fx_nm_rd]
    refine sp_row6 t1 t2 t3 m3 hc3 (fun b' => ?_) (fun r' p' b' c' R'' I'' C'' P'' d' => ?_)
    · rcases b' with b' | b'
      · exact absurd ⟨r, p, b⟩ b'
      · exact absurd b' (by omega)
    obtain ⟨z1, z2⟩ := v_row_inj t3 b' b
    rw [z1, z2] at d'
    exact (fx_br_t rfl (by rw [fx_nm_add]; exact hrec _ (iv ⟨t1, t2, by omega, t4, t5, t6, t7, wf_row t8 b, e⟩ ⟨x1, x2, x3, x4, d, e'⟩ ⟨m1, m2, d'⟩ hh4)))
theorem lc_3 {L j : Nat} {xs : Nat → Int32} {g : Nat → Int64} {rec3 : ST → Prop} (hL : L ≤ 2048) (hj : j + 4 ≤ L) (hg : ∀ j, j < 98 → g j = lN (fx_ph.getD j 0)) {na nt n bk q ce sl : Nat} {A T S : Nat → Q4} {ru cn : Nat → Nat} {ins : Nat → Int32} {pr : Nat → Nat → Nat} {l : List Nat} {lt : Int32} {AK AN TK TN R I C P K N M f Y Z FA FT R6 I6 C6 P6 F Y6 X Z6 L6 : Nat → Int32} (h1 : iT na nt n A T S ru cn ins pr) (h2 : iX na nt n A T S ru cn ins pr AK AN TK TN R I C P K N) (h3 : iM na nt n A T ru cn ins pr FA FT R6 I6 C6 P6) (h4 : iW q f X l ce sl) (hrec : ∀ st, IV (j + 4) st → rec3 st) : fx_nm ((nI j) + (nI 1)) (fun v94 => fx_ix v94 L (fun k96 => fx_nm (xs k96) (fun v95 => fx_nm ((nI j) + (nI 2)) (fun v97 => fx_ix v97 L (fun k99 => fx_nm (xs k99) (fun v98 => wp_X5_premise (fun r100 y101 y102 y103 y104 y105 => fx_nm ((nI j) + (nI 1)) (fun v106 => fx_ix v106 L (fun k108 => fx_nm (xs k108) (fun v107 => fx_nm ((nI j) + (nI 2)) (fun v109 => fx_ix v109 L (fun k111 => fx_nm (xs k111) (fun v110 => wp_X6_premise (fun r112 y113 y114 => fx_br (r100 = r112) (fx_nm ((nI j) + (nI 4)) (fun v115 => rec3 (v115, (nI bk), (nI na), AK, AN, (nI nt), TK, TN, (nI n), R, I, y101, y102, y103, y104, y105, lt, (nI l.length), q, f, Y, Z, (nI na), (nI nt), (nI n), (nI bk), (nI l.length), FA, FT, R6, I6, y113, y114, F, Y6, X, Z6, L6, ce, sl))) (False)) (nI n) R6 C6 P6 v107 v110))))))) AK AN TK TN (nI n) R I C P K N M v95 v98)))))) := by
  have hh1 := h1
  have hh2 := h2
  have hh3 := h3
  have hh4 := h4
  obtain ⟨kT, bS, hc3⟩ := iT_k h1
  obtain ⟨t1, t2, t3, t4, t5, t6, t7, t8, t9⟩ := h1
  obtain ⟨x1, x2, x3, x4, x5, x6⟩ := h2
  obtain ⟨m1, m2, m3⟩ := h3
  obtain ⟨s1, s2, s3, s4, s5, s6, s7, hch⟩ := h4
  rw [fx_nm_add, fx_ix_n (by omega) (by omega), fx_nm_rd, fx_nm_add, fx_ix_n (by omega) (by omega), fx_nm_rd]
  refine sp_premise5 t1 t2 t3 x1 x3 t4 t6 x5 t8 t9 x6 (fun b => ?_) (fun k p b c => ?_) (fun k p b c c' C' P' K' N' M' S' d e e' => ?_)
  · rw [fx_nm_add, fx_ix_n (by omega) (by omega), fx_nm_rd, fx_nm_add, fx_ix_n (by omega) (by omega), fx_nm_rd]
    exact sp_premise6 t3 m3 t8 (fun _ => (fx_br_t rfl (by rw [fx_nm_add]; exact hrec _ (iv hh1 hh2 hh3 hh4)))) (fun k' p' b' _ => absurd ⟨k', p', b'⟩ b) (fun k' p' b' _ _ _ _ _ => absurd ⟨k', p', b'⟩ b)
  · rw [fx_nm_add, fx_ix_n (by omega) (by omega), fx_nm_rd, fx_nm_add, fx_ix_n (by omega) (by omega), fx_nm_rd]
    refine sp_premise6 t3 m3 t8 (fun b' => absurd ⟨k, p, b⟩ b') (fun _ _ _ _ => (fx_br_t rfl (by rw [fx_nm_add]; exact hrec _ (iv hh1 hh2 hh3 hh4)))) (fun k' p' b' c1 c2 _ _ _ => ?_)
    obtain ⟨z1, z2⟩ := v_pm_inj t3 b' b
    rw [z1, z2] at c1
    rw [z1] at c2
    exact absurd ⟨c1, c2⟩ c
  · rw [fx_nm_add, fx_ix_n (by omega) (by omega), fx_nm_rd, fx_nm_add, fx_ix_n (by omega) (by omega), fx_nm_rd]
    refine sp_premise6 t3 m3 t8 (fun b' => absurd ⟨k, p, b⟩ b') (fun k' p' b' c1 => ?_) (fun k' p' b' c1 c2 C'' P'' d' => ?_)
    · obtain ⟨z1, z2⟩ := v_pm_inj t3 b' b
      rw [z1, z2] at c1
      exact absurd ⟨c, c'⟩ c1
    obtain ⟨z1, z2⟩ := v_pm_inj t3 b' b
    rw [z1, z2] at d'
    rw [z1]
    exact (fx_br_t rfl (by rw [fx_nm_add]; exact hrec _ (iv ⟨t1, t2, t3, t4, t5, t6, t7, wf_pm t8 c' b.2.2.2.1 c, e⟩ ⟨x1, x2, x3, x4, d, e'⟩ ⟨m1, m2, d'⟩ hh4)))

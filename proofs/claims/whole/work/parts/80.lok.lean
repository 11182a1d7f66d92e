/-! LOGIC: the law -/
set_option maxHeartbeats 4000000 in
set_option maxRecDepth 100000 in
theorem law_ok {L : Nat} {xs : Nat → Int32} (hL : L ≤ 2048) (g : Nat → Int64) (hg : ∀ j, j < 98 → g j = lN (fx_ph.getD j 0)) : wp_law L xs 34 9726 (nI 0) (nI 0) (fun _ => 0) (fun _ => 0) (nI 0) (fun _ => 0) (fun _ => 0) (nI 0) (fun _ => 0) (fun _ => 0) (fun _ => 0) (fun _ => 0) (fun _ => 0) (fun _ => 0) (fun _ => 0) 0 0 16 (fun _ => 0) (fun _ => 0) (fun _ => 0) 0 0 0 0 0 g (fun _ => 0) (fun _ => 0) (fun _ => 0) (fun _ => 0) (fun _ => 0) (fun _ => 0) (fun _ => 0) (fun _ => 0) (fun _ => 0) (fun _ => 0) (fun _ => 0) (nI 0) := by
  unfold wp_law
  refine fx_wh1_i (fun st => ∃ j, j ≤ 2048 ∧ IV j st) (fun st => 3000 - st.1.toNatClampNeg) (fun rec3 st hI hr => ?_) _ ⟨0, by omega, ?_⟩
  rotate_left
  · have h0 : (0 : Int32) = nI 0 := nI_0.symm
    refine iv (na := 0) (nt := 0) (n := 0) (bk := 0) (q := 16) (ce := 34) (sl := 9726) (A := fun _ => q_z) (T := fun _ => q_z) (S := fun _ => q_z) (ru := fun _ => 0) (cn := fun _ => 0) (ins := fun _ => 0) (pr := fun _ _ => 0) (l := []) ?_ ?_ ?_ ?_
    · exact ⟨by omega, by omega, by omega, fun i i1 i2 => absurd i1 (by omega), fun i i1 i2 => absurd i1 (by omega), fun i i1 i2 => absurd i1 (by omega), fun i i1 i2 => absurd i1 (by omega), fun i i1 i2 => absurd i1 (by omega), fun i i1 i2 => absurd i1 (by omega)⟩
    · exact ⟨fun i i1 i2 => absurd i1 (by omega), fun i i1 i2 => h0, fun i i1 i2 => absurd i1 (by omega), fun i i1 i2 => h0, fun i i1 i2 => absurd i1 (by omega), fun i i1 i2 => absurd i1 (by omega)⟩
    · exact ⟨fun i i1 i2 => absurd i1 (by omega), fun i i1 i2 => absurd i1 (by omega), fun i i1 i2 => absurd i1 (by omega)⟩
    · exact ⟨by omega, by omega, by show 0 ≤ 300; omega, ⟨Nat.zero_le _, fun i hi => absurd hi (Nat.not_lt_zero _), fun i hi => ⟨0, by omega, h0⟩⟩, fun i hi => absurd hi (Nat.not_lt_zero _), by omega, by omega, fun i hi => absurd hi (Nat.not_lt_zero _)⟩
  obtain ⟨j, hj, na, nt, n, bk, q, ce, sl, A, T, S, ru, cn, ins, pr, l, lt, AK, AN, TK, TN, R, I, C, P, K, N, M, f, Y, Z, FA, FT, R6, I6, C6, P6, F, Y6, X, Z6, L6, rfl, h1, h2, h3, h4⟩ := hI
  simp only []
  rw [fx_nm_eq]
  have hc : (nI L - nI 4 < nI j) ↔ L < j + 4 := by
    rw [Int32.lt_iff_toInt_lt, pk_sub_toInt (by omega) (by omega), nI_toInt (by omega)]
    omega
  refine fx_br_iff hc (fun _ => trivial) (fun e => ?_)
  have e4 : j + 4 ≤ L := by omega
  have hrec : ∀ st, IV (j + 4) st → rec3 st := by
    intro st hst
    refine hr st ⟨j + 4, by omega, hst⟩ ?_
    obtain ⟨na, nt, n, bk, q, ce, sl, A, T, S, ru, cn, ins, pr, l, lt, AK, AN, TK, TN, R, I, C, P, K, N, M, f, Y, Z, FA, FT, R6, I6, C6, P6, F, Y6, X, Z6, L6, rfl, -⟩ := hst
    show 3000 - (nI (j + 4)).toNatClampNeg < 3000 - (nI j).toNatClampNeg
    rw [nI_clamp (by omega), nI_clamp (by omega)]
    omega
  rw [fx_ix_n (by omega) (by omega), fx_nm_rd, fx_nm_eq]
  refine fx_br_i (fun _ => lc_0 (xs := xs) hL e4 hg h1 h2 h3 h4 hrec) (fun _ => ?_)
  refine fx_br_i (fun _ => lc_1 (xs := xs) hL e4 hg h1 h2 h3 h4 hrec) (fun _ => ?_)
  refine fx_br_i (fun _ => lc_2 (xs := xs) hL e4 hg h1 h2 h3 h4 hrec) (fun _ => ?_)
  refine fx_br_i (fun _ => lc_3 (xs := xs) hL e4 hg h1 h2 h3 h4 hrec) (fun _ => ?_)
  refine fx_br_i (fun _ => lc_4 (xs := xs) hL e4 hg h1 h2 h3 h4 hrec) (fun _ => ?_)
  refine fx_br_i (fun _ => lc_5 (xs := xs) hL e4 hg h1 h2 h3 h4 hrec) (fun _ => ?_)
  refine fx_br_i (fun _ => lc_6 (xs := xs) hL e4 hg h1 h2 h3 h4 hrec) (fun _ => ?_)
  refine fx_br_i (fun _ => lc_7 (xs := xs) hL e4 hg h1 h2 h3 h4 hrec) (fun _ => ?_)
  refine fx_br_i (fun _ => lc_8 (xs := xs) hL e4 hg h1 h2 h3 h4 hrec) (fun _ => ?_)
  refine fx_br_i (fun _ => lc_9 (xs := xs) hL e4 hg h1 h2 h3 h4 hrec) (fun _ => ?_)
  refine fx_br_i (fun _ => lc_10 (xs := xs) hL e4 hg h1 h2 h3 h4 hrec) (fun _ => ?_)
  refine fx_br_i (fun _ => lc_11 (xs := xs) hL e4 hg h1 h2 h3 h4 hrec) (fun _ => ?_)
  refine fx_br_i (fun _ => lc_12 (xs := xs) hL e4 hg h1 h2 h3 h4 hrec) (fun _ => ?_)
  refine fx_br_i (fun _ => lc_13 (xs := xs) hL e4 hg h1 h2 h3 h4 hrec) (fun _ => ?_)
  rw [fx_nm_add]
  exact hrec _ (iv h1 h2 h3 h4)

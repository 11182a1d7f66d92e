/-- X5_drop: its walk -/
def wp_X5_drop (post : Int32 → Int32 → Int32 → (Nat → Int32) → (Nat → Int32) → (Nat → Int32) → (Nat → Int32) → (Nat → Int32) → (Nat → Int32) → (Nat → Int32) → (Nat → Int32) → Prop) (s_o_broken : Int32) (s_o_laid_last : Int32) (f_o_laid_ruleNumbers : Nat → Int32) (f_o_laid_instances : Nat → Int32) (f_o_laid_premiseCounts : Nat → Int32) (f_o_laid_premises : Nat → Int32) (f_o_stated_kinds : Nat → Int32) (f_o_stated_numbers : Nat → Int32) (f_o_needed : Nat → Int32) (f_o_reckoned : Nat → Int32) (p1 : Int32) : Prop :=
  wp_X2_has (fun r1 => fx_br (r1 = 0) (post (-1) s_o_broken s_o_laid_last f_o_laid_ruleNumbers f_o_laid_instances f_o_laid_premiseCounts f_o_laid_premises f_o_stated_kinds f_o_stated_numbers f_o_needed f_o_reckoned) (wp_X5_markProof (fun y2 => fx_wh9 (fun (rec12 : Int32 → Int32 → (Nat → Int32) → (Nat → Int32) → (Nat → Int32) → (Nat → Int32) → (Nat → Int32) → (Nat → Int32) → (Nat → Int32) → Prop) (x3 : Int32) (x4 : Int32) (y5 : Nat → Int32) (y6 : Nat → Int32) (y7 : Nat → Int32) (y8 : Nat → Int32) (y9 : Nat → Int32) (y10 : Nat → Int32) (y11 : Nat → Int32) => fx_br (p1 < x3) (wp_X2_keepOnly (fun y13 => post x4 (nI 0) y13 y5 y6 y7 y8 y9 y10 y2 y11) s_o_laid_last x4) (fx_ix x3 301 (fun k15 => fx_nm (y2 k15) (fun v14 => fx_br (v14 = 0) (fx_nm (x3 + (nI 1)) (fun v16 => rec12 v16 x4 y5 y6 y7 y8 y9 y10 y11)) (fx_nm (x4 + (nI 1)) (fun v17 => fx_ix x3 301 (fun k26 => fx_nm (upd y11 k26 v17) (fun g18 => wp_X2_move (fun y19 y20 y21 y22 => wp_X4_put_s (fun y23 y24 => fx_nm (x3 + (nI 1)) (fun v25 => rec12 v25 v17 y19 y20 y21 y22 y23 y24 g18)) 301 903 y9 y10 v17 x3) 301 s_o_laid_last y5 y6 y7 y8 g18 x3 v17)))))))) (nI 1) (nI 0) f_o_laid_ruleNumbers f_o_laid_instances f_o_laid_premiseCounts f_o_laid_premises f_o_stated_kinds f_o_stated_numbers f_o_reckoned) s_o_laid_last f_o_laid_premiseCounts f_o_laid_premises f_o_needed p1)) s_o_laid_last p1
theorem im_X5_drop_X5 : ∀ w ∈ u_ws RX5 TX5 9, w ∈ wsX5_drop := by decide +kernel
set_option maxHeartbeats 4000000 in
set_option maxRecDepth 100000 in
theorem cw_X5_drop (l : Launch) (X : fx_X) (a_o : Nat) (a_o_axioms : Nat) (a_o_triples : Nat) (a_o_laid : Nat) (a_o_stated : Nat) (a_o_letters : Nat) (a_o_told : Nat) (a_o_needed : Nat) (a_o_reckoned : Nat) (a_o_laid_ruleNumbers : Nat) (a_o_laid_instances : Nat) (a_o_laid_premiseCounts : Nat) (a_o_laid_premises : Nat) (a_o_stated_kinds : Nat) (a_o_stated_numbers : Nat) (s_o_broken : Int32) (s_o_laid_last : Int32) (f_o_laid_ruleNumbers : Nat → Int32) (f_o_laid_instances : Nat → Int32) (f_o_laid_premiseCounts : Nat → Int32) (f_o_laid_premises : Nat → Int32) (s_o_stated_count : Int32) (f_o_stated_kinds : Nat → Int32) (f_o_stated_numbers : Nat → Int32) (f_o_needed : Nat → Int32) (f_o_reckoned : Nat → Int32) (sz : Nat) (p1 : Int32) (post : Int32 → Int32 → Int32 → (Nat → Int32) → (Nat → Int32) → (Nat → Int32) → (Nat → Int32) → (Nat → Int32) → (Nat → Int32) → (Nat → Int32) → (Nat → Int32) → Prop) (h : wp_X5_drop post s_o_broken s_o_laid_last f_o_laid_ruleNumbers f_o_laid_instances f_o_laid_premiseCounts f_o_laid_premises f_o_stated_kinds f_o_stated_numbers f_o_needed f_o_reckoned p1) : Met l yX5_drop wsX5_drop ({ frames := 4, cells := 0, slots := 0, locals := 89 }) (va_Pc [.ref a_o, .int p1] (fx_PW X [(a_o, .inr (4, [.ref a_o_axioms, .ref a_o_triples, .ref a_o_laid, .ref a_o_stated, .ref a_o_letters, .ref a_o_told, .ref a_o_needed, .ref a_o_reckoned, .int s_o_broken])), (a_o_laid, .inr (2, [.ref a_o_laid_ruleNumbers, .ref a_o_laid_instances, .ref a_o_laid_premiseCounts, .ref a_o_laid_premises, .int s_o_laid_last])), (a_o_laid_ruleNumbers, .inl (fx_cI X, 301, .inl f_o_laid_ruleNumbers)), (a_o_laid_instances, .inl (fx_cI X, 301, .inl f_o_laid_instances)), (a_o_laid_premiseCounts, .inl (fx_cI X, 301, .inl f_o_laid_premiseCounts)), (a_o_laid_premises, .inl (fx_cI X, 903, .inl f_o_laid_premises)), (a_o_stated, .inr (3, [.ref a_o_stated_kinds, .ref a_o_stated_numbers, .int s_o_stated_count])), (a_o_stated_kinds, .inl (fx_cI X, 301, .inl f_o_stated_kinds)), (a_o_stated_numbers, .inl (fx_cI X, 903, .inl f_o_stated_numbers)), (a_o_needed, .inl (fx_cZ X, 301, .inl f_o_needed)), (a_o_reckoned, .inl (fx_cI X, 301, .inl f_o_reckoned))] sz)) (va_Qi (fun r (u : Int32 × Int32 × (Nat → Int32) × (Nat → Int32) × (Nat → Int32) × (Nat → Int32) × (Nat → Int32) × (Nat → Int32) × (Nat → Int32) × (Nat → Int32)) => post r u.1 u.2.1 u.2.2.1 u.2.2.2.1 u.2.2.2.2.1 u.2.2.2.2.2.1 u.2.2.2.2.2.2.1 u.2.2.2.2.2.2.2.1 u.2.2.2.2.2.2.2.2.1 u.2.2.2.2.2.2.2.2.2) (fun (u : Int32 × Int32 × (Nat → Int32) × (Nat → Int32) × (Nat → Int32) × (Nat → Int32) × (Nat → Int32) × (Nat → Int32) × (Nat → Int32) × (Nat → Int32)) t => fx_EW X (va_A [(a_o, .inr (4, [.ref a_o_axioms, .ref a_o_triples, .ref a_o_laid, .ref a_o_stated, .ref a_o_letters, .ref a_o_told, .ref a_o_needed, .ref a_o_reckoned, .int s_o_broken])), (a_o_laid, .inr (2, [.ref a_o_laid_ruleNumbers, .ref a_o_laid_instances, .ref a_o_laid_premiseCounts, .ref a_o_laid_premises, .int s_o_laid_last])), (a_o_laid_ruleNumbers, .inl (fx_cI X, 301, .inl f_o_laid_ruleNumbers)), (a_o_laid_instances, .inl (fx_cI X, 301, .inl f_o_laid_instances)), (a_o_laid_premiseCounts, .inl (fx_cI X, 301, .inl f_o_laid_premiseCounts)), (a_o_laid_premises, .inl (fx_cI X, 903, .inl f_o_laid_premises)), (a_o_stated, .inr (3, [.ref a_o_stated_kinds, .ref a_o_stated_numbers, .int s_o_stated_count])), (a_o_stated_kinds, .inl (fx_cI X, 301, .inl f_o_stated_kinds)), (a_o_stated_numbers, .inl (fx_cI X, 903, .inl f_o_stated_numbers)), (a_o_needed, .inl (fx_cZ X, 301, .inl f_o_needed)), (a_o_reckoned, .inl (fx_cI X, 301, .inl f_o_reckoned))] sz) [(a_o, .inr (4, [.ref a_o_axioms, .ref a_o_triples, .ref a_o_laid, .ref a_o_stated, .ref a_o_letters, .ref a_o_told, .ref a_o_needed, .ref a_o_reckoned, .int u.1])), (a_o_laid, .inr (2, [.ref a_o_laid_ruleNumbers, .ref a_o_laid_instances, .ref a_o_laid_premiseCounts, .ref a_o_laid_premises, .int u.2.1])), (a_o_laid_ruleNumbers, .inl (fx_cI X, 301, .inl u.2.2.1)), (a_o_laid_instances, .inl (fx_cI X, 301, .inl u.2.2.2.1)), (a_o_laid_premiseCounts, .inl (fx_cI X, 301, .inl u.2.2.2.2.1)), (a_o_laid_premises, .inl (fx_cI X, 903, .inl u.2.2.2.2.2.1)), (a_o_stated, .inr (3, [.ref a_o_stated_kinds, .ref a_o_stated_numbers, .int s_o_stated_count])), (a_o_stated_kinds, .inl (fx_cI X, 301, .inl u.2.2.2.2.2.2.1)), (a_o_stated_numbers, .inl (fx_cI X, 903, .inl u.2.2.2.2.2.2.2.1)), (a_o_needed, .inl (fx_cZ X, 301, .inl u.2.2.2.2.2.2.2.2.1)), (a_o_reckoned, .inl (fx_cI X, 301, .inl u.2.2.2.2.2.2.2.2.2))] t) (va_A [(a_o, .inr (4, [.ref a_o_axioms, .ref a_o_triples, .ref a_o_laid, .ref a_o_stated, .ref a_o_letters, .ref a_o_told, .ref a_o_needed, .ref a_o_reckoned, .int s_o_broken])), (a_o_laid, .inr (2, [.ref a_o_laid_ruleNumbers, .ref a_o_laid_instances, .ref a_o_laid_premiseCounts, .ref a_o_laid_premises, .int s_o_laid_last])), (a_o_laid_ruleNumbers, .inl (fx_cI X, 301, .inl f_o_laid_ruleNumbers)), (a_o_laid_instances, .inl (fx_cI X, 301, .inl f_o_laid_instances)), (a_o_laid_premiseCounts, .inl (fx_cI X, 301, .inl f_o_laid_premiseCounts)), (a_o_laid_premises, .inl (fx_cI X, 903, .inl f_o_laid_premises)), (a_o_stated, .inr (3, [.ref a_o_stated_kinds, .ref a_o_stated_numbers, .int s_o_stated_count])), (a_o_stated_kinds, .inl (fx_cI X, 301, .inl f_o_stated_kinds)), (a_o_stated_numbers, .inl (fx_cI X, 903, .inl f_o_stated_numbers)), (a_o_needed, .inl (fx_cZ X, 301, .inl f_o_needed)), (a_o_reckoned, .inl (fx_cI X, 301, .inl f_o_reckoned))] sz)) 0 0 (va_A [(a_o, .inr (4, [.ref a_o_axioms, .ref a_o_triples, .ref a_o_laid, .ref a_o_stated, .ref a_o_letters, .ref a_o_told, .ref a_o_needed, .ref a_o_reckoned, .int s_o_broken])), (a_o_laid, .inr (2, [.ref a_o_laid_ruleNumbers, .ref a_o_laid_instances, .ref a_o_laid_premiseCounts, .ref a_o_laid_premises, .int s_o_laid_last])), (a_o_laid_ruleNumbers, .inl (fx_cI X, 301, .inl f_o_laid_ruleNumbers)), (a_o_laid_instances, .inl (fx_cI X, 301, .inl f_o_laid_instances)), (a_o_laid_premiseCounts, .inl (fx_cI X, 301, .inl f_o_laid_premiseCounts)), (a_o_laid_premises, .inl (fx_cI X, 903, .inl f_o_laid_premises)), (a_o_stated, .inr (3, [.ref a_o_stated_kinds, .ref a_o_stated_numbers, .int s_o_stated_count])), (a_o_stated_kinds, .inl (fx_cI X, 301, .inl f_o_stated_kinds)), (a_o_stated_numbers, .inl (fx_cI X, 903, .inl f_o_stated_numbers)), (a_o_needed, .inl (fx_cZ X, 301, .inl f_o_needed)), (a_o_reckoned, .inl (fx_cI X, 301, .inl f_o_reckoned))] sz) := by
  refine Met.ofW (cc := cX5_drop) (maxL := 4) (ret := (some .int)) (by decide) rfl ?_
  intro p e s m args below meth c s₁ B hml hv
  obtain ⟨rfl, hsz, hP, hK, hD0, hG⟩ := hv
  have hx := B.exec
  have hb := B.bytes
  have hr := B.returns
  have hts := atoms_spec (ws := wsX5_drop) B.pre
  have hown : s.vm.findClass RX5 = some m.cls := findClass_of_methodNamed B.named
  have hlocks := B.notSynchronized
  subst hsz
  have hD := hD0.self (sz := s.heap.size)
  generalize hAe : va_A [(a_o, .inr (4, [.ref a_o_axioms, .ref a_o_triples, .ref a_o_laid, .ref a_o_stated, .ref a_o_letters, .ref a_o_told, .ref a_o_needed, .ref a_o_reckoned, .int s_o_broken])), (a_o_laid, .inr (2, [.ref a_o_laid_ruleNumbers, .ref a_o_laid_instances, .ref a_o_laid_premiseCounts, .ref a_o_laid_premises, .int s_o_laid_last])), (a_o_laid_ruleNumbers, .inl (fx_cI X, 301, .inl f_o_laid_ruleNumbers)), (a_o_laid_instances, .inl (fx_cI X, 301, .inl f_o_laid_instances)), (a_o_laid_premiseCounts, .inl (fx_cI X, 301, .inl f_o_laid_premiseCounts)), (a_o_laid_premises, .inl (fx_cI X, 903, .inl f_o_laid_premises)), (a_o_stated, .inr (3, [.ref a_o_stated_kinds, .ref a_o_stated_numbers, .int s_o_stated_count])), (a_o_stated_kinds, .inl (fx_cI X, 301, .inl f_o_stated_kinds)), (a_o_stated_numbers, .inl (fx_cI X, 903, .inl f_o_stated_numbers)), (a_o_needed, .inl (fx_cZ X, 301, .inl f_o_needed)), (a_o_reckoned, .inl (fx_cI X, 301, .inl f_o_reckoned))] s.heap.size = A at hD hG ⊢
  have hA : ∀ q : Nat, s.heap.size ≤ q → A q := fun q h => by rw [← hAe]; exact Or.inr h
  have hS : va_S A s.heap s.heap [] := va_S.rf
  have k53 := hts (.fieldLink RX5 53 "ProofChecker" "broken" "I") (by decide +kernel)
  have k24 := hts (.fieldLink RX5 24 "ProofChecker" "laid" "LProofChecker$Rows;") (by decide +kernel)
  have k28 := hts (.fieldLink RX5 28 "ProofChecker" "stated" "LProofChecker$Statements;") (by decide +kernel)
  have k49 := hts (.fieldLink RX5 49 "ProofChecker" "reckoned" "[I") (by decide +kernel)
  have k45 := hts (.fieldLink RX5 45 "ProofChecker" "needed" "[Z") (by decide +kernel)
  have hl := lv_entry ([.ref a_o, .int p1]) (n := 4) (Nat.le_of_ble_eq_true rfl)
  rw [lg_entry_eq]
  generalize (lg_sl ([.ref a_o, .int p1]) ++ List.replicate (4 - (lg_sl ([.ref a_o, .int p1])).length) Slot.unset).toArray = ls at hl ⊢
  have hl : lv_has ls 4 [(0, .ref a_o), (1, .int p1)] := hl
  unfold wp_X5_drop at h
  refine lv_aload_n hx hb dX5_drop_0 rfl (lv_at hl 0 rfl) ?_
  refine va_get (D := fx_D X) (ci := 4) (v := .ref a_o_laid) (C := RX5) (T := TX5) (N := 9) hx hb hts im_X5_drop_X5 hown hK hP 0 rfl rfl 2 (by decide) k24 (fun _ h9 => h9) rfl dX5_drop_1 ?_
  refine lv_iload_n hx hb dX5_drop_4 rfl (lv_at hl 1 rfl) ?_
  refine vp_callSi (W.runV (As := [.int p1]) (rest := []) ⟨hx, hb, hml, hown, hts⟩ (cw_X2_has l X a_o_laid a_o_laid_ruleNumbers a_o_laid_instances a_o_laid_premiseCounts a_o_laid_premises s_o_laid_last p1 _ h) (cwV 1 hts gX5_drop_X2_has rfl rfl rfl (by decide +kernel) ⟨Nat.le_of_ble_eq_true rfl, Nat.le_of_ble_eq_true rfl⟩) (fx_pv hP hK hG hS (va_recv hK hP (ci := 2) (q0 := 1) rfl rfl) [1] rfl) rfl rfl hl.1 rfl (lv_room (Nat.le_of_ble_eq_true rfl)) dX5_drop_5 ⟨Nat.le_of_ble_eq_true rfl, Nat.le_of_ble_eq_true rfl⟩) (fun r1 h => ?_)
  refine fx_if_ne (tgt := 13) hx hb h dX5_drop_8 (by decide) (fun h => ?_) (fun h => ?_)
  · refine lv_aload_n hx hb dX5_drop_13 rfl (lv_at hl 0 rfl) ?_
    refine lv_iload_n hx hb dX5_drop_14 rfl (lv_at hl 1 rfl) ?_
    have hFc := va_free (wc := [(a_o, .inr (4, [.ref a_o_axioms, .ref a_o_triples, .ref a_o_laid, .ref a_o_stated, .ref a_o_letters, .ref a_o_told, .ref a_o_needed, .ref a_o_reckoned, .int s_o_broken])), (a_o_laid, .inr (2, [.ref a_o_laid_ruleNumbers, .ref a_o_laid_instances, .ref a_o_laid_premiseCounts, .ref a_o_laid_premises, .int s_o_laid_last])), (a_o_laid_premiseCounts, .inl (fx_cI X, 301, .inl f_o_laid_premiseCounts)), (a_o_laid_premises, .inl (fx_cI X, 903, .inl f_o_laid_premises)), (a_o_needed, .inl (fx_cZ X, 301, .inl f_o_needed))]) hD hS hA [0, 1, 4, 5, 9] rfl
    refine va_callv (va_runV (As := [.int p1]) (rest := []) ⟨hx, hb, hml, hown, hts⟩ (cw_X5_markProof l X a_o a_o_axioms a_o_triples a_o_laid a_o_stated a_o_letters a_o_told a_o_needed a_o_reckoned a_o_laid_ruleNumbers a_o_laid_instances a_o_laid_premiseCounts a_o_laid_premises s_o_broken s_o_laid_last f_o_laid_premiseCounts f_o_laid_premises f_o_needed _ p1 _ h) (cwV 1 hts gX5_drop_X5_markProof rfl rfl rfl (by decide +kernel) ⟨Nat.le_of_ble_eq_true rfl, Nat.le_of_ble_eq_true rfl⟩) (fx_pvW hP hD hK hG hS hFc (va_recv hK hP (ci := 4) (q0 := 0) rfl rfl) [0, 1, 4, 5, 9] (by decide) rfl) rfl rfl hl.1 rfl (lv_room (Nat.le_of_ble_eq_true rfl)) dX5_drop_15 ⟨Nat.le_of_ble_eq_true rfl, Nat.le_of_ble_eq_true rfl⟩) hS (fun q _ h => hFc q h) hFc (fun u t H locs ht hvm h hB _ hk hS => ?_)
    obtain ⟨y2, rfl⟩ : ∃ z, z = u := ⟨_, rfl⟩
    obtain ⟨hP, hD⟩ := fx_back (wr := [(a_o_laid_ruleNumbers, .inl (fx_cI X, 301, .inl f_o_laid_ruleNumbers)), (a_o_laid_instances, .inl (fx_cI X, 301, .inl f_o_laid_instances)), (a_o_stated, .inr (3, [.ref a_o_stated_kinds, .ref a_o_stated_numbers, .int s_o_stated_count])), (a_o_stated_kinds, .inl (fx_cI X, 301, .inl f_o_stated_kinds)), (a_o_stated_numbers, .inl (fx_cI X, 903, .inl f_o_stated_numbers)), (a_o_reckoned, .inl (fx_cI X, 301, .inl f_o_reckoned))]) (ws' := [(a_o, .inr (4, [.ref a_o_axioms, .ref a_o_triples, .ref a_o_laid, .ref a_o_stated, .ref a_o_letters, .ref a_o_told, .ref a_o_needed, .ref a_o_reckoned, .int s_o_broken])), (a_o_laid, .inr (2, [.ref a_o_laid_ruleNumbers, .ref a_o_laid_instances, .ref a_o_laid_premiseCounts, .ref a_o_laid_premises, .int s_o_laid_last])), (a_o_laid_ruleNumbers, .inl (fx_cI X, 301, .inl f_o_laid_ruleNumbers)), (a_o_laid_instances, .inl (fx_cI X, 301, .inl f_o_laid_instances)), (a_o_laid_premiseCounts, .inl (fx_cI X, 301, .inl f_o_laid_premiseCounts)), (a_o_laid_premises, .inl (fx_cI X, 903, .inl f_o_laid_premises)), (a_o_stated, .inr (3, [.ref a_o_stated_kinds, .ref a_o_stated_numbers, .int s_o_stated_count])), (a_o_stated_kinds, .inl (fx_cI X, 301, .inl f_o_stated_kinds)), (a_o_stated_numbers, .inl (fx_cI X, 903, .inl f_o_stated_numbers)), (a_o_needed, .inl (fx_cZ X, 301, .inl y2)), (a_o_reckoned, .inl (fx_cI X, 301, .inl f_o_reckoned))]) hP hD [0, 1, 4, 5, 9] [2, 3, 6, 7, 8, 10] rfl rfl (by decide) (by decide) hk hFc hB ht [6, 7, 0, 1, 8, 9, 2, 3, 4, 10, 5] (by decide) rfl
    refine lv_iconst (v := (nI 0)) hx hb dX5_drop_18 (by decide) ?_
    refine lv_istore_n (lv' := [(2, .int (nI 0)), (0, .ref a_o), (1, .int p1)]) hx hb dX5_drop_19 rfl hl (by decide) rfl (fun ls hl => ?_)
    refine lv_iconst (v := (nI 1)) hx hb dX5_drop_20 (by decide) ?_
    refine lv_istore_n (lv' := [(3, .int (nI 1)), (2, .int (nI 0)), (0, .ref a_o), (1, .int p1)]) hx hb dX5_drop_21 rfl hl (by decide) rfl (fun ls hl => ?_)
    refine fx_loop9 (G := fun (x3 : Int32) (x4 : Int32) (y5 : Nat → Int32) (y6 : Nat → Int32) (y7 : Nat → Int32) (y8 : Nat → Int32) (y9 : Nat → Int32) (y10 : Nat → Int32) (y11 : Nat → Int32) => ∀ (H : Heap) (locs : List Loc) (ls : Array Slot), va_P (fx_D X) vwCl [(a_o, .inr (4, [.ref a_o_axioms, .ref a_o_triples, .ref a_o_laid, .ref a_o_stated, .ref a_o_letters, .ref a_o_told, .ref a_o_needed, .ref a_o_reckoned, .int s_o_broken])), (a_o_laid, .inr (2, [.ref a_o_laid_ruleNumbers, .ref a_o_laid_instances, .ref a_o_laid_premiseCounts, .ref a_o_laid_premises, .int s_o_laid_last])), (a_o_laid_ruleNumbers, .inl (fx_cI X, 301, .inl y5)), (a_o_laid_instances, .inl (fx_cI X, 301, .inl y6)), (a_o_laid_premiseCounts, .inl (fx_cI X, 301, .inl y7)), (a_o_laid_premises, .inl (fx_cI X, 903, .inl y8)), (a_o_stated, .inr (3, [.ref a_o_stated_kinds, .ref a_o_stated_numbers, .int s_o_stated_count])), (a_o_stated_kinds, .inl (fx_cI X, 301, .inl y9)), (a_o_stated_numbers, .inl (fx_cI X, 903, .inl y10)), (a_o_needed, .inl (fx_cZ X, 301, .inl y2)), (a_o_reckoned, .inl (fx_cI X, 301, .inl y11))] H → va_D A [(a_o, .inr (4, [.ref a_o_axioms, .ref a_o_triples, .ref a_o_laid, .ref a_o_stated, .ref a_o_letters, .ref a_o_told, .ref a_o_needed, .ref a_o_reckoned, .int s_o_broken])), (a_o_laid, .inr (2, [.ref a_o_laid_ruleNumbers, .ref a_o_laid_instances, .ref a_o_laid_premiseCounts, .ref a_o_laid_premises, .int s_o_laid_last])), (a_o_laid_ruleNumbers, .inl (fx_cI X, 301, .inl y5)), (a_o_laid_instances, .inl (fx_cI X, 301, .inl y6)), (a_o_laid_premiseCounts, .inl (fx_cI X, 301, .inl y7)), (a_o_laid_premises, .inl (fx_cI X, 903, .inl y8)), (a_o_stated, .inr (3, [.ref a_o_stated_kinds, .ref a_o_stated_numbers, .int s_o_stated_count])), (a_o_stated_kinds, .inl (fx_cI X, 301, .inl y9)), (a_o_stated_numbers, .inl (fx_cI X, 903, .inl y10)), (a_o_needed, .inl (fx_cZ X, 301, .inl y2)), (a_o_reckoned, .inl (fx_cI X, 301, .inl y11))] → va_S A s.heap H locs → lv_has ls 4 [(3, .int x3), (2, .int x4), (0, .ref a_o), (1, .int p1)] → W p l e _ s m _ below meth c H locs _ _ _ (F0 m 22 ls [])) (fun rec12 hrec12 x3 x4 y5 y6 y7 y8 y9 y10 y11 h => ?_) h _ _ _ hP hD hS (lv_sub hl [0, 1, 2, 3] rfl)
    intro H locs ls hP hD hS hl
    refine lv_iload_n hx hb dX5_drop_22 rfl (lv_at hl 0 rfl) ?_
    refine lv_iload_n hx hb dX5_drop_23 rfl (lv_at hl 3 rfl) ?_
    refine fx_icmp_gt (tgt := 78) hx hb h dX5_drop_24 (by decide) (fun h => ?_) (fun h => ?_)
    · refine lv_aload_n hx hb dX5_drop_78 rfl (lv_at hl 2 rfl) ?_
      refine va_get (D := fx_D X) (ci := 4) (v := .ref a_o_laid) (C := RX5) (T := TX5) (N := 9) hx hb hts im_X5_drop_X5 hown hK hP 0 rfl rfl 2 (by decide) k24 (fun _ h9 => h9) rfl dX5_drop_79 ?_
      refine lv_iload_n hx hb dX5_drop_82 rfl (lv_at hl 1 rfl) ?_
      have hFc := va_free (wc := [(a_o_laid, .inr (2, [.ref a_o_laid_ruleNumbers, .ref a_o_laid_instances, .ref a_o_laid_premiseCounts, .ref a_o_laid_premises, .int s_o_laid_last]))]) hD hS hA [1] rfl
      refine va_callv (va_runV (As := [.int x4]) (rest := []) ⟨hx, hb, hml, hown, hts⟩ (cw_X2_keepOnly l X a_o_laid a_o_laid_ruleNumbers a_o_laid_instances a_o_laid_premiseCounts a_o_laid_premises s_o_laid_last _ x4 _ h) (cwV 1 hts gX5_drop_X2_keepOnly rfl rfl rfl (by decide +kernel) ⟨Nat.le_of_ble_eq_true rfl, Nat.le_of_ble_eq_true rfl⟩) (fx_pvW hP hD hK hG hS hFc (va_recv hK hP (ci := 2) (q0 := 1) rfl rfl) [1] (by decide) rfl) rfl rfl hl.1 rfl (lv_room (Nat.le_of_ble_eq_true rfl)) dX5_drop_83 ⟨Nat.le_of_ble_eq_true rfl, Nat.le_of_ble_eq_true rfl⟩) hS (fun q _ h => hFc q h) hFc (fun u t H locs ht hvm h hB _ hk hS => ?_)
      obtain ⟨y13, rfl⟩ : ∃ z, z = u := ⟨_, rfl⟩
      obtain ⟨hP, hD⟩ := fx_back (wr := [(a_o, .inr (4, [.ref a_o_axioms, .ref a_o_triples, .ref a_o_laid, .ref a_o_stated, .ref a_o_letters, .ref a_o_told, .ref a_o_needed, .ref a_o_reckoned, .int s_o_broken])), (a_o_laid_ruleNumbers, .inl (fx_cI X, 301, .inl y5)), (a_o_laid_instances, .inl (fx_cI X, 301, .inl y6)), (a_o_laid_premiseCounts, .inl (fx_cI X, 301, .inl y7)), (a_o_laid_premises, .inl (fx_cI X, 903, .inl y8)), (a_o_stated, .inr (3, [.ref a_o_stated_kinds, .ref a_o_stated_numbers, .int s_o_stated_count])), (a_o_stated_kinds, .inl (fx_cI X, 301, .inl y9)), (a_o_stated_numbers, .inl (fx_cI X, 903, .inl y10)), (a_o_needed, .inl (fx_cZ X, 301, .inl y2)), (a_o_reckoned, .inl (fx_cI X, 301, .inl y11))]) (ws' := [(a_o, .inr (4, [.ref a_o_axioms, .ref a_o_triples, .ref a_o_laid, .ref a_o_stated, .ref a_o_letters, .ref a_o_told, .ref a_o_needed, .ref a_o_reckoned, .int s_o_broken])), (a_o_laid, .inr (2, [.ref a_o_laid_ruleNumbers, .ref a_o_laid_instances, .ref a_o_laid_premiseCounts, .ref a_o_laid_premises, .int y13])), (a_o_laid_ruleNumbers, .inl (fx_cI X, 301, .inl y5)), (a_o_laid_instances, .inl (fx_cI X, 301, .inl y6)), (a_o_laid_premiseCounts, .inl (fx_cI X, 301, .inl y7)), (a_o_laid_premises, .inl (fx_cI X, 903, .inl y8)), (a_o_stated, .inr (3, [.ref a_o_stated_kinds, .ref a_o_stated_numbers, .int s_o_stated_count])), (a_o_stated_kinds, .inl (fx_cI X, 301, .inl y9)), (a_o_stated_numbers, .inl (fx_cI X, 903, .inl y10)), (a_o_needed, .inl (fx_cZ X, 301, .inl y2)), (a_o_reckoned, .inl (fx_cI X, 301, .inl y11))]) hP hD [1] [0, 2, 3, 4, 5, 6, 7, 8, 9, 10] rfl rfl (by decide) (by decide) hk hFc hB ht [0, 10, 1, 2, 3, 4, 5, 6, 7, 8, 9] (by decide) rfl
      refine lv_aload_n hx hb dX5_drop_86 rfl (lv_at hl 2 rfl) ?_
      refine lv_iconst (v := (nI 0)) hx hb dX5_drop_87 (by decide) ?_
      refine va_put (D := fx_D X) (ci := 4) (v := .int (nI 0)) (ty := .int) (C := RX5) (T := TX5) (N := 9) hx hb hts im_X5_drop_X5 tyX5 tyX5_ok nmX5 hown hK hP hD hS 0 rfl rfl 8 (by decide) k53 (fun _ h9 => h9) rfl (by decide +kernel) rfl rfl (Nat.le_of_ble_eq_true rfl) dX5_drop_88 (fun H locs hP hD hS => ?_)
      have hP : va_P (fx_D X) vwCl [(a_o, .inr (4, [.ref a_o_axioms, .ref a_o_triples, .ref a_o_laid, .ref a_o_stated, .ref a_o_letters, .ref a_o_told, .ref a_o_needed, .ref a_o_reckoned, .int (nI 0)])), (a_o_laid, .inr (2, [.ref a_o_laid_ruleNumbers, .ref a_o_laid_instances, .ref a_o_laid_premiseCounts, .ref a_o_laid_premises, .int y13])), (a_o_laid_ruleNumbers, .inl (fx_cI X, 301, .inl y5)), (a_o_laid_instances, .inl (fx_cI X, 301, .inl y6)), (a_o_laid_premiseCounts, .inl (fx_cI X, 301, .inl y7)), (a_o_laid_premises, .inl (fx_cI X, 903, .inl y8)), (a_o_stated, .inr (3, [.ref a_o_stated_kinds, .ref a_o_stated_numbers, .int s_o_stated_count])), (a_o_stated_kinds, .inl (fx_cI X, 301, .inl y9)), (a_o_stated_numbers, .inl (fx_cI X, 903, .inl y10)), (a_o_needed, .inl (fx_cZ X, 301, .inl y2)), (a_o_reckoned, .inl (fx_cI X, 301, .inl y11))] H := hP
      have hD : va_D A [(a_o, .inr (4, [.ref a_o_axioms, .ref a_o_triples, .ref a_o_laid, .ref a_o_stated, .ref a_o_letters, .ref a_o_told, .ref a_o_needed, .ref a_o_reckoned, .int (nI 0)])), (a_o_laid, .inr (2, [.ref a_o_laid_ruleNumbers, .ref a_o_laid_instances, .ref a_o_laid_premiseCounts, .ref a_o_laid_premises, .int y13])), (a_o_laid_ruleNumbers, .inl (fx_cI X, 301, .inl y5)), (a_o_laid_instances, .inl (fx_cI X, 301, .inl y6)), (a_o_laid_premiseCounts, .inl (fx_cI X, 301, .inl y7)), (a_o_laid_premises, .inl (fx_cI X, 903, .inl y8)), (a_o_stated, .inr (3, [.ref a_o_stated_kinds, .ref a_o_stated_numbers, .int s_o_stated_count])), (a_o_stated_kinds, .inl (fx_cI X, 301, .inl y9)), (a_o_stated_numbers, .inl (fx_cI X, 903, .inl y10)), (a_o_needed, .inl (fx_cZ X, 301, .inl y2)), (a_o_reckoned, .inl (fx_cI X, 301, .inl y11))] := hD
      refine lv_iload_n hx hb dX5_drop_91 rfl (lv_at hl 1 rfl) ?_
      exact W.iret (v := x4) hx hb hr  (fun t ht hW => ⟨⟨x4, ((nI 0), y13, y5, y6, y7, y8, y9, y10, y2, y11), rfl, h, by rw [ht]; exact hP, va_K.moved hW.alike hK, hD⟩, hS.F ht⟩) hS.2.2 dX5_drop_92
    refine lv_aload_n hx hb dX5_drop_27 rfl (lv_at hl 2 rfl) ?_
    refine va_get (D := fx_D X) (ci := 4) (v := .ref a_o_needed) (C := RX5) (T := TX5) (N := 9) hx hb hts im_X5_drop_X5 hown hK hP 0 rfl rfl 6 (by decide) k45 (fun _ h9 => h9) rfl dX5_drop_28 ?_
    refine lv_iload_n hx hb dX5_drop_31 rfl (lv_at hl 0 rfl) ?_
    refine fx_zald hx hb hK hP 9 2 rfl rfl h dX5_drop_32 (fun v14 h => ?_)
    refine fx_if_eq (tgt := 72) hx hb h dX5_drop_33 (by decide) (fun h => ?_) (fun h => ?_)
    · refine fx_iinc (y := (nI 1)) hx hb h dX5_drop_72 (by decide) (fun v16 => [(3, .int v16), (2, .int x4), (0, .ref a_o), (1, .int p1)]) hl 0 rfl (by decide) (fun _ => rfl) (fun v16 ls h hl => ?_)
      refine lv_goto (tgt := 22) hx hb dX5_drop_75 (by decide) ?_
      exact hrec12 _ _ _ _ _ _ _ _ _ h _ _ _ hP hD hS (lv_sub hl [0, 1, 2, 3] rfl)
    refine fx_iinc (y := (nI 1)) hx hb h dX5_drop_36 (by decide) (fun v17 => [(2, .int v17), (3, .int x3), (0, .ref a_o), (1, .int p1)]) hl 1 rfl (by decide) (fun _ => rfl) (fun v17 ls h hl => ?_)
    refine lv_aload_n hx hb dX5_drop_39 rfl (lv_at hl 2 rfl) ?_
    refine va_get (D := fx_D X) (ci := 4) (v := .ref a_o_reckoned) (C := RX5) (T := TX5) (N := 9) hx hb hts im_X5_drop_X5 hown hK hP 0 rfl rfl 7 (by decide) k49 (fun _ h9 => h9) rfl dX5_drop_40 ?_
    refine lv_iload_n hx hb dX5_drop_43 rfl (lv_at hl 1 rfl) ?_
    refine lv_iload_n hx hb dX5_drop_44 rfl (lv_at hl 0 rfl) ?_
    refine fx_iast hx hb hK hP hD hS 10 0 rfl rfl h dX5_drop_45 (fun g18 => [(a_o, .inr (4, [.ref a_o_axioms, .ref a_o_triples, .ref a_o_laid, .ref a_o_stated, .ref a_o_letters, .ref a_o_told, .ref a_o_needed, .ref a_o_reckoned, .int s_o_broken])), (a_o_laid, .inr (2, [.ref a_o_laid_ruleNumbers, .ref a_o_laid_instances, .ref a_o_laid_premiseCounts, .ref a_o_laid_premises, .int s_o_laid_last])), (a_o_laid_ruleNumbers, .inl (fx_cI X, 301, .inl y5)), (a_o_laid_instances, .inl (fx_cI X, 301, .inl y6)), (a_o_laid_premiseCounts, .inl (fx_cI X, 301, .inl y7)), (a_o_laid_premises, .inl (fx_cI X, 903, .inl y8)), (a_o_stated, .inr (3, [.ref a_o_stated_kinds, .ref a_o_stated_numbers, .int s_o_stated_count])), (a_o_stated_kinds, .inl (fx_cI X, 301, .inl y9)), (a_o_stated_numbers, .inl (fx_cI X, 903, .inl y10)), (a_o_needed, .inl (fx_cZ X, 301, .inl y2)), (a_o_reckoned, .inl (fx_cI X, 301, .inl g18))]) (fun _ => rfl) (fun H locs g18 h hP hD hS => ?_)
    refine lv_aload_n hx hb dX5_drop_46 rfl (lv_at hl 2 rfl) ?_
    refine va_get (D := fx_D X) (ci := 4) (v := .ref a_o_laid) (C := RX5) (T := TX5) (N := 9) hx hb hts im_X5_drop_X5 hown hK hP 0 rfl rfl 2 (by decide) k24 (fun _ h9 => h9) rfl dX5_drop_47 ?_
    refine lv_iload_n hx hb dX5_drop_50 rfl (lv_at hl 1 rfl) ?_
    refine lv_iload_n hx hb dX5_drop_51 rfl (lv_at hl 0 rfl) ?_
    refine lv_aload_n hx hb dX5_drop_52 rfl (lv_at hl 2 rfl) ?_
    refine va_get (D := fx_D X) (ci := 4) (v := .ref a_o_reckoned) (C := RX5) (T := TX5) (N := 9) hx hb hts im_X5_drop_X5 hown hK hP 0 rfl rfl 7 (by decide) k49 (fun _ h9 => h9) rfl dX5_drop_53 ?_
    have hFc := va_free (wc := [(a_o_laid, .inr (2, [.ref a_o_laid_ruleNumbers, .ref a_o_laid_instances, .ref a_o_laid_premiseCounts, .ref a_o_laid_premises, .int s_o_laid_last])), (a_o_laid_ruleNumbers, .inl (fx_cI X, 301, .inl y5)), (a_o_laid_instances, .inl (fx_cI X, 301, .inl y6)), (a_o_laid_premiseCounts, .inl (fx_cI X, 301, .inl y7)), (a_o_laid_premises, .inl (fx_cI X, 903, .inl y8)), (a_o_reckoned, .inl (fx_cI X, 301, .inl g18))]) hD hS hA [1, 2, 3, 4, 5, 10] rfl
    refine va_callv (va_runV (As := [.int x3, .int v17, .ref a_o_reckoned]) (rest := []) ⟨hx, hb, hml, hown, hts⟩ (cw_X2_move l X a_o_laid a_o_laid_ruleNumbers a_o_laid_instances a_o_laid_premiseCounts a_o_laid_premises a_o_reckoned 301 s_o_laid_last y5 y6 y7 y8 g18 _ x3 v17 _ h) (cwV 3 hts gX5_drop_X2_move rfl rfl rfl (by decide +kernel) ⟨Nat.le_of_ble_eq_true rfl, Nat.le_of_ble_eq_true rfl⟩) (fx_pvW hP hD hK hG hS hFc (va_recv hK hP (ci := 2) (q0 := 1) rfl rfl) [1, 2, 3, 4, 5, 10] (by decide) rfl) rfl rfl hl.1 rfl (lv_room (Nat.le_of_ble_eq_true rfl)) dX5_drop_56 ⟨Nat.le_of_ble_eq_true rfl, Nat.le_of_ble_eq_true rfl⟩) hS (fun q _ h => hFc q h) hFc (fun u t H locs ht hvm h hB _ hk hS => ?_)
    obtain ⟨y19, y20, y21, y22⟩ := u
    dsimp only at h
    obtain ⟨hP, hD⟩ := fx_back (wr := [(a_o, .inr (4, [.ref a_o_axioms, .ref a_o_triples, .ref a_o_laid, .ref a_o_stated, .ref a_o_letters, .ref a_o_told, .ref a_o_needed, .ref a_o_reckoned, .int s_o_broken])), (a_o_stated, .inr (3, [.ref a_o_stated_kinds, .ref a_o_stated_numbers, .int s_o_stated_count])), (a_o_stated_kinds, .inl (fx_cI X, 301, .inl y9)), (a_o_stated_numbers, .inl (fx_cI X, 903, .inl y10)), (a_o_needed, .inl (fx_cZ X, 301, .inl y2))]) (ws' := [(a_o, .inr (4, [.ref a_o_axioms, .ref a_o_triples, .ref a_o_laid, .ref a_o_stated, .ref a_o_letters, .ref a_o_told, .ref a_o_needed, .ref a_o_reckoned, .int s_o_broken])), (a_o_laid, .inr (2, [.ref a_o_laid_ruleNumbers, .ref a_o_laid_instances, .ref a_o_laid_premiseCounts, .ref a_o_laid_premises, .int s_o_laid_last])), (a_o_laid_ruleNumbers, .inl (fx_cI X, 301, .inl y19)), (a_o_laid_instances, .inl (fx_cI X, 301, .inl y20)), (a_o_laid_premiseCounts, .inl (fx_cI X, 301, .inl y21)), (a_o_laid_premises, .inl (fx_cI X, 903, .inl y22)), (a_o_stated, .inr (3, [.ref a_o_stated_kinds, .ref a_o_stated_numbers, .int s_o_stated_count])), (a_o_stated_kinds, .inl (fx_cI X, 301, .inl y9)), (a_o_stated_numbers, .inl (fx_cI X, 903, .inl y10)), (a_o_needed, .inl (fx_cZ X, 301, .inl y2)), (a_o_reckoned, .inl (fx_cI X, 301, .inl g18))]) hP hD [1, 2, 3, 4, 5, 10] [0, 6, 7, 8, 9] rfl rfl (by decide) (by decide) hk hFc hB ht [0, 5, 6, 7, 8, 9, 1, 2, 3, 4, 10] (by decide) rfl
    refine lv_aload_n hx hb dX5_drop_59 rfl (lv_at hl 2 rfl) ?_
    refine va_get (D := fx_D X) (ci := 4) (v := .ref a_o_stated) (C := RX5) (T := TX5) (N := 9) hx hb hts im_X5_drop_X5 hown hK hP 0 rfl rfl 3 (by decide) k28 (fun _ h9 => h9) rfl dX5_drop_60 ?_
    refine lv_iload_n hx hb dX5_drop_63 rfl (lv_at hl 0 rfl) ?_
    refine lv_aload_n hx hb dX5_drop_64 rfl (lv_at hl 2 rfl) ?_
    refine va_get (D := fx_D X) (ci := 4) (v := .ref a_o_stated) (C := RX5) (T := TX5) (N := 9) hx hb hts im_X5_drop_X5 hown hK hP 0 rfl rfl 3 (by decide) k28 (fun _ h9 => h9) rfl dX5_drop_65 ?_
    refine lv_iload_n hx hb dX5_drop_68 rfl (lv_at hl 1 rfl) ?_
    have hFc := va_free (wc := [(a_o_stated, .inr (3, [.ref a_o_stated_kinds, .ref a_o_stated_numbers, .int s_o_stated_count])), (a_o_stated_kinds, .inl (fx_cI X, 301, .inl y9)), (a_o_stated_numbers, .inl (fx_cI X, 903, .inl y10))]) hD hS hA [6, 7, 8] rfl
    refine va_callv (va_runV (As := [.int v17, .ref a_o_stated, .int x3]) (rest := []) ⟨hx, hb, hml, hown, hts⟩ (cw_X4_put_s l X a_o_stated a_o_stated_kinds a_o_stated_numbers 301 903 s_o_stated_count y9 y10 _ v17 x3 _ h) (cwV 3 hts gX5_drop_X4_put rfl rfl rfl (by decide +kernel) ⟨Nat.le_of_ble_eq_true rfl, Nat.le_of_ble_eq_true rfl⟩) (fx_pvW hP hD hK hG hS hFc (va_recv hK hP (ci := 3) (q0 := 6) rfl rfl) [6, 7, 8] (by decide) rfl) rfl rfl hl.1 rfl (lv_room (Nat.le_of_ble_eq_true rfl)) dX5_drop_69 ⟨Nat.le_of_ble_eq_true rfl, Nat.le_of_ble_eq_true rfl⟩) hS (fun q _ h => hFc q h) hFc (fun u t H locs ht hvm h hB _ hk hS => ?_)
    obtain ⟨y23, y24⟩ := u
    dsimp only at h
    obtain ⟨hP, hD⟩ := fx_back (wr := [(a_o, .inr (4, [.ref a_o_axioms, .ref a_o_triples, .ref a_o_laid, .ref a_o_stated, .ref a_o_letters, .ref a_o_told, .ref a_o_needed, .ref a_o_reckoned, .int s_o_broken])), (a_o_laid, .inr (2, [.ref a_o_laid_ruleNumbers, .ref a_o_laid_instances, .ref a_o_laid_premiseCounts, .ref a_o_laid_premises, .int s_o_laid_last])), (a_o_laid_ruleNumbers, .inl (fx_cI X, 301, .inl y19)), (a_o_laid_instances, .inl (fx_cI X, 301, .inl y20)), (a_o_laid_premiseCounts, .inl (fx_cI X, 301, .inl y21)), (a_o_laid_premises, .inl (fx_cI X, 903, .inl y22)), (a_o_needed, .inl (fx_cZ X, 301, .inl y2)), (a_o_reckoned, .inl (fx_cI X, 301, .inl g18))]) (ws' := [(a_o, .inr (4, [.ref a_o_axioms, .ref a_o_triples, .ref a_o_laid, .ref a_o_stated, .ref a_o_letters, .ref a_o_told, .ref a_o_needed, .ref a_o_reckoned, .int s_o_broken])), (a_o_laid, .inr (2, [.ref a_o_laid_ruleNumbers, .ref a_o_laid_instances, .ref a_o_laid_premiseCounts, .ref a_o_laid_premises, .int s_o_laid_last])), (a_o_laid_ruleNumbers, .inl (fx_cI X, 301, .inl y19)), (a_o_laid_instances, .inl (fx_cI X, 301, .inl y20)), (a_o_laid_premiseCounts, .inl (fx_cI X, 301, .inl y21)), (a_o_laid_premises, .inl (fx_cI X, 903, .inl y22)), (a_o_stated, .inr (3, [.ref a_o_stated_kinds, .ref a_o_stated_numbers, .int s_o_stated_count])), (a_o_stated_kinds, .inl (fx_cI X, 301, .inl y23)), (a_o_stated_numbers, .inl (fx_cI X, 903, .inl y24)), (a_o_needed, .inl (fx_cZ X, 301, .inl y2)), (a_o_reckoned, .inl (fx_cI X, 301, .inl g18))]) hP hD [6, 7, 8] [0, 1, 2, 3, 4, 5, 9, 10] rfl rfl (by decide) (by decide) hk hFc hB ht [0, 1, 2, 3, 4, 5, 8, 9, 10, 6, 7] (by decide) rfl
    refine fx_iinc (y := (nI 1)) hx hb h dX5_drop_72 (by decide) (fun v25 => [(3, .int v25), (2, .int v17), (0, .ref a_o), (1, .int p1)]) hl 1 rfl (by decide) (fun _ => rfl) (fun v25 ls h hl => ?_)
    refine lv_goto (tgt := 22) hx hb dX5_drop_75 (by decide) ?_
    exact hrec12 _ _ _ _ _ _ _ _ _ h _ _ _ hP hD hS (lv_sub hl [0, 1, 2, 3] rfl)
  refine lv_iconst (v := (-1)) hx hb dX5_drop_11 (by decide) ?_
  exact W.iret (v := (-1)) hx hb hr  (fun t ht hW => ⟨⟨(-1), (s_o_broken, s_o_laid_last, f_o_laid_ruleNumbers, f_o_laid_instances, f_o_laid_premiseCounts, f_o_laid_premises, f_o_stated_kinds, f_o_stated_numbers, f_o_needed, f_o_reckoned), rfl, h, by rw [ht]; exact hP, va_K.moved hW.alike hK, hD⟩, hS.F ht⟩) hS.2.2 dX5_drop_12

/-- X5_name: its walk -/
def wp_X5_name (post : Int32 → Prop) (s_o_laid_last : Int32) (f_o_laid_ruleNumbers : Nat → Int32) (p1 : Int32) : Prop :=
  wp_X2_has (fun r1 => fx_br (r1 = 0) (post (-1)) (wp_X2_ruleNumber (fun r2 => post r2) s_o_laid_last f_o_laid_ruleNumbers p1)) s_o_laid_last p1
theorem im_X5_name_X5 : ∀ w ∈ u_ws RX5 TX5 9, w ∈ wsX5_name := by decide +kernel
set_option maxHeartbeats 4000000 in
set_option maxRecDepth 100000 in
theorem cw_X5_name (l : Launch) (X : fx_X) (a_o : Nat) (a_o_axioms : Nat) (a_o_triples : Nat) (a_o_laid : Nat) (a_o_stated : Nat) (a_o_letters : Nat) (a_o_told : Nat) (a_o_needed : Nat) (a_o_reckoned : Nat) (a_o_laid_ruleNumbers : Nat) (a_o_laid_instances : Nat) (a_o_laid_premiseCounts : Nat) (a_o_laid_premises : Nat) (s_o_broken : Int32) (s_o_laid_last : Int32) (f_o_laid_ruleNumbers : Nat → Int32) (p1 : Int32) (post : Int32 → Prop) (h : wp_X5_name post s_o_laid_last f_o_laid_ruleNumbers p1) : Met l yX5_name wsX5_name ({ frames := 2, cells := 0, slots := 0, locals := 42 }) (va_Pc [.ref a_o, .int p1] (fx_PP X [(a_o, .inr (4, [.ref a_o_axioms, .ref a_o_triples, .ref a_o_laid, .ref a_o_stated, .ref a_o_letters, .ref a_o_told, .ref a_o_needed, .ref a_o_reckoned, .int s_o_broken])), (a_o_laid, .inr (2, [.ref a_o_laid_ruleNumbers, .ref a_o_laid_instances, .ref a_o_laid_premiseCounts, .ref a_o_laid_premises, .int s_o_laid_last])), (a_o_laid_ruleNumbers, .inl (fx_cI X, 301, .inl f_o_laid_ruleNumbers))])) (vp_Si post) 0 0 (fun _ => False) := by
  refine Met.ofW (cc := cX5_name) (maxL := 2) (ret := (some .int)) (by decide) rfl ?_
  intro p e s m args below meth c s₁ B hml hv
  obtain ⟨rfl, hP, hK, hG⟩ := hv
  have hx := B.exec
  have hb := B.bytes
  have hr := B.returns
  have hts := atoms_spec (ws := wsX5_name) B.pre
  have hown : s.vm.findClass RX5 = some m.cls := findClass_of_methodNamed B.named
  have hlocks := B.notSynchronized
  have hS : va_S (fun _ => False) s.heap s.heap [] := va_S.rf
  have k24 := hts (.fieldLink RX5 24 "ProofChecker" "laid" "LProofChecker$Rows;") (by decide +kernel)
  have hl := lv_entry ([.ref a_o, .int p1]) (n := 2) (Nat.le_of_ble_eq_true rfl)
  rw [lg_entry_eq]
  generalize (lg_sl ([.ref a_o, .int p1]) ++ List.replicate (2 - (lg_sl ([.ref a_o, .int p1])).length) Slot.unset).toArray = ls at hl ⊢
  have hl : lv_has ls 2 [(0, .ref a_o), (1, .int p1)] := hl
  unfold wp_X5_name at h
  refine lv_aload_n hx hb dX5_name_0 rfl (lv_at hl 0 rfl) ?_
  refine va_get (D := fx_D X) (ci := 4) (v := .ref a_o_laid) (C := RX5) (T := TX5) (N := 9) hx hb hts im_X5_name_X5 hown hK hP 0 rfl rfl 2 (by decide) k24 (fun _ h9 => h9) rfl dX5_name_1 ?_
  refine lv_iload_n hx hb dX5_name_4 rfl (lv_at hl 1 rfl) ?_
  refine vp_callSi (W.runV (As := [.int p1]) (rest := []) ⟨hx, hb, hml, hown, hts⟩ (cw_X2_has l X a_o_laid a_o_laid_ruleNumbers a_o_laid_instances a_o_laid_premiseCounts a_o_laid_premises s_o_laid_last p1 _ h) (cwV 1 hts gX5_name_X2_has rfl rfl rfl (by decide +kernel) ⟨Nat.le_of_ble_eq_true rfl, Nat.le_of_ble_eq_true rfl⟩) (fx_pv hP hK hG hS (va_recv hK hP (ci := 2) (q0 := 1) rfl rfl) [1] rfl) rfl rfl hl.1 rfl (lv_room (Nat.le_of_ble_eq_true rfl)) dX5_name_5 ⟨Nat.le_of_ble_eq_true rfl, Nat.le_of_ble_eq_true rfl⟩) (fun r1 h => ?_)
  refine fx_if_eq (tgt := 22) hx hb h dX5_name_8 (by decide) (fun h => ?_) (fun h => ?_)
  · refine lv_iconst (v := (-1)) hx hb dX5_name_22 (by decide) ?_
    exact W.iret (v := (-1)) hx hb hr  (fun t ht hW => ⟨_, rfl, h, ht⟩) (fun q hq => by cases hq) dX5_name_23
  refine lv_aload_n hx hb dX5_name_11 rfl (lv_at hl 0 rfl) ?_
  refine va_get (D := fx_D X) (ci := 4) (v := .ref a_o_laid) (C := RX5) (T := TX5) (N := 9) hx hb hts im_X5_name_X5 hown hK hP 0 rfl rfl 2 (by decide) k24 (fun _ h9 => h9) rfl dX5_name_12 ?_
  refine lv_iload_n hx hb dX5_name_15 rfl (lv_at hl 1 rfl) ?_
  refine vp_callSi (W.runV (As := [.int p1]) (rest := []) ⟨hx, hb, hml, hown, hts⟩ (cw_X2_ruleNumber l X a_o_laid a_o_laid_ruleNumbers a_o_laid_instances a_o_laid_premiseCounts a_o_laid_premises s_o_laid_last f_o_laid_ruleNumbers p1 _ h) (cwV 1 hts gX5_name_X2_ruleNumber rfl rfl rfl (by decide +kernel) ⟨Nat.le_of_ble_eq_true rfl, Nat.le_of_ble_eq_true rfl⟩) (fx_pv hP hK hG hS (va_recv hK hP (ci := 2) (q0 := 1) rfl rfl) [1, 2] rfl) rfl rfl hl.1 rfl (lv_room (Nat.le_of_ble_eq_true rfl)) dX5_name_16 ⟨Nat.le_of_ble_eq_true rfl, Nat.le_of_ble_eq_true rfl⟩) (fun r2 h => ?_)
  refine lv_goto (tgt := 23) hx hb dX5_name_19 (by decide) ?_
  exact W.iret (v := r2) hx hb hr  (fun t ht hW => ⟨_, rfl, h, ht⟩) (fun q hq => by cases hq) dX5_name_23

/-- X5_states: its walk -/
def wp_X5_states (post : Int32 → Prop) (s_o_laid_last : Int32) (f_o_stated_kinds : Nat → Int32) (f_o_stated_numbers : Nat → Int32) (p1 : Int32) (p2 : Int32) : Prop :=
  wp_X2_has (fun r1 => fx_br (r1 = 0) (post (-1)) (fx_br (p2 < 0) (post (-2)) (fx_br (p2 ≤ (nI 3)) (fx_br (p2 = 0) (wp_X4_kind (fun r3 => post r3) 301 f_o_stated_kinds p1) (wp_X4_number (fun r2 => post r2) 301 903 f_o_stated_numbers p1 p2)) (post (-2))))) s_o_laid_last p1
theorem im_X5_states_X5 : ∀ w ∈ u_ws RX5 TX5 9, w ∈ wsX5_states := by decide +kernel
set_option maxHeartbeats 4000000 in
set_option maxRecDepth 100000 in
theorem cw_X5_states (l : Launch) (X : fx_X) (a_o : Nat) (a_o_axioms : Nat) (a_o_triples : Nat) (a_o_laid : Nat) (a_o_stated : Nat) (a_o_letters : Nat) (a_o_told : Nat) (a_o_needed : Nat) (a_o_reckoned : Nat) (a_o_laid_ruleNumbers : Nat) (a_o_laid_instances : Nat) (a_o_laid_premiseCounts : Nat) (a_o_laid_premises : Nat) (a_o_stated_kinds : Nat) (a_o_stated_numbers : Nat) (s_o_broken : Int32) (s_o_laid_last : Int32) (s_o_stated_count : Int32) (f_o_stated_kinds : Nat → Int32) (f_o_stated_numbers : Nat → Int32) (p1 : Int32) (p2 : Int32) (post : Int32 → Prop) (h : wp_X5_states post s_o_laid_last f_o_stated_kinds f_o_stated_numbers p1 p2) : Met l yX5_states wsX5_states ({ frames := 1, cells := 0, slots := 0, locals := 23 }) (va_Pc [.ref a_o, .int p1, .int p2] (fx_PP X [(a_o, .inr (4, [.ref a_o_axioms, .ref a_o_triples, .ref a_o_laid, .ref a_o_stated, .ref a_o_letters, .ref a_o_told, .ref a_o_needed, .ref a_o_reckoned, .int s_o_broken])), (a_o_laid, .inr (2, [.ref a_o_laid_ruleNumbers, .ref a_o_laid_instances, .ref a_o_laid_premiseCounts, .ref a_o_laid_premises, .int s_o_laid_last])), (a_o_stated, .inr (3, [.ref a_o_stated_kinds, .ref a_o_stated_numbers, .int s_o_stated_count])), (a_o_stated_kinds, .inl (fx_cI X, 301, .inl f_o_stated_kinds)), (a_o_stated_numbers, .inl (fx_cI X, 903, .inl f_o_stated_numbers))])) (vp_Si post) 0 0 (fun _ => False) := by
  refine Met.ofW (cc := cX5_states) (maxL := 3) (ret := (some .int)) (by decide) rfl ?_
  intro p e s m args below meth c s₁ B hml hv
  obtain ⟨rfl, hP, hK, hG⟩ := hv
  have hx := B.exec
  have hb := B.bytes
  have hr := B.returns
  have hts := atoms_spec (ws := wsX5_states) B.pre
  have hown : s.vm.findClass RX5 = some m.cls := findClass_of_methodNamed B.named
  have hlocks := B.notSynchronized
  have hS : va_S (fun _ => False) s.heap s.heap [] := va_S.rf
  have k28 := hts (.fieldLink RX5 28 "ProofChecker" "stated" "LProofChecker$Statements;") (by decide +kernel)
  have k24 := hts (.fieldLink RX5 24 "ProofChecker" "laid" "LProofChecker$Rows;") (by decide +kernel)
  have hl := lv_entry ([.ref a_o, .int p1, .int p2]) (n := 3) (Nat.le_of_ble_eq_true rfl)
  rw [lg_entry_eq]
  generalize (lg_sl ([.ref a_o, .int p1, .int p2]) ++ List.replicate (3 - (lg_sl ([.ref a_o, .int p1, .int p2])).length) Slot.unset).toArray = ls at hl ⊢
  have hl : lv_has ls 3 [(0, .ref a_o), (1, .int p1), (2, .int p2)] := hl
  unfold wp_X5_states at h
  refine lv_aload_n hx hb dX5_states_0 rfl (lv_at hl 0 rfl) ?_
  refine va_get (D := fx_D X) (ci := 4) (v := .ref a_o_laid) (C := RX5) (T := TX5) (N := 9) hx hb hts im_X5_states_X5 hown hK hP 0 rfl rfl 2 (by decide) k24 (fun _ h9 => h9) rfl dX5_states_1 ?_
  refine lv_iload_n hx hb dX5_states_4 rfl (lv_at hl 1 rfl) ?_
  refine vp_callSi (W.runV (As := [.int p1]) (rest := []) ⟨hx, hb, hml, hown, hts⟩ (cw_X2_has l X a_o_laid a_o_laid_ruleNumbers a_o_laid_instances a_o_laid_premiseCounts a_o_laid_premises s_o_laid_last p1 _ h) (cwV 1 hts gX5_states_X2_has rfl rfl rfl (by decide +kernel) ⟨Nat.le_of_ble_eq_true rfl, Nat.le_of_ble_eq_true rfl⟩) (fx_pv hP hK hG hS (va_recv hK hP (ci := 2) (q0 := 1) rfl rfl) [1] rfl) rfl rfl hl.1 rfl (lv_room (Nat.le_of_ble_eq_true rfl)) dX5_states_5 ⟨Nat.le_of_ble_eq_true rfl, Nat.le_of_ble_eq_true rfl⟩) (fun r1 h => ?_)
  refine fx_if_ne (tgt := 13) hx hb h dX5_states_8 (by decide) (fun h => ?_) (fun h => ?_)
  · refine lv_iload_n hx hb dX5_states_13 rfl (lv_at hl 2 rfl) ?_
    refine fx_if_lt (tgt := 22) hx hb h dX5_states_14 (by decide) (fun h => ?_) (fun h => ?_)
    · refine lv_bipush (v := (-2)) hx hb dX5_states_22 (by decide) ?_
      exact W.iret (v := (-2)) hx hb hr  (fun t ht hW => ⟨_, rfl, h, ht⟩) (fun q hq => by cases hq) dX5_states_24
    refine lv_iload_n hx hb dX5_states_17 rfl (lv_at hl 2 rfl) ?_
    refine lv_iconst (v := (nI 3)) hx hb dX5_states_18 (by decide) ?_
    refine fx_icmp_le (tgt := 25) hx hb h dX5_states_19 (by decide) (fun h => ?_) (fun h => ?_)
    · refine lv_iload_n hx hb dX5_states_25 rfl (lv_at hl 2 rfl) ?_
      refine fx_if_ne (tgt := 40) hx hb h dX5_states_26 (by decide) (fun h => ?_) (fun h => ?_)
      · refine lv_aload_n hx hb dX5_states_40 rfl (lv_at hl 0 rfl) ?_
        refine va_get (D := fx_D X) (ci := 4) (v := .ref a_o_stated) (C := RX5) (T := TX5) (N := 9) hx hb hts im_X5_states_X5 hown hK hP 0 rfl rfl 3 (by decide) k28 (fun _ h9 => h9) rfl dX5_states_41 ?_
        refine lv_iload_n hx hb dX5_states_44 rfl (lv_at hl 1 rfl) ?_
        refine lv_iload_n hx hb dX5_states_45 rfl (lv_at hl 2 rfl) ?_
        refine vp_callSi (W.runV (As := [.int p1, .int p2]) (rest := []) ⟨hx, hb, hml, hown, hts⟩ (cw_X4_number l X a_o_stated a_o_stated_kinds a_o_stated_numbers 301 903 s_o_stated_count f_o_stated_kinds f_o_stated_numbers p1 p2 _ h) (cwV 2 hts gX5_states_X4_number rfl rfl rfl (by decide +kernel) ⟨Nat.le_of_ble_eq_true rfl, Nat.le_of_ble_eq_true rfl⟩) (fx_pv hP hK hG hS (va_recv hK hP (ci := 3) (q0 := 2) rfl rfl) [2, 3, 4] rfl) rfl rfl hl.1 rfl (lv_room (Nat.le_of_ble_eq_true rfl)) dX5_states_46 ⟨Nat.le_of_ble_eq_true rfl, Nat.le_of_ble_eq_true rfl⟩) (fun r2 h => ?_)
        exact W.iret (v := r2) hx hb hr  (fun t ht hW => ⟨_, rfl, h, ht⟩) (fun q hq => by cases hq) dX5_states_49
      refine lv_aload_n hx hb dX5_states_29 rfl (lv_at hl 0 rfl) ?_
      refine va_get (D := fx_D X) (ci := 4) (v := .ref a_o_stated) (C := RX5) (T := TX5) (N := 9) hx hb hts im_X5_states_X5 hown hK hP 0 rfl rfl 3 (by decide) k28 (fun _ h9 => h9) rfl dX5_states_30 ?_
      refine lv_iload_n hx hb dX5_states_33 rfl (lv_at hl 1 rfl) ?_
      refine vp_callSi (W.runV (As := [.int p1]) (rest := []) ⟨hx, hb, hml, hown, hts⟩ (cw_X4_kind l X a_o_stated a_o_stated_kinds a_o_stated_numbers 301 s_o_stated_count f_o_stated_kinds p1 _ h) (cwV 1 hts gX5_states_X4_kind rfl rfl rfl (by decide +kernel) ⟨Nat.le_of_ble_eq_true rfl, Nat.le_of_ble_eq_true rfl⟩) (fx_pv hP hK hG hS (va_recv hK hP (ci := 3) (q0 := 2) rfl rfl) [2, 3] rfl) rfl rfl hl.1 rfl (lv_room (Nat.le_of_ble_eq_true rfl)) dX5_states_34 ⟨Nat.le_of_ble_eq_true rfl, Nat.le_of_ble_eq_true rfl⟩) (fun r3 h => ?_)
      refine lv_goto (tgt := 49) hx hb dX5_states_37 (by decide) ?_
      exact W.iret (v := r3) hx hb hr  (fun t ht hW => ⟨_, rfl, h, ht⟩) (fun q hq => by cases hq) dX5_states_49
    refine lv_bipush (v := (-2)) hx hb dX5_states_22 (by decide) ?_
    exact W.iret (v := (-2)) hx hb hr  (fun t ht hW => ⟨_, rfl, h, ht⟩) (fun q hq => by cases hq) dX5_states_24
  refine lv_iconst (v := (-1)) hx hb dX5_states_11 (by decide) ?_
  exact W.iret (v := (-1)) hx hb hr  (fun t ht hW => ⟨_, rfl, h, ht⟩) (fun q hq => by cases hq) dX5_states_12

/-- X5_concludes: its walk -/
def wp_X5_concludes (post : Int32 → Prop) (f_o_triples_kinds : Nat → Int32) (f_o_triples_numbers : Nat → Int32) (s_o_laid_last : Int32) (f_o_stated_kinds : Nat → Int32) (f_o_stated_numbers : Nat → Int32) (p1 : Int32) (p2 : Int32) : Prop :=
  wp_X2_has (fun r1 => fx_br (r1 = 0) (post (nI 0)) (wp_X4_has (fun r2 => fx_br (r2 = 0) (post (nI 0)) (wp_X4_isSame (fun r3 => fx_br (r3 = 0) (post (nI 0)) (post (nI 1))) 301 903 101 303 f_o_stated_kinds f_o_stated_numbers f_o_triples_kinds f_o_triples_numbers p1 p2)) 101 f_o_triples_kinds p2)) s_o_laid_last p1
theorem im_X5_concludes_X5 : ∀ w ∈ u_ws RX5 TX5 9, w ∈ wsX5_concludes := by decide +kernel
set_option maxHeartbeats 4000000 in
set_option maxRecDepth 100000 in
theorem cw_X5_concludes (l : Launch) (X : fx_X) (a_o : Nat) (a_o_axioms : Nat) (a_o_triples : Nat) (a_o_laid : Nat) (a_o_stated : Nat) (a_o_letters : Nat) (a_o_told : Nat) (a_o_needed : Nat) (a_o_reckoned : Nat) (a_o_triples_kinds : Nat) (a_o_triples_numbers : Nat) (a_o_laid_ruleNumbers : Nat) (a_o_laid_instances : Nat) (a_o_laid_premiseCounts : Nat) (a_o_laid_premises : Nat) (a_o_stated_kinds : Nat) (a_o_stated_numbers : Nat) (s_o_broken : Int32) (s_o_triples_count : Int32) (f_o_triples_kinds : Nat → Int32) (f_o_triples_numbers : Nat → Int32) (s_o_laid_last : Int32) (s_o_stated_count : Int32) (f_o_stated_kinds : Nat → Int32) (f_o_stated_numbers : Nat → Int32) (p1 : Int32) (p2 : Int32) (post : Int32 → Prop) (h : wp_X5_concludes post f_o_triples_kinds f_o_triples_numbers s_o_laid_last f_o_stated_kinds f_o_stated_numbers p1 p2) : Met l yX5_concludes wsX5_concludes ({ frames := 3, cells := 0, slots := 0, locals := 71 }) (va_Pc [.ref a_o, .int p1, .int p2] (fx_PP X [(a_o, .inr (4, [.ref a_o_axioms, .ref a_o_triples, .ref a_o_laid, .ref a_o_stated, .ref a_o_letters, .ref a_o_told, .ref a_o_needed, .ref a_o_reckoned, .int s_o_broken])), (a_o_triples, .inr (3, [.ref a_o_triples_kinds, .ref a_o_triples_numbers, .int s_o_triples_count])), (a_o_triples_kinds, .inl (fx_cI X, 101, .inl f_o_triples_kinds)), (a_o_triples_numbers, .inl (fx_cI X, 303, .inl f_o_triples_numbers)), (a_o_laid, .inr (2, [.ref a_o_laid_ruleNumbers, .ref a_o_laid_instances, .ref a_o_laid_premiseCounts, .ref a_o_laid_premises, .int s_o_laid_last])), (a_o_stated, .inr (3, [.ref a_o_stated_kinds, .ref a_o_stated_numbers, .int s_o_stated_count])), (a_o_stated_kinds, .inl (fx_cI X, 301, .inl f_o_stated_kinds)), (a_o_stated_numbers, .inl (fx_cI X, 903, .inl f_o_stated_numbers))])) (vp_Si post) 0 0 (fun _ => False) := by
  refine Met.ofW (cc := cX5_concludes) (maxL := 3) (ret := (some .boolean)) (by decide) rfl ?_
  intro p e s m args below meth c s₁ B hml hv
  obtain ⟨rfl, hP, hK, hG⟩ := hv
  have hx := B.exec
  have hb := B.bytes
  have hr := B.returns
  have hts := atoms_spec (ws := wsX5_concludes) B.pre
  have hown : s.vm.findClass RX5 = some m.cls := findClass_of_methodNamed B.named
  have hlocks := B.notSynchronized
  have hS : va_S (fun _ => False) s.heap s.heap [] := va_S.rf
  have k18 := hts (.fieldLink RX5 18 "ProofChecker" "triples" "LProofChecker$Statements;") (by decide +kernel)
  have k28 := hts (.fieldLink RX5 28 "ProofChecker" "stated" "LProofChecker$Statements;") (by decide +kernel)
  have k24 := hts (.fieldLink RX5 24 "ProofChecker" "laid" "LProofChecker$Rows;") (by decide +kernel)
  have hl := lv_entry ([.ref a_o, .int p1, .int p2]) (n := 3) (Nat.le_of_ble_eq_true rfl)
  rw [lg_entry_eq]
  generalize (lg_sl ([.ref a_o, .int p1, .int p2]) ++ List.replicate (3 - (lg_sl ([.ref a_o, .int p1, .int p2])).length) Slot.unset).toArray = ls at hl ⊢
  have hl : lv_has ls 3 [(0, .ref a_o), (1, .int p1), (2, .int p2)] := hl
  unfold wp_X5_concludes at h
  refine lv_aload_n hx hb dX5_concludes_0 rfl (lv_at hl 0 rfl) ?_
  refine va_get (D := fx_D X) (ci := 4) (v := .ref a_o_laid) (C := RX5) (T := TX5) (N := 9) hx hb hts im_X5_concludes_X5 hown hK hP 0 rfl rfl 2 (by decide) k24 (fun _ h9 => h9) rfl dX5_concludes_1 ?_
  refine lv_iload_n hx hb dX5_concludes_4 rfl (lv_at hl 1 rfl) ?_
  refine vp_callSi (W.runV (As := [.int p1]) (rest := []) ⟨hx, hb, hml, hown, hts⟩ (cw_X2_has l X a_o_laid a_o_laid_ruleNumbers a_o_laid_instances a_o_laid_premiseCounts a_o_laid_premises s_o_laid_last p1 _ h) (cwV 1 hts gX5_concludes_X2_has rfl rfl rfl (by decide +kernel) ⟨Nat.le_of_ble_eq_true rfl, Nat.le_of_ble_eq_true rfl⟩) (fx_pv hP hK hG hS (va_recv hK hP (ci := 2) (q0 := 4) rfl rfl) [4] rfl) rfl rfl hl.1 rfl (lv_room (Nat.le_of_ble_eq_true rfl)) dX5_concludes_5 ⟨Nat.le_of_ble_eq_true rfl, Nat.le_of_ble_eq_true rfl⟩) (fun r1 h => ?_)
  refine fx_if_eq (tgt := 42) hx hb h dX5_concludes_8 (by decide) (fun h => ?_) (fun h => ?_)
  · refine lv_iconst (v := (nI 0)) hx hb dX5_concludes_42 (by decide) ?_
    exact W.zret (v := (nI 0)) hx hb hr rfl (fun t ht hW => ⟨_, rfl, h, ht⟩) (fun q hq => by cases hq) dX5_concludes_43
  refine lv_aload_n hx hb dX5_concludes_11 rfl (lv_at hl 0 rfl) ?_
  refine va_get (D := fx_D X) (ci := 4) (v := .ref a_o_triples) (C := RX5) (T := TX5) (N := 9) hx hb hts im_X5_concludes_X5 hown hK hP 0 rfl rfl 1 (by decide) k18 (fun _ h9 => h9) rfl dX5_concludes_12 ?_
  refine lv_iload_n hx hb dX5_concludes_15 rfl (lv_at hl 2 rfl) ?_
  refine vp_callSi (W.runV (As := [.int p2]) (rest := []) ⟨hx, hb, hml, hown, hts⟩ (cw_X4_has l X a_o_triples a_o_triples_kinds a_o_triples_numbers 101 s_o_triples_count f_o_triples_kinds p2 _ h) (cwV 1 hts gX5_concludes_X4_has rfl rfl rfl (by decide +kernel) ⟨Nat.le_of_ble_eq_true rfl, Nat.le_of_ble_eq_true rfl⟩) (fx_pv hP hK hG hS (va_recv hK hP (ci := 3) (q0 := 1) rfl rfl) [1, 2] rfl) rfl rfl hl.1 rfl (lv_room (Nat.le_of_ble_eq_true rfl)) dX5_concludes_16 ⟨Nat.le_of_ble_eq_true rfl, Nat.le_of_ble_eq_true rfl⟩) (fun r2 h => ?_)
  refine fx_if_eq (tgt := 42) hx hb h dX5_concludes_19 (by decide) (fun h => ?_) (fun h => ?_)
  · refine lv_iconst (v := (nI 0)) hx hb dX5_concludes_42 (by decide) ?_
    exact W.zret (v := (nI 0)) hx hb hr rfl (fun t ht hW => ⟨_, rfl, h, ht⟩) (fun q hq => by cases hq) dX5_concludes_43
  refine lv_aload_n hx hb dX5_concludes_22 rfl (lv_at hl 0 rfl) ?_
  refine va_get (D := fx_D X) (ci := 4) (v := .ref a_o_stated) (C := RX5) (T := TX5) (N := 9) hx hb hts im_X5_concludes_X5 hown hK hP 0 rfl rfl 3 (by decide) k28 (fun _ h9 => h9) rfl dX5_concludes_23 ?_
  refine lv_iload_n hx hb dX5_concludes_26 rfl (lv_at hl 1 rfl) ?_
  refine lv_aload_n hx hb dX5_concludes_27 rfl (lv_at hl 0 rfl) ?_
  refine va_get (D := fx_D X) (ci := 4) (v := .ref a_o_triples) (C := RX5) (T := TX5) (N := 9) hx hb hts im_X5_concludes_X5 hown hK hP 0 rfl rfl 1 (by decide) k18 (fun _ h9 => h9) rfl dX5_concludes_28 ?_
  refine lv_iload_n hx hb dX5_concludes_31 rfl (lv_at hl 2 rfl) ?_
  refine vp_callSi (W.runV (As := [.int p1, .ref a_o_triples, .int p2]) (rest := []) ⟨hx, hb, hml, hown, hts⟩ (cw_X4_isSame l X a_o_stated a_o_stated_kinds a_o_stated_numbers a_o_triples a_o_triples_kinds a_o_triples_numbers 301 903 101 303 s_o_stated_count f_o_stated_kinds f_o_stated_numbers s_o_triples_count f_o_triples_kinds f_o_triples_numbers p1 p2 _ h) (cwV 3 hts gX5_concludes_X4_isSame rfl rfl rfl (by decide +kernel) ⟨Nat.le_of_ble_eq_true rfl, Nat.le_of_ble_eq_true rfl⟩) (fx_pv hP hK hG hS (va_recv hK hP (ci := 3) (q0 := 5) rfl rfl) [5, 6, 7, 1, 2, 3] rfl) rfl rfl hl.1 rfl (lv_room (Nat.le_of_ble_eq_true rfl)) dX5_concludes_32 ⟨Nat.le_of_ble_eq_true rfl, Nat.le_of_ble_eq_true rfl⟩) (fun r3 h => ?_)
  refine fx_if_eq (tgt := 42) hx hb h dX5_concludes_35 (by decide) (fun h => ?_) (fun h => ?_)
  · refine lv_iconst (v := (nI 0)) hx hb dX5_concludes_42 (by decide) ?_
    exact W.zret (v := (nI 0)) hx hb hr rfl (fun t ht hW => ⟨_, rfl, h, ht⟩) (fun q hq => by cases hq) dX5_concludes_43
  refine lv_iconst (v := (nI 1)) hx hb dX5_concludes_38 (by decide) ?_
  refine lv_goto (tgt := 43) hx hb dX5_concludes_39 (by decide) ?_
  exact W.zret (v := (nI 1)) hx hb hr rfl (fun t ht hW => ⟨_, rfl, h, ht⟩) (fun q hq => by cases hq) dX5_concludes_43

/-- X5_wordingFor: its walk -/
def wp_X5_wordingFor (post : Nat → Prop) (f_o_stated_kinds : Nat → Int32) (f_o_stated_numbers : Nat → Int32) (p1 : Int32) : Prop :=
  wp_X4_kind (fun r1 => fx_br (r1 = (nI 11)) (wp_X4_number (fun r5 => fx_br (r5 = 0) (post 1) (fx_br (r1 = (nI 11)) (wp_X4_number (fun r7 => fx_br (r7 = (nI 1)) (post 2) (fx_br (r1 < 0) (fx_lt 0 13 (post (fx_kw.getD 0 0))) (fx_br ((nI 13) ≤ r1) (fx_lt 0 13 (post (fx_kw.getD 0 0))) (fx_ix r1 13 (fun k8 => fx_lt k8 13 (post (fx_kw.getD k8 0))))))) 301 903 f_o_stated_numbers p1 (nI 2)) (fx_br (r1 < 0) (fx_lt 0 13 (post (fx_kw.getD 0 0))) (fx_br ((nI 13) ≤ r1) (fx_lt 0 13 (post (fx_kw.getD 0 0))) (fx_ix r1 13 (fun k6 => fx_lt k6 13 (post (fx_kw.getD k6 0)))))))) 301 903 f_o_stated_numbers p1 (nI 2)) (fx_br (r1 = (nI 11)) (wp_X4_number (fun r3 => fx_br (r3 = (nI 1)) (post 2) (fx_br (r1 < 0) (fx_lt 0 13 (post (fx_kw.getD 0 0))) (fx_br ((nI 13) ≤ r1) (fx_lt 0 13 (post (fx_kw.getD 0 0))) (fx_ix r1 13 (fun k4 => fx_lt k4 13 (post (fx_kw.getD k4 0))))))) 301 903 f_o_stated_numbers p1 (nI 2)) (fx_br (r1 < 0) (fx_lt 0 13 (post (fx_kw.getD 0 0))) (fx_br ((nI 13) ≤ r1) (fx_lt 0 13 (post (fx_kw.getD 0 0))) (fx_ix r1 13 (fun k2 => fx_lt k2 13 (post (fx_kw.getD k2 0)))))))) 301 f_o_stated_kinds p1
theorem im_X5_wordingFor_X5 : ∀ w ∈ u_ws RX5 TX5 9, w ∈ wsX5_wordingFor := by decide +kernel
set_option maxHeartbeats 4000000 in
set_option maxRecDepth 100000 in
theorem cw_X5_wordingFor (l : Launch) (X : fx_X) (a_o : Nat) (a_o_axioms : Nat) (a_o_triples : Nat) (a_o_laid : Nat) (a_o_stated : Nat) (a_o_letters : Nat) (a_o_told : Nat) (a_o_needed : Nat) (a_o_reckoned : Nat) (a_o_stated_kinds : Nat) (a_o_stated_numbers : Nat) (s_o_broken : Int32) (s_o_stated_count : Int32) (f_o_stated_kinds : Nat → Int32) (f_o_stated_numbers : Nat → Int32) (p1 : Int32) (post : Nat → Prop) (h : wp_X5_wordingFor post f_o_stated_kinds f_o_stated_numbers p1) : Met l yX5_wordingFor wsX5_wordingFor ({ frames := 1, cells := 0, slots := 0, locals := 23 }) (va_Pc [.ref a_o, .int p1] (fx_PP X [(a_o, .inr (4, [.ref a_o_axioms, .ref a_o_triples, .ref a_o_laid, .ref a_o_stated, .ref a_o_letters, .ref a_o_told, .ref a_o_needed, .ref a_o_reckoned, .int s_o_broken])), (a_o_stated, .inr (3, [.ref a_o_stated_kinds, .ref a_o_stated_numbers, .int s_o_stated_count])), (a_o_stated_kinds, .inl (fx_cI X, 301, .inl f_o_stated_kinds)), (a_o_stated_numbers, .inl (fx_cI X, 903, .inl f_o_stated_numbers))])) (va_Sr post (fun j => .ref (fx_aS X j))) 0 0 (fun _ => False) := by
  refine Met.ofW (cc := cX5_wordingFor) (maxL := 3) (ret := (some (.object "java/lang/String"))) (by decide) rfl ?_
  intro p e s m args below meth c s₁ B hml hv
  obtain ⟨rfl, hP, hK, hG⟩ := hv
  have hx := B.exec
  have hb := B.bytes
  have hr := B.returns
  have hts := atoms_spec (ws := wsX5_wordingFor) B.pre
  have hown : s.vm.findClass RX5 = some m.cls := findClass_of_methodNamed B.named
  have hlocks := B.notSynchronized
  have hS : va_S (fun _ => False) s.heap s.heap [] := va_S.rf
  have k271 := hts (.fieldLink RX5 271 "ProofChecker$Kind" "NOTHING" "LProofChecker$Kind;") (by decide +kernel)
  have k57 := hts (.fieldLink RX5 57 "ProofChecker" "KINDS" "[LProofChecker$Kind;") (by decide +kernel)
  have k28 := hts (.fieldLink RX5 28 "ProofChecker" "stated" "LProofChecker$Statements;") (by decide +kernel)
  have hl := lv_entry ([.ref a_o, .int p1]) (n := 3) (Nat.le_of_ble_eq_true rfl)
  rw [lg_entry_eq]
  generalize (lg_sl ([.ref a_o, .int p1]) ++ List.replicate (3 - (lg_sl ([.ref a_o, .int p1])).length) Slot.unset).toArray = ls at hl ⊢
  have hl : lv_has ls 3 [(0, .ref a_o), (1, .int p1)] := hl
  unfold wp_X5_wordingFor at h
  refine lv_aload_n hx hb dX5_wordingFor_0 rfl (lv_at hl 0 rfl) ?_
  refine va_get (D := fx_D X) (ci := 4) (v := .ref a_o_stated) (C := RX5) (T := TX5) (N := 9) hx hb hts im_X5_wordingFor_X5 hown hK hP 0 rfl rfl 3 (by decide) k28 (fun _ h9 => h9) rfl dX5_wordingFor_1 ?_
  refine lv_iload_n hx hb dX5_wordingFor_4 rfl (lv_at hl 1 rfl) ?_
  refine vp_callSi (W.runV (As := [.int p1]) (rest := []) ⟨hx, hb, hml, hown, hts⟩ (cw_X4_kind l X a_o_stated a_o_stated_kinds a_o_stated_numbers 301 s_o_stated_count f_o_stated_kinds p1 _ h) (cwV 1 hts gX5_wordingFor_X4_kind rfl rfl rfl (by decide +kernel) ⟨Nat.le_of_ble_eq_true rfl, Nat.le_of_ble_eq_true rfl⟩) (fx_pv hP hK hG hS (va_recv hK hP (ci := 3) (q0 := 1) rfl rfl) [1, 2] rfl) rfl rfl hl.1 rfl (lv_room (Nat.le_of_ble_eq_true rfl)) dX5_wordingFor_5 ⟨Nat.le_of_ble_eq_true rfl, Nat.le_of_ble_eq_true rfl⟩) (fun r1 h => ?_)
  refine lv_istore_n (lv' := [(2, .int r1), (0, .ref a_o), (1, .int p1)]) hx hb dX5_wordingFor_8 rfl hl (by decide) rfl (fun ls hl => ?_)
  refine lv_iload_n hx hb dX5_wordingFor_9 rfl (lv_at hl 0 rfl) ?_
  refine lv_bipush (v := (nI 11)) hx hb dX5_wordingFor_10 (by decide) ?_
  refine fx_icmp_ne (tgt := 31) hx hb h dX5_wordingFor_12 (by decide) (fun h => ?_) (fun h => ?_)
  · refine lv_iload_n hx hb dX5_wordingFor_31 rfl (lv_at hl 0 rfl) ?_
    refine lv_bipush (v := (nI 11)) hx hb dX5_wordingFor_32 (by decide) ?_
    refine fx_icmp_ne (tgt := 54) hx hb h dX5_wordingFor_34 (by decide) (fun h => ?_) (fun h => ?_)
    · refine lv_iload_n hx hb dX5_wordingFor_54 rfl (lv_at hl 0 rfl) ?_
      refine fx_if_lt (tgt := 77) hx hb h dX5_wordingFor_55 (by decide) (fun h => ?_) (fun h => ?_)
      · refine va_gets (v := .ref (fx_aK X 0)) hx hb hG.nothing hS hown k271 (fun _ h9 => h9) dX5_wordingFor_77 ?_
        refine fx_getXN hx hb hG.wording h.1 hS hown hG.n268 (fun _ h9 => h9) dX5_wordingFor_80 ?_
        have h := h.2
        exact W.aret (v := .ref (fx_aS X (fx_kw.getD 0 0))) hx hb hr (Or.inl ⟨_, rfl⟩) (Or.inr ⟨_, rfl⟩) (fun t ht hW => ⟨_, rfl, h, ht⟩) (fun q hq => by cases hq) dX5_wordingFor_83
      refine lv_iload_n hx hb dX5_wordingFor_58 rfl (lv_at hl 0 rfl) ?_
      refine va_gets (v := .ref (fx_tK X)) hx hb hG.kinds hS hown k57 (fun _ h9 => h9) dX5_wordingFor_59 ?_
      refine va_tlen (v := nI 13) hx hb hG.kindsT hS rfl dX5_wordingFor_62 ?_
      refine fx_icmp_ge (tgt := 77) hx hb h dX5_wordingFor_63 (by decide) (fun h => ?_) (fun h => ?_)
      · refine va_gets (v := .ref (fx_aK X 0)) hx hb hG.nothing hS hown k271 (fun _ h9 => h9) dX5_wordingFor_77 ?_
        refine fx_getXN hx hb hG.wording h.1 hS hown hG.n268 (fun _ h9 => h9) dX5_wordingFor_80 ?_
        have h := h.2
        exact W.aret (v := .ref (fx_aS X (fx_kw.getD 0 0))) hx hb hr (Or.inl ⟨_, rfl⟩) (Or.inr ⟨_, rfl⟩) (fun t ht hW => ⟨_, rfl, h, ht⟩) (fun q hq => by cases hq) dX5_wordingFor_83
      refine va_gets (v := .ref (fx_tK X)) hx hb hG.kinds hS hown k57 (fun _ h9 => h9) dX5_wordingFor_66 ?_
      refine lv_iload_n hx hb dX5_wordingFor_69 rfl (lv_at hl 0 rfl) ?_
      refine fx_tqK hx hb hG hS h dX5_wordingFor_70 (fun k2 h => ?_)
      refine fx_getXN hx hb hG.wording h.1 hS hown hG.n268 (fun _ h9 => h9) dX5_wordingFor_71 ?_
      have h := h.2
      refine lv_goto (tgt := 83) hx hb dX5_wordingFor_74 (by decide) ?_
      exact W.aret (v := .ref (fx_aS X (fx_kw.getD k2 0))) hx hb hr (Or.inl ⟨_, rfl⟩) (Or.inr ⟨_, rfl⟩) (fun t ht hW => ⟨_, rfl, h, ht⟩) (fun q hq => by cases hq) dX5_wordingFor_83
    refine lv_aload_n hx hb dX5_wordingFor_37 rfl (lv_at hl 1 rfl) ?_
    refine va_get (D := fx_D X) (ci := 4) (v := .ref a_o_stated) (C := RX5) (T := TX5) (N := 9) hx hb hts im_X5_wordingFor_X5 hown hK hP 0 rfl rfl 3 (by decide) k28 (fun _ h9 => h9) rfl dX5_wordingFor_38 ?_
    refine lv_iload_n hx hb dX5_wordingFor_41 rfl (lv_at hl 2 rfl) ?_
    refine lv_iconst (v := (nI 2)) hx hb dX5_wordingFor_42 (by decide) ?_
    refine vp_callSi (W.runV (As := [.int p1, .int (nI 2)]) (rest := []) ⟨hx, hb, hml, hown, hts⟩ (cw_X4_number l X a_o_stated a_o_stated_kinds a_o_stated_numbers 301 903 s_o_stated_count f_o_stated_kinds f_o_stated_numbers p1 (nI 2) _ h) (cwV 2 hts gX5_wordingFor_X4_number rfl rfl rfl (by decide +kernel) ⟨Nat.le_of_ble_eq_true rfl, Nat.le_of_ble_eq_true rfl⟩) (fx_pv hP hK hG hS (va_recv hK hP (ci := 3) (q0 := 1) rfl rfl) [1, 2, 3] rfl) rfl rfl hl.1 rfl (lv_room (Nat.le_of_ble_eq_true rfl)) dX5_wordingFor_43 ⟨Nat.le_of_ble_eq_true rfl, Nat.le_of_ble_eq_true rfl⟩) (fun r3 h => ?_)
    refine lv_iconst (v := (nI 1)) hx hb dX5_wordingFor_46 (by decide) ?_
    refine fx_icmp_ne (tgt := 54) hx hb h dX5_wordingFor_47 (by decide) (fun h => ?_) (fun h => ?_)
    · refine lv_iload_n hx hb dX5_wordingFor_54 rfl (lv_at hl 0 rfl) ?_
      refine fx_if_lt (tgt := 77) hx hb h dX5_wordingFor_55 (by decide) (fun h => ?_) (fun h => ?_)
      · refine va_gets (v := .ref (fx_aK X 0)) hx hb hG.nothing hS hown k271 (fun _ h9 => h9) dX5_wordingFor_77 ?_
        refine fx_getXN hx hb hG.wording h.1 hS hown hG.n268 (fun _ h9 => h9) dX5_wordingFor_80 ?_
        have h := h.2
        exact W.aret (v := .ref (fx_aS X (fx_kw.getD 0 0))) hx hb hr (Or.inl ⟨_, rfl⟩) (Or.inr ⟨_, rfl⟩) (fun t ht hW => ⟨_, rfl, h, ht⟩) (fun q hq => by cases hq) dX5_wordingFor_83
      refine lv_iload_n hx hb dX5_wordingFor_58 rfl (lv_at hl 0 rfl) ?_
      refine va_gets (v := .ref (fx_tK X)) hx hb hG.kinds hS hown k57 (fun _ h9 => h9) dX5_wordingFor_59 ?_
      refine va_tlen (v := nI 13) hx hb hG.kindsT hS rfl dX5_wordingFor_62 ?_
      refine fx_icmp_ge (tgt := 77) hx hb h dX5_wordingFor_63 (by decide) (fun h => ?_) (fun h => ?_)
      · refine va_gets (v := .ref (fx_aK X 0)) hx hb hG.nothing hS hown k271 (fun _ h9 => h9) dX5_wordingFor_77 ?_
        refine fx_getXN hx hb hG.wording h.1 hS hown hG.n268 (fun _ h9 => h9) dX5_wordingFor_80 ?_
        have h := h.2
        exact W.aret (v := .ref (fx_aS X (fx_kw.getD 0 0))) hx hb hr (Or.inl ⟨_, rfl⟩) (Or.inr ⟨_, rfl⟩) (fun t ht hW => ⟨_, rfl, h, ht⟩) (fun q hq => by cases hq) dX5_wordingFor_83
      refine va_gets (v := .ref (fx_tK X)) hx hb hG.kinds hS hown k57 (fun _ h9 => h9) dX5_wordingFor_66 ?_
      refine lv_iload_n hx hb dX5_wordingFor_69 rfl (lv_at hl 0 rfl) ?_
      refine fx_tqK hx hb hG hS h dX5_wordingFor_70 (fun k4 h => ?_)
      refine fx_getXN hx hb hG.wording h.1 hS hown hG.n268 (fun _ h9 => h9) dX5_wordingFor_71 ?_
      have h := h.2
      refine lv_goto (tgt := 83) hx hb dX5_wordingFor_74 (by decide) ?_
      exact W.aret (v := .ref (fx_aS X (fx_kw.getD k4 0))) hx hb hr (Or.inl ⟨_, rfl⟩) (Or.inr ⟨_, rfl⟩) (fun t ht hW => ⟨_, rfl, h, ht⟩) (fun q hq => by cases hq) dX5_wordingFor_83
    refine fx_ldcSw hx hb hown hG.l266 dX5_wordingFor_50 ?_
    exact W.aret (v := .ref (fx_aS X 2)) hx hb hr (Or.inl ⟨_, rfl⟩) (Or.inr ⟨_, rfl⟩) (fun t ht hW => ⟨_, rfl, h, ht⟩) (fun q hq => by cases hq) dX5_wordingFor_53
  refine lv_aload_n hx hb dX5_wordingFor_15 rfl (lv_at hl 1 rfl) ?_
  refine va_get (D := fx_D X) (ci := 4) (v := .ref a_o_stated) (C := RX5) (T := TX5) (N := 9) hx hb hts im_X5_wordingFor_X5 hown hK hP 0 rfl rfl 3 (by decide) k28 (fun _ h9 => h9) rfl dX5_wordingFor_16 ?_
  refine lv_iload_n hx hb dX5_wordingFor_19 rfl (lv_at hl 2 rfl) ?_
  refine lv_iconst (v := (nI 2)) hx hb dX5_wordingFor_20 (by decide) ?_
  refine vp_callSi (W.runV (As := [.int p1, .int (nI 2)]) (rest := []) ⟨hx, hb, hml, hown, hts⟩ (cw_X4_number l X a_o_stated a_o_stated_kinds a_o_stated_numbers 301 903 s_o_stated_count f_o_stated_kinds f_o_stated_numbers p1 (nI 2) _ h) (cwV 2 hts gX5_wordingFor_X4_number rfl rfl rfl (by decide +kernel) ⟨Nat.le_of_ble_eq_true rfl, Nat.le_of_ble_eq_true rfl⟩) (fx_pv hP hK hG hS (va_recv hK hP (ci := 3) (q0 := 1) rfl rfl) [1, 2, 3] rfl) rfl rfl hl.1 rfl (lv_room (Nat.le_of_ble_eq_true rfl)) dX5_wordingFor_21 ⟨Nat.le_of_ble_eq_true rfl, Nat.le_of_ble_eq_true rfl⟩) (fun r5 h => ?_)
  refine fx_if_ne (tgt := 31) hx hb h dX5_wordingFor_24 (by decide) (fun h => ?_) (fun h => ?_)
  · refine lv_iload_n hx hb dX5_wordingFor_31 rfl (lv_at hl 0 rfl) ?_
    refine lv_bipush (v := (nI 11)) hx hb dX5_wordingFor_32 (by decide) ?_
    refine fx_icmp_ne (tgt := 54) hx hb h dX5_wordingFor_34 (by decide) (fun h => ?_) (fun h => ?_)
    · refine lv_iload_n hx hb dX5_wordingFor_54 rfl (lv_at hl 0 rfl) ?_
      refine fx_if_lt (tgt := 77) hx hb h dX5_wordingFor_55 (by decide) (fun h => ?_) (fun h => ?_)
      · refine va_gets (v := .ref (fx_aK X 0)) hx hb hG.nothing hS hown k271 (fun _ h9 => h9) dX5_wordingFor_77 ?_
        refine fx_getXN hx hb hG.wording h.1 hS hown hG.n268 (fun _ h9 => h9) dX5_wordingFor_80 ?_
        have h := h.2
        exact W.aret (v := .ref (fx_aS X (fx_kw.getD 0 0))) hx hb hr (Or.inl ⟨_, rfl⟩) (Or.inr ⟨_, rfl⟩) (fun t ht hW => ⟨_, rfl, h, ht⟩) (fun q hq => by cases hq) dX5_wordingFor_83
      refine lv_iload_n hx hb dX5_wordingFor_58 rfl (lv_at hl 0 rfl) ?_
      refine va_gets (v := .ref (fx_tK X)) hx hb hG.kinds hS hown k57 (fun _ h9 => h9) dX5_wordingFor_59 ?_
      refine va_tlen (v := nI 13) hx hb hG.kindsT hS rfl dX5_wordingFor_62 ?_
      refine fx_icmp_ge (tgt := 77) hx hb h dX5_wordingFor_63 (by decide) (fun h => ?_) (fun h => ?_)
      · refine va_gets (v := .ref (fx_aK X 0)) hx hb hG.nothing hS hown k271 (fun _ h9 => h9) dX5_wordingFor_77 ?_
        refine fx_getXN hx hb hG.wording h.1 hS hown hG.n268 (fun _ h9 => h9) dX5_wordingFor_80 ?_
        have h := h.2
        exact W.aret (v := .ref (fx_aS X (fx_kw.getD 0 0))) hx hb hr (Or.inl ⟨_, rfl⟩) (Or.inr ⟨_, rfl⟩) (fun t ht hW => ⟨_, rfl, h, ht⟩) (fun q hq => by cases hq) dX5_wordingFor_83
      refine va_gets (v := .ref (fx_tK X)) hx hb hG.kinds hS hown k57 (fun _ h9 => h9) dX5_wordingFor_66 ?_
      refine lv_iload_n hx hb dX5_wordingFor_69 rfl (lv_at hl 0 rfl) ?_
      refine fx_tqK hx hb hG hS h dX5_wordingFor_70 (fun k6 h => ?_)
      refine fx_getXN hx hb hG.wording h.1 hS hown hG.n268 (fun _ h9 => h9) dX5_wordingFor_71 ?_
      have h := h.2
      refine lv_goto (tgt := 83) hx hb dX5_wordingFor_74 (by decide) ?_
      exact W.aret (v := .ref (fx_aS X (fx_kw.getD k6 0))) hx hb hr (Or.inl ⟨_, rfl⟩) (Or.inr ⟨_, rfl⟩) (fun t ht hW => ⟨_, rfl, h, ht⟩) (fun q hq => by cases hq) dX5_wordingFor_83
    refine lv_aload_n hx hb dX5_wordingFor_37 rfl (lv_at hl 1 rfl) ?_
    refine va_get (D := fx_D X) (ci := 4) (v := .ref a_o_stated) (C := RX5) (T := TX5) (N := 9) hx hb hts im_X5_wordingFor_X5 hown hK hP 0 rfl rfl 3 (by decide) k28 (fun _ h9 => h9) rfl dX5_wordingFor_38 ?_
    refine lv_iload_n hx hb dX5_wordingFor_41 rfl (lv_at hl 2 rfl) ?_
    refine lv_iconst (v := (nI 2)) hx hb dX5_wordingFor_42 (by decide) ?_
    refine vp_callSi (W.runV (As := [.int p1, .int (nI 2)]) (rest := []) ⟨hx, hb, hml, hown, hts⟩ (cw_X4_number l X a_o_stated a_o_stated_kinds a_o_stated_numbers 301 903 s_o_stated_count f_o_stated_kinds f_o_stated_numbers p1 (nI 2) _ h) (cwV 2 hts gX5_wordingFor_X4_number rfl rfl rfl (by decide +kernel) ⟨Nat.le_of_ble_eq_true rfl, Nat.le_of_ble_eq_true rfl⟩) (fx_pv hP hK hG hS (va_recv hK hP (ci := 3) (q0 := 1) rfl rfl) [1, 2, 3] rfl) rfl rfl hl.1 rfl (lv_room (Nat.le_of_ble_eq_true rfl)) dX5_wordingFor_43 ⟨Nat.le_of_ble_eq_true rfl, Nat.le_of_ble_eq_true rfl⟩) (fun r7 h => ?_)
    refine lv_iconst (v := (nI 1)) hx hb dX5_wordingFor_46 (by decide) ?_
    refine fx_icmp_ne (tgt := 54) hx hb h dX5_wordingFor_47 (by decide) (fun h => ?_) (fun h => ?_)
    · refine lv_iload_n hx hb dX5_wordingFor_54 rfl (lv_at hl 0 rfl) ?_
      refine fx_if_lt (tgt := 77) hx hb h dX5_wordingFor_55 (by decide) (fun h => ?_) (fun h => ?_)
      · refine va_gets (v := .ref (fx_aK X 0)) hx hb hG.nothing hS hown k271 (fun _ h9 => h9) dX5_wordingFor_77 ?_
        refine fx_getXN hx hb hG.wording h.1 hS hown hG.n268 (fun _ h9 => h9) dX5_wordingFor_80 ?_
        have h := h.2
        exact W.aret (v := .ref (fx_aS X (fx_kw.getD 0 0))) hx hb hr (Or.inl ⟨_, rfl⟩) (Or.inr ⟨_, rfl⟩) (fun t ht hW => ⟨_, rfl, h, ht⟩) (fun q hq => by cases hq) dX5_wordingFor_83
      refine lv_iload_n hx hb dX5_wordingFor_58 rfl (lv_at hl 0 rfl) ?_
      refine va_gets (v := .ref (fx_tK X)) hx hb hG.kinds hS hown k57 (fun _ h9 => h9) dX5_wordingFor_59 ?_
      refine va_tlen (v := nI 13) hx hb hG.kindsT hS rfl dX5_wordingFor_62 ?_
      refine fx_icmp_ge (tgt := 77) hx hb h dX5_wordingFor_63 (by decide) (fun h => ?_) (fun h => ?_)
      · refine va_gets (v := .ref (fx_aK X 0)) hx hb hG.nothing hS hown k271 (fun _ h9 => h9) dX5_wordingFor_77 ?_
        refine fx_getXN hx hb hG.wording h.1 hS hown hG.n268 (fun _ h9 => h9) dX5_wordingFor_80 ?_
        have h := h.2
        exact W.aret (v := .ref (fx_aS X (fx_kw.getD 0 0))) hx hb hr (Or.inl ⟨_, rfl⟩) (Or.inr ⟨_, rfl⟩) (fun t ht hW => ⟨_, rfl, h, ht⟩) (fun q hq => by cases hq) dX5_wordingFor_83
      refine va_gets (v := .ref (fx_tK X)) hx hb hG.kinds hS hown k57 (fun _ h9 => h9) dX5_wordingFor_66 ?_
      refine lv_iload_n hx hb dX5_wordingFor_69 rfl (lv_at hl 0 rfl) ?_
      refine fx_tqK hx hb hG hS h dX5_wordingFor_70 (fun k8 h => ?_)
      refine fx_getXN hx hb hG.wording h.1 hS hown hG.n268 (fun _ h9 => h9) dX5_wordingFor_71 ?_
      have h := h.2
      refine lv_goto (tgt := 83) hx hb dX5_wordingFor_74 (by decide) ?_
      exact W.aret (v := .ref (fx_aS X (fx_kw.getD k8 0))) hx hb hr (Or.inl ⟨_, rfl⟩) (Or.inr ⟨_, rfl⟩) (fun t ht hW => ⟨_, rfl, h, ht⟩) (fun q hq => by cases hq) dX5_wordingFor_83
    refine fx_ldcSw hx hb hown hG.l266 dX5_wordingFor_50 ?_
    exact W.aret (v := .ref (fx_aS X 2)) hx hb hr (Or.inl ⟨_, rfl⟩) (Or.inr ⟨_, rfl⟩) (fun t ht hW => ⟨_, rfl, h, ht⟩) (fun q hq => by cases hq) dX5_wordingFor_53
  refine fx_ldcSw hx hb hown hG.l264 dX5_wordingFor_27 ?_
  exact W.aret (v := .ref (fx_aS X 1)) hx hb hr (Or.inl ⟨_, rfl⟩) (Or.inr ⟨_, rfl⟩) (fun t ht hW => ⟨_, rfl, h, ht⟩) (fun q hq => by cases hq) dX5_wordingFor_30

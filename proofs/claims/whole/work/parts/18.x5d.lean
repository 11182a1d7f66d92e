/-- X5_markProof: its walk -/
def wp_X5_markProof (post : (Nat → Int32) → Prop) (s_o_laid_last : Int32) (f_o_laid_premiseCounts : Nat → Int32) (f_o_laid_premises : Nat → Int32) (f_o_needed : Nat → Int32) (p1 : Int32) : Prop :=
  fx_wh2 (fun (rec3 : Int32 → (Nat → Int32) → Prop) (x1 : Int32) (y2 : Nat → Int32) => fx_br ((nI 301) ≤ x1) (wp_X2_has (fun r4 => fx_br (r4 = 0) (post y2) (fx_ix p1 301 (fun k23 => fx_nm (upd y2 k23 (vp_nar .boolean (nI 1))) (fun g5 => fx_wh2 (fun (rec8 : Int32 → (Nat → Int32) → Prop) (x6 : Int32) (y7 : Nat → Int32) => fx_br (x6 < (nI 1)) (post y7) (fx_wh2 (fun (rec11 : Int32 → (Nat → Int32) → Prop) (x9 : Int32) (y10 : Nat → Int32) => fx_ix x6 301 (fun k13 => fx_nm (y10 k13) (fun v12 => fx_br (v12 = 0) (fx_nm (x6 + (-1)) (fun v14 => rec8 v14 y10)) (wp_X2_premiseCount (fun r15 => fx_br (r15 ≤ x9) (fx_nm (x6 + (-1)) (fun v16 => rec8 v16 y10)) (wp_X2_premiseAt (fun r17 => wp_X2_has (fun r18 => fx_br (r18 = 0) (fx_nm (x9 + (nI 1)) (fun v19 => rec11 v19 y10)) (fx_ix r17 301 (fun k22 => fx_nm (upd y10 k22 (vp_nar .boolean (nI 1))) (fun g20 => fx_nm (x9 + (nI 1)) (fun v21 => rec11 v21 g20))))) s_o_laid_last r17) s_o_laid_last f_o_laid_premiseCounts f_o_laid_premises x6 x9)) s_o_laid_last f_o_laid_premiseCounts x6)))) (nI 0) y7)) p1 g5)))) s_o_laid_last p1) (fx_ix x1 301 (fun k26 => fx_nm (upd y2 k26 (vp_nar .boolean (nI 0))) (fun g24 => fx_nm (x1 + (nI 1)) (fun v25 => rec3 v25 g24))))) (nI 0) f_o_needed
theorem im_X5_markProof_X5 : ∀ w ∈ u_ws RX5 TX5 9, w ∈ wsX5_markProof := by decide +kernel
set_option maxHeartbeats 4000000 in
set_option maxRecDepth 100000 in
theorem cw_X5_markProof (l : Launch) (X : fx_X) (a_o : Nat) (a_o_axioms : Nat) (a_o_triples : Nat) (a_o_laid : Nat) (a_o_stated : Nat) (a_o_letters : Nat) (a_o_told : Nat) (a_o_needed : Nat) (a_o_reckoned : Nat) (a_o_laid_ruleNumbers : Nat) (a_o_laid_instances : Nat) (a_o_laid_premiseCounts : Nat) (a_o_laid_premises : Nat) (s_o_broken : Int32) (s_o_laid_last : Int32) (f_o_laid_premiseCounts : Nat → Int32) (f_o_laid_premises : Nat → Int32) (f_o_needed : Nat → Int32) (sz : Nat) (p1 : Int32) (post : (Nat → Int32) → Prop) (h : wp_X5_markProof post s_o_laid_last f_o_laid_premiseCounts f_o_laid_premises f_o_needed p1) : Met l yX5_markProof wsX5_markProof ({ frames := 3, cells := 0, slots := 0, locals := 65 }) (va_Pc [.ref a_o, .int p1] (fx_PW X [(a_o, .inr (4, [.ref a_o_axioms, .ref a_o_triples, .ref a_o_laid, .ref a_o_stated, .ref a_o_letters, .ref a_o_told, .ref a_o_needed, .ref a_o_reckoned, .int s_o_broken])), (a_o_laid, .inr (2, [.ref a_o_laid_ruleNumbers, .ref a_o_laid_instances, .ref a_o_laid_premiseCounts, .ref a_o_laid_premises, .int s_o_laid_last])), (a_o_laid_premiseCounts, .inl (fx_cI X, 301, .inl f_o_laid_premiseCounts)), (a_o_laid_premises, .inl (fx_cI X, 903, .inl f_o_laid_premises)), (a_o_needed, .inl (fx_cZ X, 301, .inl f_o_needed))] sz)) (va_Qv (fun (u : (Nat → Int32)) => post u) (fun (u : (Nat → Int32)) t => fx_EW X (va_A [(a_o, .inr (4, [.ref a_o_axioms, .ref a_o_triples, .ref a_o_laid, .ref a_o_stated, .ref a_o_letters, .ref a_o_told, .ref a_o_needed, .ref a_o_reckoned, .int s_o_broken])), (a_o_laid, .inr (2, [.ref a_o_laid_ruleNumbers, .ref a_o_laid_instances, .ref a_o_laid_premiseCounts, .ref a_o_laid_premises, .int s_o_laid_last])), (a_o_laid_premiseCounts, .inl (fx_cI X, 301, .inl f_o_laid_premiseCounts)), (a_o_laid_premises, .inl (fx_cI X, 903, .inl f_o_laid_premises)), (a_o_needed, .inl (fx_cZ X, 301, .inl f_o_needed))] sz) [(a_o, .inr (4, [.ref a_o_axioms, .ref a_o_triples, .ref a_o_laid, .ref a_o_stated, .ref a_o_letters, .ref a_o_told, .ref a_o_needed, .ref a_o_reckoned, .int s_o_broken])), (a_o_laid, .inr (2, [.ref a_o_laid_ruleNumbers, .ref a_o_laid_instances, .ref a_o_laid_premiseCounts, .ref a_o_laid_premises, .int s_o_laid_last])), (a_o_laid_premiseCounts, .inl (fx_cI X, 301, .inl f_o_laid_premiseCounts)), (a_o_laid_premises, .inl (fx_cI X, 903, .inl f_o_laid_premises)), (a_o_needed, .inl (fx_cZ X, 301, .inl u))] t) (va_A [(a_o, .inr (4, [.ref a_o_axioms, .ref a_o_triples, .ref a_o_laid, .ref a_o_stated, .ref a_o_letters, .ref a_o_told, .ref a_o_needed, .ref a_o_reckoned, .int s_o_broken])), (a_o_laid, .inr (2, [.ref a_o_laid_ruleNumbers, .ref a_o_laid_instances, .ref a_o_laid_premiseCounts, .ref a_o_laid_premises, .int s_o_laid_last])), (a_o_laid_premiseCounts, .inl (fx_cI X, 301, .inl f_o_laid_premiseCounts)), (a_o_laid_premises, .inl (fx_cI X, 903, .inl f_o_laid_premises)), (a_o_needed, .inl (fx_cZ X, 301, .inl f_o_needed))] sz)) 0 0 (va_A [(a_o, .inr (4, [.ref a_o_axioms, .ref a_o_triples, .ref a_o_laid, .ref a_o_stated, .ref a_o_letters, .ref a_o_told, .ref a_o_needed, .ref a_o_reckoned, .int s_o_broken])), (a_o_laid, .inr (2, [.ref a_o_laid_ruleNumbers, .ref a_o_laid_instances, .ref a_o_laid_premiseCounts, .ref a_o_laid_premises, .int s_o_laid_last])), (a_o_laid_premiseCounts, .inl (fx_cI X, 301, .inl f_o_laid_premiseCounts)), (a_o_laid_premises, .inl (fx_cI X, 903, .inl f_o_laid_premises)), (a_o_needed, .inl (fx_cZ X, 301, .inl f_o_needed))] sz) := by
  refine Met.ofW (cc := cX5_markProof) (maxL := 5) (ret := none) (by decide) rfl ?_
  intro p e s m args below meth c s₁ B hml hv
  obtain ⟨rfl, hsz, hP, hK, hD0, hG⟩ := hv
  have hx := B.exec
  have hb := B.bytes
  have hr := B.returns
  have hts := atoms_spec (ws := wsX5_markProof) B.pre
  have hown : s.vm.findClass RX5 = some m.cls := findClass_of_methodNamed B.named
  have hlocks := B.notSynchronized
  subst hsz
  have hD := hD0.self (sz := s.heap.size)
  generalize hAe : va_A [(a_o, .inr (4, [.ref a_o_axioms, .ref a_o_triples, .ref a_o_laid, .ref a_o_stated, .ref a_o_letters, .ref a_o_told, .ref a_o_needed, .ref a_o_reckoned, .int s_o_broken])), (a_o_laid, .inr (2, [.ref a_o_laid_ruleNumbers, .ref a_o_laid_instances, .ref a_o_laid_premiseCounts, .ref a_o_laid_premises, .int s_o_laid_last])), (a_o_laid_premiseCounts, .inl (fx_cI X, 301, .inl f_o_laid_premiseCounts)), (a_o_laid_premises, .inl (fx_cI X, 903, .inl f_o_laid_premises)), (a_o_needed, .inl (fx_cZ X, 301, .inl f_o_needed))] s.heap.size = A at hD hG ⊢
  have hA : ∀ q : Nat, s.heap.size ≤ q → A q := fun q h => by rw [← hAe]; exact Or.inr h
  have hS : va_S A s.heap s.heap [] := va_S.rf
  have k45 := hts (.fieldLink RX5 45 "ProofChecker" "needed" "[Z") (by decide +kernel)
  have k24 := hts (.fieldLink RX5 24 "ProofChecker" "laid" "LProofChecker$Rows;") (by decide +kernel)
  have hl := lv_entry ([.ref a_o, .int p1]) (n := 5) (Nat.le_of_ble_eq_true rfl)
  rw [lg_entry_eq]
  generalize (lg_sl ([.ref a_o, .int p1]) ++ List.replicate (5 - (lg_sl ([.ref a_o, .int p1])).length) Slot.unset).toArray = ls at hl ⊢
  have hl : lv_has ls 5 [(0, .ref a_o), (1, .int p1)] := hl
  unfold wp_X5_markProof at h
  refine lv_iconst (v := (nI 0)) hx hb dX5_markProof_0 (by decide) ?_
  refine lv_istore_n (lv' := [(2, .int (nI 0)), (0, .ref a_o), (1, .int p1)]) hx hb dX5_markProof_1 rfl hl (by decide) rfl (fun ls hl => ?_)
  refine fx_loop2 (G := fun (x1 : Int32) (y2 : Nat → Int32) => ∀ (H : Heap) (locs : List Loc) (ls : Array Slot), va_P (fx_D X) vwCl [(a_o, .inr (4, [.ref a_o_axioms, .ref a_o_triples, .ref a_o_laid, .ref a_o_stated, .ref a_o_letters, .ref a_o_told, .ref a_o_needed, .ref a_o_reckoned, .int s_o_broken])), (a_o_laid, .inr (2, [.ref a_o_laid_ruleNumbers, .ref a_o_laid_instances, .ref a_o_laid_premiseCounts, .ref a_o_laid_premises, .int s_o_laid_last])), (a_o_laid_premiseCounts, .inl (fx_cI X, 301, .inl f_o_laid_premiseCounts)), (a_o_laid_premises, .inl (fx_cI X, 903, .inl f_o_laid_premises)), (a_o_needed, .inl (fx_cZ X, 301, .inl y2))] H → va_D A [(a_o, .inr (4, [.ref a_o_axioms, .ref a_o_triples, .ref a_o_laid, .ref a_o_stated, .ref a_o_letters, .ref a_o_told, .ref a_o_needed, .ref a_o_reckoned, .int s_o_broken])), (a_o_laid, .inr (2, [.ref a_o_laid_ruleNumbers, .ref a_o_laid_instances, .ref a_o_laid_premiseCounts, .ref a_o_laid_premises, .int s_o_laid_last])), (a_o_laid_premiseCounts, .inl (fx_cI X, 301, .inl f_o_laid_premiseCounts)), (a_o_laid_premises, .inl (fx_cI X, 903, .inl f_o_laid_premises)), (a_o_needed, .inl (fx_cZ X, 301, .inl y2))] → va_S A s.heap H locs → lv_has ls 5 [(2, .int x1), (0, .ref a_o), (1, .int p1)] → W p l e _ s m _ below meth c H locs _ _ _ (F0 m 2 ls [])) (fun rec3 hrec3 x1 y2 h => ?_) h _ _ _ hP hD hS (lv_sub hl [0, 1, 2] rfl)
  intro H locs ls hP hD hS hl
  refine lv_iload_n hx hb dX5_markProof_2 rfl (lv_at hl 0 rfl) ?_
  refine lv_aload_n hx hb dX5_markProof_3 rfl (lv_at hl 1 rfl) ?_
  refine va_get (D := fx_D X) (ci := 4) (v := .ref a_o_needed) (C := RX5) (T := TX5) (N := 9) hx hb hts im_X5_markProof_X5 hown hK hP 0 rfl rfl 6 (by decide) k45 (fun _ h9 => h9) rfl dX5_markProof_4 ?_
  refine va_alen (v := nI 301) hx hb hK hP 4 2 rfl rfl rfl dX5_markProof_7 ?_
  refine fx_icmp_ge (tgt := 24) hx hb h dX5_markProof_8 (by decide) (fun h => ?_) (fun h => ?_)
  · refine lv_aload_n hx hb dX5_markProof_24 rfl (lv_at hl 1 rfl) ?_
    refine va_get (D := fx_D X) (ci := 4) (v := .ref a_o_laid) (C := RX5) (T := TX5) (N := 9) hx hb hts im_X5_markProof_X5 hown hK hP 0 rfl rfl 2 (by decide) k24 (fun _ h9 => h9) rfl dX5_markProof_25 ?_
    refine lv_iload_n hx hb dX5_markProof_28 rfl (lv_at hl 2 rfl) ?_
    refine vp_callSi (W.runV (As := [.int p1]) (rest := []) ⟨hx, hb, hml, hown, hts⟩ (cw_X2_has l X a_o_laid a_o_laid_ruleNumbers a_o_laid_instances a_o_laid_premiseCounts a_o_laid_premises s_o_laid_last p1 _ h) (cwV 1 hts gX5_markProof_X2_has rfl rfl rfl (by decide +kernel) ⟨Nat.le_of_ble_eq_true rfl, Nat.le_of_ble_eq_true rfl⟩) (fx_pv hP hK hG hS (va_recv hK hP (ci := 2) (q0 := 1) rfl rfl) [1] rfl) rfl rfl hl.1 rfl (lv_room (Nat.le_of_ble_eq_true rfl)) dX5_markProof_29 ⟨Nat.le_of_ble_eq_true rfl, Nat.le_of_ble_eq_true rfl⟩) (fun r4 h => ?_)
    refine fx_if_ne (tgt := 36) hx hb h dX5_markProof_32 (by decide) (fun h => ?_) (fun h => ?_)
    · refine lv_aload_n hx hb dX5_markProof_36 rfl (lv_at hl 1 rfl) ?_
      refine va_get (D := fx_D X) (ci := 4) (v := .ref a_o_needed) (C := RX5) (T := TX5) (N := 9) hx hb hts im_X5_markProof_X5 hown hK hP 0 rfl rfl 6 (by decide) k45 (fun _ h9 => h9) rfl dX5_markProof_37 ?_
      refine lv_iload_n hx hb dX5_markProof_40 rfl (lv_at hl 2 rfl) ?_
      refine lv_iconst (v := (nI 1)) hx hb dX5_markProof_41 (by decide) ?_
      refine fx_zast hx hb hK hP hD hS 4 2 rfl rfl h dX5_markProof_42 (fun g5 => [(a_o, .inr (4, [.ref a_o_axioms, .ref a_o_triples, .ref a_o_laid, .ref a_o_stated, .ref a_o_letters, .ref a_o_told, .ref a_o_needed, .ref a_o_reckoned, .int s_o_broken])), (a_o_laid, .inr (2, [.ref a_o_laid_ruleNumbers, .ref a_o_laid_instances, .ref a_o_laid_premiseCounts, .ref a_o_laid_premises, .int s_o_laid_last])), (a_o_laid_premiseCounts, .inl (fx_cI X, 301, .inl f_o_laid_premiseCounts)), (a_o_laid_premises, .inl (fx_cI X, 903, .inl f_o_laid_premises)), (a_o_needed, .inl (fx_cZ X, 301, .inl g5))]) (fun _ => rfl) (fun H locs g5 h hP hD hS => ?_)
      refine lv_iload_n hx hb dX5_markProof_43 rfl (lv_at hl 2 rfl) ?_
      refine lv_istore_n (lv' := [(2, .int p1), (0, .ref a_o), (1, .int p1)]) hx hb dX5_markProof_44 rfl hl (by decide) rfl (fun ls hl => ?_)
      refine fx_loop2 (G := fun (x6 : Int32) (y7 : Nat → Int32) => ∀ (H : Heap) (locs : List Loc) (ls : Array Slot), va_P (fx_D X) vwCl [(a_o, .inr (4, [.ref a_o_axioms, .ref a_o_triples, .ref a_o_laid, .ref a_o_stated, .ref a_o_letters, .ref a_o_told, .ref a_o_needed, .ref a_o_reckoned, .int s_o_broken])), (a_o_laid, .inr (2, [.ref a_o_laid_ruleNumbers, .ref a_o_laid_instances, .ref a_o_laid_premiseCounts, .ref a_o_laid_premises, .int s_o_laid_last])), (a_o_laid_premiseCounts, .inl (fx_cI X, 301, .inl f_o_laid_premiseCounts)), (a_o_laid_premises, .inl (fx_cI X, 903, .inl f_o_laid_premises)), (a_o_needed, .inl (fx_cZ X, 301, .inl y7))] H → va_D A [(a_o, .inr (4, [.ref a_o_axioms, .ref a_o_triples, .ref a_o_laid, .ref a_o_stated, .ref a_o_letters, .ref a_o_told, .ref a_o_needed, .ref a_o_reckoned, .int s_o_broken])), (a_o_laid, .inr (2, [.ref a_o_laid_ruleNumbers, .ref a_o_laid_instances, .ref a_o_laid_premiseCounts, .ref a_o_laid_premises, .int s_o_laid_last])), (a_o_laid_premiseCounts, .inl (fx_cI X, 301, .inl f_o_laid_premiseCounts)), (a_o_laid_premises, .inl (fx_cI X, 903, .inl f_o_laid_premises)), (a_o_needed, .inl (fx_cZ X, 301, .inl y7))] → va_S A s.heap H locs → lv_has ls 5 [(2, .int x6), (0, .ref a_o)] → W p l e _ s m _ below meth c H locs _ _ _ (F0 m 45 ls [])) (fun rec8 hrec8 x6 y7 h => ?_) h _ _ _ hP hD hS (lv_sub hl [0, 1] rfl)
      intro H locs ls hP hD hS hl
      refine lv_iload_n hx hb dX5_markProof_45 rfl (lv_at hl 0 rfl) ?_
      refine lv_iconst (v := (nI 1)) hx hb dX5_markProof_46 (by decide) ?_
      refine fx_icmp_lt (tgt := 116) hx hb h dX5_markProof_47 (by decide) (fun h => ?_) (fun h => ?_)
      · exact W.vret hx hb hr (fun t ht hW => ⟨⟨y7, rfl, h, by rw [ht]; exact hP, va_K.moved hW.alike hK, hD⟩, hS.F ht⟩) hS.2.2 dX5_markProof_116
      refine lv_iconst (v := (nI 0)) hx hb dX5_markProof_50 (by decide) ?_
      refine lv_istore_n (lv' := [(3, .int (nI 0)), (2, .int x6), (0, .ref a_o)]) hx hb dX5_markProof_51 rfl hl (by decide) rfl (fun ls hl => ?_)
      refine fx_loop2 (G := fun (x9 : Int32) (y10 : Nat → Int32) => ∀ (H : Heap) (locs : List Loc) (ls : Array Slot), va_P (fx_D X) vwCl [(a_o, .inr (4, [.ref a_o_axioms, .ref a_o_triples, .ref a_o_laid, .ref a_o_stated, .ref a_o_letters, .ref a_o_told, .ref a_o_needed, .ref a_o_reckoned, .int s_o_broken])), (a_o_laid, .inr (2, [.ref a_o_laid_ruleNumbers, .ref a_o_laid_instances, .ref a_o_laid_premiseCounts, .ref a_o_laid_premises, .int s_o_laid_last])), (a_o_laid_premiseCounts, .inl (fx_cI X, 301, .inl f_o_laid_premiseCounts)), (a_o_laid_premises, .inl (fx_cI X, 903, .inl f_o_laid_premises)), (a_o_needed, .inl (fx_cZ X, 301, .inl y10))] H → va_D A [(a_o, .inr (4, [.ref a_o_axioms, .ref a_o_triples, .ref a_o_laid, .ref a_o_stated, .ref a_o_letters, .ref a_o_told, .ref a_o_needed, .ref a_o_reckoned, .int s_o_broken])), (a_o_laid, .inr (2, [.ref a_o_laid_ruleNumbers, .ref a_o_laid_instances, .ref a_o_laid_premiseCounts, .ref a_o_laid_premises, .int s_o_laid_last])), (a_o_laid_premiseCounts, .inl (fx_cI X, 301, .inl f_o_laid_premiseCounts)), (a_o_laid_premises, .inl (fx_cI X, 903, .inl f_o_laid_premises)), (a_o_needed, .inl (fx_cZ X, 301, .inl y10))] → va_S A s.heap H locs → lv_has ls 5 [(3, .int x9), (2, .int x6), (0, .ref a_o)] → W p l e _ s m _ below meth c H locs _ _ _ (F0 m 52 ls [])) (fun rec11 hrec11 x9 y10 h => ?_) h _ _ _ hP hD hS (lv_sub hl [0, 1, 2] rfl)
      intro H locs ls hP hD hS hl
      refine lv_aload_n hx hb dX5_markProof_52 rfl (lv_at hl 2 rfl) ?_
      refine va_get (D := fx_D X) (ci := 4) (v := .ref a_o_needed) (C := RX5) (T := TX5) (N := 9) hx hb hts im_X5_markProof_X5 hown hK hP 0 rfl rfl 6 (by decide) k45 (fun _ h9 => h9) rfl dX5_markProof_53 ?_
      refine lv_iload_n hx hb dX5_markProof_56 rfl (lv_at hl 1 rfl) ?_
      refine fx_zald hx hb hK hP 4 2 rfl rfl h dX5_markProof_57 (fun v12 h => ?_)
      refine fx_if_eq (tgt := 110) hx hb h dX5_markProof_58 (by decide) (fun h => ?_) (fun h => ?_)
      · refine fx_iinc (y := (-1)) hx hb h dX5_markProof_110 (by decide) (fun v14 => [(2, .int v14), (3, .int x9), (0, .ref a_o)]) hl 1 rfl (by decide) (fun _ => rfl) (fun v14 ls h hl => ?_)
        refine lv_goto (tgt := 45) hx hb dX5_markProof_113 (by decide) ?_
        exact hrec8 _ _ h _ _ _ hP hD hS (lv_sub hl [0, 2] rfl)
      refine lv_iload_n hx hb dX5_markProof_61 rfl (lv_at hl 0 rfl) ?_
      refine lv_aload_n hx hb dX5_markProof_62 rfl (lv_at hl 2 rfl) ?_
      refine va_get (D := fx_D X) (ci := 4) (v := .ref a_o_laid) (C := RX5) (T := TX5) (N := 9) hx hb hts im_X5_markProof_X5 hown hK hP 0 rfl rfl 2 (by decide) k24 (fun _ h9 => h9) rfl dX5_markProof_63 ?_
      refine lv_iload_n hx hb dX5_markProof_66 rfl (lv_at hl 1 rfl) ?_
      refine vp_callSi (W.runV (As := [.int x6]) (rest := [.int x9]) ⟨hx, hb, hml, hown, hts⟩ (cw_X2_premiseCount l X a_o_laid a_o_laid_ruleNumbers a_o_laid_instances a_o_laid_premiseCounts a_o_laid_premises s_o_laid_last f_o_laid_premiseCounts x6 _ h) (cwV 1 hts gX5_markProof_X2_premiseCount rfl rfl rfl (by decide +kernel) ⟨Nat.le_of_ble_eq_true rfl, Nat.le_of_ble_eq_true rfl⟩) (fx_pv hP hK hG hS (va_recv hK hP (ci := 2) (q0 := 1) rfl rfl) [1, 2] rfl) rfl rfl hl.1 rfl (lv_room (Nat.le_of_ble_eq_true rfl)) dX5_markProof_67 ⟨Nat.le_of_ble_eq_true rfl, Nat.le_of_ble_eq_true rfl⟩) (fun r15 h => ?_)
      refine fx_icmp_ge (tgt := 110) hx hb h dX5_markProof_70 (by decide) (fun h => ?_) (fun h => ?_)
      · refine fx_iinc (y := (-1)) hx hb h dX5_markProof_110 (by decide) (fun v16 => [(2, .int v16), (3, .int x9), (0, .ref a_o)]) hl 1 rfl (by decide) (fun _ => rfl) (fun v16 ls h hl => ?_)
        refine lv_goto (tgt := 45) hx hb dX5_markProof_113 (by decide) ?_
        exact hrec8 _ _ h _ _ _ hP hD hS (lv_sub hl [0, 2] rfl)
      refine lv_aload_n hx hb dX5_markProof_73 rfl (lv_at hl 2 rfl) ?_
      refine va_get (D := fx_D X) (ci := 4) (v := .ref a_o_laid) (C := RX5) (T := TX5) (N := 9) hx hb hts im_X5_markProof_X5 hown hK hP 0 rfl rfl 2 (by decide) k24 (fun _ h9 => h9) rfl dX5_markProof_74 ?_
      refine lv_iload_n hx hb dX5_markProof_77 rfl (lv_at hl 1 rfl) ?_
      refine lv_iload_n hx hb dX5_markProof_78 rfl (lv_at hl 0 rfl) ?_
      refine vp_callSi (W.runV (As := [.int x6, .int x9]) (rest := []) ⟨hx, hb, hml, hown, hts⟩ (cw_X2_premiseAt l X a_o_laid a_o_laid_ruleNumbers a_o_laid_instances a_o_laid_premiseCounts a_o_laid_premises s_o_laid_last f_o_laid_premiseCounts f_o_laid_premises x6 x9 _ h) (cwV 2 hts gX5_markProof_X2_premiseAt rfl rfl rfl (by decide +kernel) ⟨Nat.le_of_ble_eq_true rfl, Nat.le_of_ble_eq_true rfl⟩) (fx_pv hP hK hG hS (va_recv hK hP (ci := 2) (q0 := 1) rfl rfl) [1, 2, 3] rfl) rfl rfl hl.1 rfl (lv_room (Nat.le_of_ble_eq_true rfl)) dX5_markProof_79 ⟨Nat.le_of_ble_eq_true rfl, Nat.le_of_ble_eq_true rfl⟩) (fun r17 h => ?_)
      refine lv_istore (lv' := [(4, .int r17), (3, .int x9), (2, .int x6), (0, .ref a_o)]) hx hb dX5_markProof_82 hl (by decide) rfl (fun ls hl => ?_)
      refine lv_aload_n hx hb dX5_markProof_84 rfl (lv_at hl 3 rfl) ?_
      refine va_get (D := fx_D X) (ci := 4) (v := .ref a_o_laid) (C := RX5) (T := TX5) (N := 9) hx hb hts im_X5_markProof_X5 hown hK hP 0 rfl rfl 2 (by decide) k24 (fun _ h9 => h9) rfl dX5_markProof_85 ?_
      refine lv_iload hx hb dX5_markProof_88 (lv_at hl 0 rfl) ?_
      refine vp_callSi (W.runV (As := [.int r17]) (rest := []) ⟨hx, hb, hml, hown, hts⟩ (cw_X2_has l X a_o_laid a_o_laid_ruleNumbers a_o_laid_instances a_o_laid_premiseCounts a_o_laid_premises s_o_laid_last r17 _ h) (cwV 1 hts gX5_markProof_X2_has rfl rfl rfl (by decide +kernel) ⟨Nat.le_of_ble_eq_true rfl, Nat.le_of_ble_eq_true rfl⟩) (fx_pv hP hK hG hS (va_recv hK hP (ci := 2) (q0 := 1) rfl rfl) [1] rfl) rfl rfl hl.1 rfl (lv_room (Nat.le_of_ble_eq_true rfl)) dX5_markProof_90 ⟨Nat.le_of_ble_eq_true rfl, Nat.le_of_ble_eq_true rfl⟩) (fun r18 h => ?_)
      refine fx_if_eq (tgt := 104) hx hb h dX5_markProof_93 (by decide) (fun h => ?_) (fun h => ?_)
      · refine fx_iinc (y := (nI 1)) hx hb h dX5_markProof_104 (by decide) (fun v19 => [(3, .int v19), (4, .int r17), (2, .int x6), (0, .ref a_o)]) hl 1 rfl (by decide) (fun _ => rfl) (fun v19 ls h hl => ?_)
        refine lv_goto (tgt := 52) hx hb dX5_markProof_107 (by decide) ?_
        exact hrec11 _ _ h _ _ _ hP hD hS (lv_sub hl [0, 2, 3] rfl)
      refine lv_aload_n hx hb dX5_markProof_96 rfl (lv_at hl 3 rfl) ?_
      refine va_get (D := fx_D X) (ci := 4) (v := .ref a_o_needed) (C := RX5) (T := TX5) (N := 9) hx hb hts im_X5_markProof_X5 hown hK hP 0 rfl rfl 6 (by decide) k45 (fun _ h9 => h9) rfl dX5_markProof_97 ?_
      refine lv_iload hx hb dX5_markProof_100 (lv_at hl 0 rfl) ?_
      refine lv_iconst (v := (nI 1)) hx hb dX5_markProof_102 (by decide) ?_
      refine fx_zast hx hb hK hP hD hS 4 2 rfl rfl h dX5_markProof_103 (fun g20 => [(a_o, .inr (4, [.ref a_o_axioms, .ref a_o_triples, .ref a_o_laid, .ref a_o_stated, .ref a_o_letters, .ref a_o_told, .ref a_o_needed, .ref a_o_reckoned, .int s_o_broken])), (a_o_laid, .inr (2, [.ref a_o_laid_ruleNumbers, .ref a_o_laid_instances, .ref a_o_laid_premiseCounts, .ref a_o_laid_premises, .int s_o_laid_last])), (a_o_laid_premiseCounts, .inl (fx_cI X, 301, .inl f_o_laid_premiseCounts)), (a_o_laid_premises, .inl (fx_cI X, 903, .inl f_o_laid_premises)), (a_o_needed, .inl (fx_cZ X, 301, .inl g20))]) (fun _ => rfl) (fun H locs g20 h hP hD hS => ?_)
      refine fx_iinc (y := (nI 1)) hx hb h dX5_markProof_104 (by decide) (fun v21 => [(3, .int v21), (4, .int r17), (2, .int x6), (0, .ref a_o)]) hl 1 rfl (by decide) (fun _ => rfl) (fun v21 ls h hl => ?_)
      refine lv_goto (tgt := 52) hx hb dX5_markProof_107 (by decide) ?_
      exact hrec11 _ _ h _ _ _ hP hD hS (lv_sub hl [0, 2, 3] rfl)
    exact W.vret hx hb hr (fun t ht hW => ⟨⟨y2, rfl, h, by rw [ht]; exact hP, va_K.moved hW.alike hK, hD⟩, hS.F ht⟩) hS.2.2 dX5_markProof_35
  refine lv_aload_n hx hb dX5_markProof_11 rfl (lv_at hl 1 rfl) ?_
  refine va_get (D := fx_D X) (ci := 4) (v := .ref a_o_needed) (C := RX5) (T := TX5) (N := 9) hx hb hts im_X5_markProof_X5 hown hK hP 0 rfl rfl 6 (by decide) k45 (fun _ h9 => h9) rfl dX5_markProof_12 ?_
  refine lv_iload_n hx hb dX5_markProof_15 rfl (lv_at hl 0 rfl) ?_
  refine lv_iconst (v := (nI 0)) hx hb dX5_markProof_16 (by decide) ?_
  refine fx_zast hx hb hK hP hD hS 4 2 rfl rfl h dX5_markProof_17 (fun g24 => [(a_o, .inr (4, [.ref a_o_axioms, .ref a_o_triples, .ref a_o_laid, .ref a_o_stated, .ref a_o_letters, .ref a_o_told, .ref a_o_needed, .ref a_o_reckoned, .int s_o_broken])), (a_o_laid, .inr (2, [.ref a_o_laid_ruleNumbers, .ref a_o_laid_instances, .ref a_o_laid_premiseCounts, .ref a_o_laid_premises, .int s_o_laid_last])), (a_o_laid_premiseCounts, .inl (fx_cI X, 301, .inl f_o_laid_premiseCounts)), (a_o_laid_premises, .inl (fx_cI X, 903, .inl f_o_laid_premises)), (a_o_needed, .inl (fx_cZ X, 301, .inl g24))]) (fun _ => rfl) (fun H locs g24 h hP hD hS => ?_)
  refine fx_iinc (y := (nI 1)) hx hb h dX5_markProof_18 (by decide) (fun v25 => [(2, .int v25), (0, .ref a_o), (1, .int p1)]) hl 0 rfl (by decide) (fun _ => rfl) (fun v25 ls h hl => ?_)
  refine lv_goto (tgt := 2) hx hb dX5_markProof_21 (by decide) ?_
  exact hrec3 _ _ h _ _ _ hP hD hS (lv_sub hl [0, 1, 2] rfl)

/-- X5_leastBroken: its walk -/
def wp_X5_leastBroken (post : Int32 → Prop) (f_o_stated_kinds : Nat → Int32) (f_o_needed : Nat → Int32) (p1 : Int32) : Prop :=
  fx_wh1 (fun (rec2 : Int32 → Prop) (x1 : Int32) => fx_br (p1 < x1) (post (nI 0)) (fx_br ((nI 301) ≤ x1) (post (nI 0)) (fx_ix x1 301 (fun k4 => fx_nm (f_o_needed k4) (fun v3 => fx_br (v3 = 0) (fx_nm (x1 + (nI 1)) (fun v5 => rec2 v5)) (wp_X4_has (fun r6 => fx_br (r6 = 0) (post x1) (fx_nm (x1 + (nI 1)) (fun v7 => rec2 v7))) 301 f_o_stated_kinds x1)))))) (nI 1)
theorem im_X5_leastBroken_X5 : ∀ w ∈ u_ws RX5 TX5 9, w ∈ wsX5_leastBroken := by decide +kernel
set_option maxHeartbeats 4000000 in
set_option maxRecDepth 100000 in
theorem cw_X5_leastBroken (l : Launch) (X : fx_X) (a_o : Nat) (a_o_axioms : Nat) (a_o_triples : Nat) (a_o_laid : Nat) (a_o_stated : Nat) (a_o_letters : Nat) (a_o_told : Nat) (a_o_needed : Nat) (a_o_reckoned : Nat) (a_o_stated_kinds : Nat) (a_o_stated_numbers : Nat) (s_o_broken : Int32) (s_o_stated_count : Int32) (f_o_stated_kinds : Nat → Int32) (f_o_needed : Nat → Int32) (p1 : Int32) (post : Int32 → Prop) (h : wp_X5_leastBroken post f_o_stated_kinds f_o_needed p1) : Met l yX5_leastBroken wsX5_leastBroken ({ frames := 2, cells := 0, slots := 0, locals := 42 }) (va_Pc [.ref a_o, .int p1] (fx_PP X [(a_o, .inr (4, [.ref a_o_axioms, .ref a_o_triples, .ref a_o_laid, .ref a_o_stated, .ref a_o_letters, .ref a_o_told, .ref a_o_needed, .ref a_o_reckoned, .int s_o_broken])), (a_o_stated, .inr (3, [.ref a_o_stated_kinds, .ref a_o_stated_numbers, .int s_o_stated_count])), (a_o_stated_kinds, .inl (fx_cI X, 301, .inl f_o_stated_kinds)), (a_o_needed, .inl (fx_cZ X, 301, .inl f_o_needed))])) (vp_Si post) 0 0 (fun _ => False) := by
  refine Met.ofW (cc := cX5_leastBroken) (maxL := 3) (ret := (some .int)) (by decide) rfl ?_
  intro p e s m args below meth c s₁ B hml hv
  obtain ⟨rfl, hP, hK, hG⟩ := hv
  have hx := B.exec
  have hb := B.bytes
  have hr := B.returns
  have hts := atoms_spec (ws := wsX5_leastBroken) B.pre
  have hown : s.vm.findClass RX5 = some m.cls := findClass_of_methodNamed B.named
  have hlocks := B.notSynchronized
  have hS : va_S (fun _ => False) s.heap s.heap [] := va_S.rf
  have k28 := hts (.fieldLink RX5 28 "ProofChecker" "stated" "LProofChecker$Statements;") (by decide +kernel)
  have k45 := hts (.fieldLink RX5 45 "ProofChecker" "needed" "[Z") (by decide +kernel)
  have hl := lv_entry ([.ref a_o, .int p1]) (n := 3) (Nat.le_of_ble_eq_true rfl)
  rw [lg_entry_eq]
  generalize (lg_sl ([.ref a_o, .int p1]) ++ List.replicate (3 - (lg_sl ([.ref a_o, .int p1])).length) Slot.unset).toArray = ls at hl ⊢
  have hl : lv_has ls 3 [(0, .ref a_o), (1, .int p1)] := hl
  unfold wp_X5_leastBroken at h
  refine lv_iconst (v := (nI 1)) hx hb dX5_leastBroken_0 (by decide) ?_
  refine lv_istore_n (lv' := [(2, .int (nI 1)), (0, .ref a_o), (1, .int p1)]) hx hb dX5_leastBroken_1 rfl hl (by decide) rfl (fun ls hl => ?_)
  refine fx_loop1 (G := fun (x1 : Int32) => ∀ (ls : Array Slot), lv_has ls 3 [(2, .int x1), (0, .ref a_o), (1, .int p1)] → W p l e _ s m _ below meth c s.heap [] _ _ _ (F0 m 2 ls [])) (fun rec2 hrec2 x1 h => ?_) h _ (lv_sub hl [0, 1, 2] rfl)
  intro ls hl
  refine lv_iload_n hx hb dX5_leastBroken_2 rfl (lv_at hl 0 rfl) ?_
  refine lv_iload_n hx hb dX5_leastBroken_3 rfl (lv_at hl 2 rfl) ?_
  refine fx_icmp_gt (tgt := 44) hx hb h dX5_leastBroken_4 (by decide) (fun h => ?_) (fun h => ?_)
  · refine lv_iconst (v := (nI 0)) hx hb dX5_leastBroken_44 (by decide) ?_
    exact W.iret (v := (nI 0)) hx hb hr  (fun t ht hW => ⟨_, rfl, h, ht⟩) (fun q hq => by cases hq) dX5_leastBroken_45
  refine lv_iload_n hx hb dX5_leastBroken_7 rfl (lv_at hl 0 rfl) ?_
  refine lv_aload_n hx hb dX5_leastBroken_8 rfl (lv_at hl 1 rfl) ?_
  refine va_get (D := fx_D X) (ci := 4) (v := .ref a_o_needed) (C := RX5) (T := TX5) (N := 9) hx hb hts im_X5_leastBroken_X5 hown hK hP 0 rfl rfl 6 (by decide) k45 (fun _ h9 => h9) rfl dX5_leastBroken_9 ?_
  refine va_alen (v := nI 301) hx hb hK hP 3 2 rfl rfl rfl dX5_leastBroken_12 ?_
  refine fx_icmp_ge (tgt := 44) hx hb h dX5_leastBroken_13 (by decide) (fun h => ?_) (fun h => ?_)
  · refine lv_iconst (v := (nI 0)) hx hb dX5_leastBroken_44 (by decide) ?_
    exact W.iret (v := (nI 0)) hx hb hr  (fun t ht hW => ⟨_, rfl, h, ht⟩) (fun q hq => by cases hq) dX5_leastBroken_45
  refine lv_aload_n hx hb dX5_leastBroken_16 rfl (lv_at hl 1 rfl) ?_
  refine va_get (D := fx_D X) (ci := 4) (v := .ref a_o_needed) (C := RX5) (T := TX5) (N := 9) hx hb hts im_X5_leastBroken_X5 hown hK hP 0 rfl rfl 6 (by decide) k45 (fun _ h9 => h9) rfl dX5_leastBroken_17 ?_
  refine lv_iload_n hx hb dX5_leastBroken_20 rfl (lv_at hl 0 rfl) ?_
  refine fx_zald hx hb hK hP 3 2 rfl rfl h dX5_leastBroken_21 (fun v3 h => ?_)
  refine fx_if_eq (tgt := 38) hx hb h dX5_leastBroken_22 (by decide) (fun h => ?_) (fun h => ?_)
  · refine fx_iinc (y := (nI 1)) hx hb h dX5_leastBroken_38 (by decide) (fun v5 => [(2, .int v5), (0, .ref a_o), (1, .int p1)]) hl 0 rfl (by decide) (fun _ => rfl) (fun v5 ls h hl => ?_)
    refine lv_goto (tgt := 2) hx hb dX5_leastBroken_41 (by decide) ?_
    exact hrec2 _ h _ (lv_sub hl [0, 1, 2] rfl)
  refine lv_aload_n hx hb dX5_leastBroken_25 rfl (lv_at hl 1 rfl) ?_
  refine va_get (D := fx_D X) (ci := 4) (v := .ref a_o_stated) (C := RX5) (T := TX5) (N := 9) hx hb hts im_X5_leastBroken_X5 hown hK hP 0 rfl rfl 3 (by decide) k28 (fun _ h9 => h9) rfl dX5_leastBroken_26 ?_
  refine lv_iload_n hx hb dX5_leastBroken_29 rfl (lv_at hl 0 rfl) ?_
  refine vp_callSi (W.runV (As := [.int x1]) (rest := []) ⟨hx, hb, hml, hown, hts⟩ (cw_X4_has l X a_o_stated a_o_stated_kinds a_o_stated_numbers 301 s_o_stated_count f_o_stated_kinds x1 _ h) (cwV 1 hts gX5_leastBroken_X4_has rfl rfl rfl (by decide +kernel) ⟨Nat.le_of_ble_eq_true rfl, Nat.le_of_ble_eq_true rfl⟩) (fx_pv hP hK hG hS (va_recv hK hP (ci := 3) (q0 := 1) rfl rfl) [1, 2] rfl) rfl rfl hl.1 rfl (lv_room (Nat.le_of_ble_eq_true rfl)) dX5_leastBroken_30 ⟨Nat.le_of_ble_eq_true rfl, Nat.le_of_ble_eq_true rfl⟩) (fun r6 h => ?_)
  refine fx_if_ne (tgt := 38) hx hb h dX5_leastBroken_33 (by decide) (fun h => ?_) (fun h => ?_)
  · refine fx_iinc (y := (nI 1)) hx hb h dX5_leastBroken_38 (by decide) (fun v7 => [(2, .int v7), (0, .ref a_o), (1, .int p1)]) hl 0 rfl (by decide) (fun _ => rfl) (fun v7 ls h hl => ?_)
    refine lv_goto (tgt := 2) hx hb dX5_leastBroken_41 (by decide) ?_
    exact hrec2 _ h _ (lv_sub hl [0, 1, 2] rfl)
  refine lv_iload_n hx hb dX5_leastBroken_36 rfl (lv_at hl 0 rfl) ?_
  exact W.iret (v := x1) hx hb hr  (fun t ht hW => ⟨_, rfl, h, ht⟩) (fun q hq => by cases hq) dX5_leastBroken_37

/-- X5_check: its walk -/
def wp_X5_check (post : Int32 → Int32 → (Nat → Int32) → Prop) (s_o_broken : Int32) (s_o_laid_last : Int32) (f_o_laid_premiseCounts : Nat → Int32) (f_o_laid_premises : Nat → Int32) (f_o_stated_kinds : Nat → Int32) (f_o_needed : Nat → Int32) (p1 : Int32) : Prop :=
  wp_X2_has (fun r1 => fx_br (r1 = 0) (post (-1) s_o_broken f_o_needed) (wp_X5_markProof (fun y2 => wp_X5_leastBroken (fun r3 => wp_X4_has (fun r4 => fx_br (r4 = 0) (post (nI 0) r3 y2) (post (nI 1) r3 y2)) 301 f_o_stated_kinds p1) f_o_stated_kinds y2 p1) s_o_laid_last f_o_laid_premiseCounts f_o_laid_premises f_o_needed p1)) s_o_laid_last p1
theorem im_X5_check_X5 : ∀ w ∈ u_ws RX5 TX5 9, w ∈ wsX5_check := by decide +kernel
set_option maxHeartbeats 4000000 in
set_option maxRecDepth 100000 in
theorem cw_X5_check (l : Launch) (X : fx_X) (a_o : Nat) (a_o_axioms : Nat) (a_o_triples : Nat) (a_o_laid : Nat) (a_o_stated : Nat) (a_o_letters : Nat) (a_o_told : Nat) (a_o_needed : Nat) (a_o_reckoned : Nat) (a_o_laid_ruleNumbers : Nat) (a_o_laid_instances : Nat) (a_o_laid_premiseCounts : Nat) (a_o_laid_premises : Nat) (a_o_stated_kinds : Nat) (a_o_stated_numbers : Nat) (s_o_broken : Int32) (s_o_laid_last : Int32) (f_o_laid_premiseCounts : Nat → Int32) (f_o_laid_premises : Nat → Int32) (s_o_stated_count : Int32) (f_o_stated_kinds : Nat → Int32) (f_o_needed : Nat → Int32) (sz : Nat) (p1 : Int32) (post : Int32 → Int32 → (Nat → Int32) → Prop) (h : wp_X5_check post s_o_broken s_o_laid_last f_o_laid_premiseCounts f_o_laid_premises f_o_stated_kinds f_o_needed p1) : Met l yX5_check wsX5_check ({ frames := 4, cells := 0, slots := 0, locals := 89 }) (va_Pc [.ref a_o, .int p1] (fx_PW X [(a_o, .inr (4, [.ref a_o_axioms, .ref a_o_triples, .ref a_o_laid, .ref a_o_stated, .ref a_o_letters, .ref a_o_told, .ref a_o_needed, .ref a_o_reckoned, .int s_o_broken])), (a_o_laid, .inr (2, [.ref a_o_laid_ruleNumbers, .ref a_o_laid_instances, .ref a_o_laid_premiseCounts, .ref a_o_laid_premises, .int s_o_laid_last])), (a_o_laid_premiseCounts, .inl (fx_cI X, 301, .inl f_o_laid_premiseCounts)), (a_o_laid_premises, .inl (fx_cI X, 903, .inl f_o_laid_premises)), (a_o_stated, .inr (3, [.ref a_o_stated_kinds, .ref a_o_stated_numbers, .int s_o_stated_count])), (a_o_stated_kinds, .inl (fx_cI X, 301, .inl f_o_stated_kinds)), (a_o_needed, .inl (fx_cZ X, 301, .inl f_o_needed))] sz)) (va_Qi (fun r (u : Int32 × (Nat → Int32)) => post r u.1 u.2) (fun (u : Int32 × (Nat → Int32)) t => fx_EW X (va_A [(a_o, .inr (4, [.ref a_o_axioms, .ref a_o_triples, .ref a_o_laid, .ref a_o_stated, .ref a_o_letters, .ref a_o_told, .ref a_o_needed, .ref a_o_reckoned, .int s_o_broken])), (a_o_laid, .inr (2, [.ref a_o_laid_ruleNumbers, .ref a_o_laid_instances, .ref a_o_laid_premiseCounts, .ref a_o_laid_premises, .int s_o_laid_last])), (a_o_laid_premiseCounts, .inl (fx_cI X, 301, .inl f_o_laid_premiseCounts)), (a_o_laid_premises, .inl (fx_cI X, 903, .inl f_o_laid_premises)), (a_o_stated, .inr (3, [.ref a_o_stated_kinds, .ref a_o_stated_numbers, .int s_o_stated_count])), (a_o_stated_kinds, .inl (fx_cI X, 301, .inl f_o_stated_kinds)), (a_o_needed, .inl (fx_cZ X, 301, .inl f_o_needed))] sz) [(a_o, .inr (4, [.ref a_o_axioms, .ref a_o_triples, .ref a_o_laid, .ref a_o_stated, .ref a_o_letters, .ref a_o_told, .ref a_o_needed, .ref a_o_reckoned, .int u.1])), (a_o_laid, .inr (2, [.ref a_o_laid_ruleNumbers, .ref a_o_laid_instances, .ref a_o_laid_premiseCounts, .ref a_o_laid_premises, .int s_o_laid_last])), (a_o_laid_premiseCounts, .inl (fx_cI X, 301, .inl f_o_laid_premiseCounts)), (a_o_laid_premises, .inl (fx_cI X, 903, .inl f_o_laid_premises)), (a_o_stated, .inr (3, [.ref a_o_stated_kinds, .ref a_o_stated_numbers, .int s_o_stated_count])), (a_o_stated_kinds, .inl (fx_cI X, 301, .inl f_o_stated_kinds)), (a_o_needed, .inl (fx_cZ X, 301, .inl u.2))] t) (va_A [(a_o, .inr (4, [.ref a_o_axioms, .ref a_o_triples, .ref a_o_laid, .ref a_o_stated, .ref a_o_letters, .ref a_o_told, .ref a_o_needed, .ref a_o_reckoned, .int s_o_broken])), (a_o_laid, .inr (2, [.ref a_o_laid_ruleNumbers, .ref a_o_laid_instances, .ref a_o_laid_premiseCounts, .ref a_o_laid_premises, .int s_o_laid_last])), (a_o_laid_premiseCounts, .inl (fx_cI X, 301, .inl f_o_laid_premiseCounts)), (a_o_laid_premises, .inl (fx_cI X, 903, .inl f_o_laid_premises)), (a_o_stated, .inr (3, [.ref a_o_stated_kinds, .ref a_o_stated_numbers, .int s_o_stated_count])), (a_o_stated_kinds, .inl (fx_cI X, 301, .inl f_o_stated_kinds)), (a_o_needed, .inl (fx_cZ X, 301, .inl f_o_needed))] sz)) 0 0 (va_A [(a_o, .inr (4, [.ref a_o_axioms, .ref a_o_triples, .ref a_o_laid, .ref a_o_stated, .ref a_o_letters, .ref a_o_told, .ref a_o_needed, .ref a_o_reckoned, .int s_o_broken])), (a_o_laid, .inr (2, [.ref a_o_laid_ruleNumbers, .ref a_o_laid_instances, .ref a_o_laid_premiseCounts, .ref a_o_laid_premises, .int s_o_laid_last])), (a_o_laid_premiseCounts, .inl (fx_cI X, 301, .inl f_o_laid_premiseCounts)), (a_o_laid_premises, .inl (fx_cI X, 903, .inl f_o_laid_premises)), (a_o_stated, .inr (3, [.ref a_o_stated_kinds, .ref a_o_stated_numbers, .int s_o_stated_count])), (a_o_stated_kinds, .inl (fx_cI X, 301, .inl f_o_stated_kinds)), (a_o_needed, .inl (fx_cZ X, 301, .inl f_o_needed))] sz) := by
  refine Met.ofW (cc := cX5_check) (maxL := 2) (ret := (some .int)) (by decide) rfl ?_
  intro p e s m args below meth c s₁ B hml hv
  obtain ⟨rfl, hsz, hP, hK, hD0, hG⟩ := hv
  have hx := B.exec
  have hb := B.bytes
  have hr := B.returns
  have hts := atoms_spec (ws := wsX5_check) B.pre
  have hown : s.vm.findClass RX5 = some m.cls := findClass_of_methodNamed B.named
  have hlocks := B.notSynchronized
  subst hsz
  have hD := hD0.self (sz := s.heap.size)
  generalize hAe : va_A [(a_o, .inr (4, [.ref a_o_axioms, .ref a_o_triples, .ref a_o_laid, .ref a_o_stated, .ref a_o_letters, .ref a_o_told, .ref a_o_needed, .ref a_o_reckoned, .int s_o_broken])), (a_o_laid, .inr (2, [.ref a_o_laid_ruleNumbers, .ref a_o_laid_instances, .ref a_o_laid_premiseCounts, .ref a_o_laid_premises, .int s_o_laid_last])), (a_o_laid_premiseCounts, .inl (fx_cI X, 301, .inl f_o_laid_premiseCounts)), (a_o_laid_premises, .inl (fx_cI X, 903, .inl f_o_laid_premises)), (a_o_stated, .inr (3, [.ref a_o_stated_kinds, .ref a_o_stated_numbers, .int s_o_stated_count])), (a_o_stated_kinds, .inl (fx_cI X, 301, .inl f_o_stated_kinds)), (a_o_needed, .inl (fx_cZ X, 301, .inl f_o_needed))] s.heap.size = A at hD hG ⊢
  have hA : ∀ q : Nat, s.heap.size ≤ q → A q := fun q h => by rw [← hAe]; exact Or.inr h
  have hS : va_S A s.heap s.heap [] := va_S.rf
  have k28 := hts (.fieldLink RX5 28 "ProofChecker" "stated" "LProofChecker$Statements;") (by decide +kernel)
  have k53 := hts (.fieldLink RX5 53 "ProofChecker" "broken" "I") (by decide +kernel)
  have k24 := hts (.fieldLink RX5 24 "ProofChecker" "laid" "LProofChecker$Rows;") (by decide +kernel)
  have hl := lv_entry ([.ref a_o, .int p1]) (n := 2) (Nat.le_of_ble_eq_true rfl)
  rw [lg_entry_eq]
  generalize (lg_sl ([.ref a_o, .int p1]) ++ List.replicate (2 - (lg_sl ([.ref a_o, .int p1])).length) Slot.unset).toArray = ls at hl ⊢
  have hl : lv_has ls 2 [(0, .ref a_o), (1, .int p1)] := hl
  unfold wp_X5_check at h
  refine lv_aload_n hx hb dX5_check_0 rfl (lv_at hl 0 rfl) ?_
  refine va_get (D := fx_D X) (ci := 4) (v := .ref a_o_laid) (C := RX5) (T := TX5) (N := 9) hx hb hts im_X5_check_X5 hown hK hP 0 rfl rfl 2 (by decide) k24 (fun _ h9 => h9) rfl dX5_check_1 ?_
  refine lv_iload_n hx hb dX5_check_4 rfl (lv_at hl 1 rfl) ?_
  refine vp_callSi (W.runV (As := [.int p1]) (rest := []) ⟨hx, hb, hml, hown, hts⟩ (cw_X2_has l X a_o_laid a_o_laid_ruleNumbers a_o_laid_instances a_o_laid_premiseCounts a_o_laid_premises s_o_laid_last p1 _ h) (cwV 1 hts gX5_check_X2_has rfl rfl rfl (by decide +kernel) ⟨Nat.le_of_ble_eq_true rfl, Nat.le_of_ble_eq_true rfl⟩) (fx_pv hP hK hG hS (va_recv hK hP (ci := 2) (q0 := 1) rfl rfl) [1] rfl) rfl rfl hl.1 rfl (lv_room (Nat.le_of_ble_eq_true rfl)) dX5_check_5 ⟨Nat.le_of_ble_eq_true rfl, Nat.le_of_ble_eq_true rfl⟩) (fun r1 h => ?_)
  refine fx_if_ne (tgt := 13) hx hb h dX5_check_8 (by decide) (fun h => ?_) (fun h => ?_)
  · refine lv_aload_n hx hb dX5_check_13 rfl (lv_at hl 0 rfl) ?_
    refine lv_iload_n hx hb dX5_check_14 rfl (lv_at hl 1 rfl) ?_
    have hFc := va_free (wc := [(a_o, .inr (4, [.ref a_o_axioms, .ref a_o_triples, .ref a_o_laid, .ref a_o_stated, .ref a_o_letters, .ref a_o_told, .ref a_o_needed, .ref a_o_reckoned, .int s_o_broken])), (a_o_laid, .inr (2, [.ref a_o_laid_ruleNumbers, .ref a_o_laid_instances, .ref a_o_laid_premiseCounts, .ref a_o_laid_premises, .int s_o_laid_last])), (a_o_laid_premiseCounts, .inl (fx_cI X, 301, .inl f_o_laid_premiseCounts)), (a_o_laid_premises, .inl (fx_cI X, 903, .inl f_o_laid_premises)), (a_o_needed, .inl (fx_cZ X, 301, .inl f_o_needed))]) hD hS hA [0, 1, 2, 3, 6] rfl
    refine va_callv (va_runV (As := [.int p1]) (rest := []) ⟨hx, hb, hml, hown, hts⟩ (cw_X5_markProof l X a_o a_o_axioms a_o_triples a_o_laid a_o_stated a_o_letters a_o_told a_o_needed a_o_reckoned a_o_laid_ruleNumbers a_o_laid_instances a_o_laid_premiseCounts a_o_laid_premises s_o_broken s_o_laid_last f_o_laid_premiseCounts f_o_laid_premises f_o_needed _ p1 _ h) (cwV 1 hts gX5_check_X5_markProof rfl rfl rfl (by decide +kernel) ⟨Nat.le_of_ble_eq_true rfl, Nat.le_of_ble_eq_true rfl⟩) (fx_pvW hP hD hK hG hS hFc (va_recv hK hP (ci := 4) (q0 := 0) rfl rfl) [0, 1, 2, 3, 6] (by decide) rfl) rfl rfl hl.1 rfl (lv_room (Nat.le_of_ble_eq_true rfl)) dX5_check_15 ⟨Nat.le_of_ble_eq_true rfl, Nat.le_of_ble_eq_true rfl⟩) hS (fun q _ h => hFc q h) hFc (fun u t H locs ht hvm h hB _ hk hS => ?_)
    obtain ⟨y2, rfl⟩ : ∃ z, z = u := ⟨_, rfl⟩
    obtain ⟨hP, hD⟩ := fx_back (wr := [(a_o_stated, .inr (3, [.ref a_o_stated_kinds, .ref a_o_stated_numbers, .int s_o_stated_count])), (a_o_stated_kinds, .inl (fx_cI X, 301, .inl f_o_stated_kinds))]) (ws' := [(a_o, .inr (4, [.ref a_o_axioms, .ref a_o_triples, .ref a_o_laid, .ref a_o_stated, .ref a_o_letters, .ref a_o_told, .ref a_o_needed, .ref a_o_reckoned, .int s_o_broken])), (a_o_laid, .inr (2, [.ref a_o_laid_ruleNumbers, .ref a_o_laid_instances, .ref a_o_laid_premiseCounts, .ref a_o_laid_premises, .int s_o_laid_last])), (a_o_laid_premiseCounts, .inl (fx_cI X, 301, .inl f_o_laid_premiseCounts)), (a_o_laid_premises, .inl (fx_cI X, 903, .inl f_o_laid_premises)), (a_o_stated, .inr (3, [.ref a_o_stated_kinds, .ref a_o_stated_numbers, .int s_o_stated_count])), (a_o_stated_kinds, .inl (fx_cI X, 301, .inl f_o_stated_kinds)), (a_o_needed, .inl (fx_cZ X, 301, .inl y2))]) hP hD [0, 1, 2, 3, 6] [4, 5] rfl rfl (by decide) (by decide) hk hFc hB ht [2, 3, 4, 5, 0, 1, 6] (by decide) rfl
    refine lv_aload_n hx hb dX5_check_18 rfl (lv_at hl 0 rfl) ?_
    refine lv_aload_n hx hb dX5_check_19 rfl (lv_at hl 0 rfl) ?_
    refine lv_iload_n hx hb dX5_check_20 rfl (lv_at hl 1 rfl) ?_
    refine vp_callSi (W.runV (As := [.int p1]) (rest := [.ref a_o]) ⟨hx, hb, hml, hown, hts⟩ (cw_X5_leastBroken l X a_o a_o_axioms a_o_triples a_o_laid a_o_stated a_o_letters a_o_told a_o_needed a_o_reckoned a_o_stated_kinds a_o_stated_numbers s_o_broken s_o_stated_count f_o_stated_kinds y2 p1 _ h) (cwV 1 hts gX5_check_X5_leastBroken rfl rfl rfl (by decide +kernel) ⟨Nat.le_of_ble_eq_true rfl, Nat.le_of_ble_eq_true rfl⟩) (fx_pv hP hK hG hS (va_recv hK hP (ci := 4) (q0 := 0) rfl rfl) [0, 4, 5, 6] rfl) rfl rfl hl.1 rfl (lv_room (Nat.le_of_ble_eq_true rfl)) dX5_check_21 ⟨Nat.le_of_ble_eq_true rfl, Nat.le_of_ble_eq_true rfl⟩) (fun r3 h => ?_)
    refine va_put (D := fx_D X) (ci := 4) (v := .int r3) (ty := .int) (C := RX5) (T := TX5) (N := 9) hx hb hts im_X5_check_X5 tyX5 tyX5_ok nmX5 hown hK hP hD hS 0 rfl rfl 8 (by decide) k53 (fun _ h9 => h9) rfl (by decide +kernel) rfl rfl (Nat.le_of_ble_eq_true rfl) dX5_check_24 (fun H locs hP hD hS => ?_)
    have hP : va_P (fx_D X) vwCl [(a_o, .inr (4, [.ref a_o_axioms, .ref a_o_triples, .ref a_o_laid, .ref a_o_stated, .ref a_o_letters, .ref a_o_told, .ref a_o_needed, .ref a_o_reckoned, .int r3])), (a_o_laid, .inr (2, [.ref a_o_laid_ruleNumbers, .ref a_o_laid_instances, .ref a_o_laid_premiseCounts, .ref a_o_laid_premises, .int s_o_laid_last])), (a_o_laid_premiseCounts, .inl (fx_cI X, 301, .inl f_o_laid_premiseCounts)), (a_o_laid_premises, .inl (fx_cI X, 903, .inl f_o_laid_premises)), (a_o_stated, .inr (3, [.ref a_o_stated_kinds, .ref a_o_stated_numbers, .int s_o_stated_count])), (a_o_stated_kinds, .inl (fx_cI X, 301, .inl f_o_stated_kinds)), (a_o_needed, .inl (fx_cZ X, 301, .inl y2))] H := hP
    have hD : va_D A [(a_o, .inr (4, [.ref a_o_axioms, .ref a_o_triples, .ref a_o_laid, .ref a_o_stated, .ref a_o_letters, .ref a_o_told, .ref a_o_needed, .ref a_o_reckoned, .int r3])), (a_o_laid, .inr (2, [.ref a_o_laid_ruleNumbers, .ref a_o_laid_instances, .ref a_o_laid_premiseCounts, .ref a_o_laid_premises, .int s_o_laid_last])), (a_o_laid_premiseCounts, .inl (fx_cI X, 301, .inl f_o_laid_premiseCounts)), (a_o_laid_premises, .inl (fx_cI X, 903, .inl f_o_laid_premises)), (a_o_stated, .inr (3, [.ref a_o_stated_kinds, .ref a_o_stated_numbers, .int s_o_stated_count])), (a_o_stated_kinds, .inl (fx_cI X, 301, .inl f_o_stated_kinds)), (a_o_needed, .inl (fx_cZ X, 301, .inl y2))] := hD
    refine lv_aload_n hx hb dX5_check_27 rfl (lv_at hl 0 rfl) ?_
    refine va_get (D := fx_D X) (ci := 4) (v := .ref a_o_stated) (C := RX5) (T := TX5) (N := 9) hx hb hts im_X5_check_X5 hown hK hP 0 rfl rfl 3 (by decide) k28 (fun _ h9 => h9) rfl dX5_check_28 ?_
    refine lv_iload_n hx hb dX5_check_31 rfl (lv_at hl 1 rfl) ?_
    refine vp_callSi (W.runV (As := [.int p1]) (rest := []) ⟨hx, hb, hml, hown, hts⟩ (cw_X4_has l X a_o_stated a_o_stated_kinds a_o_stated_numbers 301 s_o_stated_count f_o_stated_kinds p1 _ h) (cwV 1 hts gX5_check_X4_has rfl rfl rfl (by decide +kernel) ⟨Nat.le_of_ble_eq_true rfl, Nat.le_of_ble_eq_true rfl⟩) (fx_pv hP hK hG hS (va_recv hK hP (ci := 3) (q0 := 4) rfl rfl) [4, 5] rfl) rfl rfl hl.1 rfl (lv_room (Nat.le_of_ble_eq_true rfl)) dX5_check_32 ⟨Nat.le_of_ble_eq_true rfl, Nat.le_of_ble_eq_true rfl⟩) (fun r4 h => ?_)
    refine fx_if_eq (tgt := 42) hx hb h dX5_check_35 (by decide) (fun h => ?_) (fun h => ?_)
    · refine lv_iconst (v := (nI 0)) hx hb dX5_check_42 (by decide) ?_
      exact W.iret (v := (nI 0)) hx hb hr  (fun t ht hW => ⟨⟨(nI 0), (r3, y2), rfl, h, by rw [ht]; exact hP, va_K.moved hW.alike hK, hD⟩, hS.F ht⟩) hS.2.2 dX5_check_43
    refine lv_iconst (v := (nI 1)) hx hb dX5_check_38 (by decide) ?_
    refine lv_goto (tgt := 43) hx hb dX5_check_39 (by decide) ?_
    exact W.iret (v := (nI 1)) hx hb hr  (fun t ht hW => ⟨⟨(nI 1), (r3, y2), rfl, h, by rw [ht]; exact hP, va_K.moved hW.alike hK, hD⟩, hS.F ht⟩) hS.2.2 dX5_check_43
  refine lv_iconst (v := (-1)) hx hb dX5_check_11 (by decide) ?_
  exact W.iret (v := (-1)) hx hb hr  (fun t ht hW => ⟨⟨(-1), (s_o_broken, f_o_needed), rfl, h, by rw [ht]; exact hP, va_K.moved hW.alike hK, hD⟩, hS.F ht⟩) hS.2.2 dX5_check_12

/-- X5_broken: its walk -/
def wp_X5_broken (post : Int32 → Prop) (s_o_broken : Int32) : Prop :=
  post s_o_broken
theorem im_X5_broken_X5 : ∀ w ∈ u_ws RX5 TX5 9, w ∈ wsX5_broken := by decide +kernel
set_option maxHeartbeats 4000000 in
set_option maxRecDepth 100000 in
theorem cw_X5_broken (l : Launch) (X : fx_X) (a_o : Nat) (a_o_axioms : Nat) (a_o_triples : Nat) (a_o_laid : Nat) (a_o_stated : Nat) (a_o_letters : Nat) (a_o_told : Nat) (a_o_needed : Nat) (a_o_reckoned : Nat) (s_o_broken : Int32)  (post : Int32 → Prop) (h : wp_X5_broken post s_o_broken) : Met l yX5_broken wsX5_broken ({ frames := 0, cells := 0, slots := 0, locals := 0 }) (va_Pc [.ref a_o] (fx_PP X [(a_o, .inr (4, [.ref a_o_axioms, .ref a_o_triples, .ref a_o_laid, .ref a_o_stated, .ref a_o_letters, .ref a_o_told, .ref a_o_needed, .ref a_o_reckoned, .int s_o_broken]))])) (vp_Si post) 0 0 (fun _ => False) := by
  refine Met.ofW (cc := cX5_broken) (maxL := 1) (ret := (some .int)) (by decide) rfl ?_
  intro p e s m args below meth c s₁ B hml hv
  obtain ⟨rfl, hP, hK, hG⟩ := hv
  have hx := B.exec
  have hb := B.bytes
  have hr := B.returns
  have hts := atoms_spec (ws := wsX5_broken) B.pre
  have hown : s.vm.findClass RX5 = some m.cls := findClass_of_methodNamed B.named
  have hlocks := B.notSynchronized
  have hS : va_S (fun _ => False) s.heap s.heap [] := va_S.rf
  have k53 := hts (.fieldLink RX5 53 "ProofChecker" "broken" "I") (by decide +kernel)
  have hl := lv_entry ([.ref a_o]) (n := 1) (Nat.le_of_ble_eq_true rfl)
  rw [lg_entry_eq]
  generalize (lg_sl ([.ref a_o]) ++ List.replicate (1 - (lg_sl ([.ref a_o])).length) Slot.unset).toArray = ls at hl ⊢
  have hl : lv_has ls 1 [(0, .ref a_o)] := hl
  unfold wp_X5_broken at h
  refine lv_aload_n hx hb dX5_broken_0 rfl (lv_at hl 0 rfl) ?_
  refine va_get (D := fx_D X) (ci := 4) (v := .int s_o_broken) (C := RX5) (T := TX5) (N := 9) hx hb hts im_X5_broken_X5 hown hK hP 0 rfl rfl 8 (by decide) k53 (fun _ h9 => h9) rfl dX5_broken_1 ?_
  exact W.iret (v := s_o_broken) hx hb hr  (fun t ht hW => ⟨_, rfl, h, ht⟩) (fun q hq => by cases hq) dX5_broken_4

/-- X5_rows: its walk -/
def wp_X5_rows (post : Int32 → (Nat → Int32) → Prop) (s_o_laid_last : Int32) (f_o_laid_premiseCounts : Nat → Int32) (f_o_laid_premises : Nat → Int32) (f_o_needed : Nat → Int32) (p1 : Int32) : Prop :=
  wp_X2_has (fun r1 => fx_br (r1 = 0) (post (-1) f_o_needed) (wp_X5_markProof (fun y2 => fx_wh2 (fun (rec5 : Int32 → Int32 → Prop) (x3 : Int32) (x4 : Int32) => fx_br (p1 < x3) (post x4 y2) (fx_ix x3 301 (fun k7 => fx_nm (y2 k7) (fun v6 => fx_br (v6 = 0) (fx_nm (x3 + (nI 1)) (fun v8 => rec5 v8 x4)) (fx_nm (x4 + (nI 1)) (fun v9 => fx_nm (x3 + (nI 1)) (fun v10 => rec5 v10 v9))))))) (nI 1) (nI 0)) s_o_laid_last f_o_laid_premiseCounts f_o_laid_premises f_o_needed p1)) s_o_laid_last p1
theorem im_X5_rows_X5 : ∀ w ∈ u_ws RX5 TX5 9, w ∈ wsX5_rows := by decide +kernel
set_option maxHeartbeats 4000000 in
set_option maxRecDepth 100000 in
theorem cw_X5_rows (l : Launch) (X : fx_X) (a_o : Nat) (a_o_axioms : Nat) (a_o_triples : Nat) (a_o_laid : Nat) (a_o_stated : Nat) (a_o_letters : Nat) (a_o_told : Nat) (a_o_needed : Nat) (a_o_reckoned : Nat) (a_o_laid_ruleNumbers : Nat) (a_o_laid_instances : Nat) (a_o_laid_premiseCounts : Nat) (a_o_laid_premises : Nat) (s_o_broken : Int32) (s_o_laid_last : Int32) (f_o_laid_premiseCounts : Nat → Int32) (f_o_laid_premises : Nat → Int32) (f_o_needed : Nat → Int32) (sz : Nat) (p1 : Int32) (post : Int32 → (Nat → Int32) → Prop) (h : wp_X5_rows post s_o_laid_last f_o_laid_premiseCounts f_o_laid_premises f_o_needed p1) : Met l yX5_rows wsX5_rows ({ frames := 4, cells := 0, slots := 0, locals := 89 }) (va_Pc [.ref a_o, .int p1] (fx_PW X [(a_o, .inr (4, [.ref a_o_axioms, .ref a_o_triples, .ref a_o_laid, .ref a_o_stated, .ref a_o_letters, .ref a_o_told, .ref a_o_needed, .ref a_o_reckoned, .int s_o_broken])), (a_o_laid, .inr (2, [.ref a_o_laid_ruleNumbers, .ref a_o_laid_instances, .ref a_o_laid_premiseCounts, .ref a_o_laid_premises, .int s_o_laid_last])), (a_o_laid_premiseCounts, .inl (fx_cI X, 301, .inl f_o_laid_premiseCounts)), (a_o_laid_premises, .inl (fx_cI X, 903, .inl f_o_laid_premises)), (a_o_needed, .inl (fx_cZ X, 301, .inl f_o_needed))] sz)) (va_Qi (fun r (u : (Nat → Int32)) => post r u) (fun (u : (Nat → Int32)) t => fx_EW X (va_A [(a_o, .inr (4, [.ref a_o_axioms, .ref a_o_triples, .ref a_o_laid, .ref a_o_stated, .ref a_o_letters, .ref a_o_told, .ref a_o_needed, .ref a_o_reckoned, .int s_o_broken])), (a_o_laid, .inr (2, [.ref a_o_laid_ruleNumbers, .ref a_o_laid_instances, .ref a_o_laid_premiseCounts, .ref a_o_laid_premises, .int s_o_laid_last])), (a_o_laid_premiseCounts, .inl (fx_cI X, 301, .inl f_o_laid_premiseCounts)), (a_o_laid_premises, .inl (fx_cI X, 903, .inl f_o_laid_premises)), (a_o_needed, .inl (fx_cZ X, 301, .inl f_o_needed))] sz) [(a_o, .inr (4, [.ref a_o_axioms, .ref a_o_triples, .ref a_o_laid, .ref a_o_stated, .ref a_o_letters, .ref a_o_told, .ref a_o_needed, .ref a_o_reckoned, .int s_o_broken])), (a_o_laid, .inr (2, [.ref a_o_laid_ruleNumbers, .ref a_o_laid_instances, .ref a_o_laid_premiseCounts, .ref a_o_laid_premises, .int s_o_laid_last])), (a_o_laid_premiseCounts, .inl (fx_cI X, 301, .inl f_o_laid_premiseCounts)), (a_o_laid_premises, .inl (fx_cI X, 903, .inl f_o_laid_premises)), (a_o_needed, .inl (fx_cZ X, 301, .inl u))] t) (va_A [(a_o, .inr (4, [.ref a_o_axioms, .ref a_o_triples, .ref a_o_laid, .ref a_o_stated, .ref a_o_letters, .ref a_o_told, .ref a_o_needed, .ref a_o_reckoned, .int s_o_broken])), (a_o_laid, .inr (2, [.ref a_o_laid_ruleNumbers, .ref a_o_laid_instances, .ref a_o_laid_premiseCounts, .ref a_o_laid_premises, .int s_o_laid_last])), (a_o_laid_premiseCounts, .inl (fx_cI X, 301, .inl f_o_laid_premiseCounts)), (a_o_laid_premises, .inl (fx_cI X, 903, .inl f_o_laid_premises)), (a_o_needed, .inl (fx_cZ X, 301, .inl f_o_needed))] sz)) 0 0 (va_A [(a_o, .inr (4, [.ref a_o_axioms, .ref a_o_triples, .ref a_o_laid, .ref a_o_stated, .ref a_o_letters, .ref a_o_told, .ref a_o_needed, .ref a_o_reckoned, .int s_o_broken])), (a_o_laid, .inr (2, [.ref a_o_laid_ruleNumbers, .ref a_o_laid_instances, .ref a_o_laid_premiseCounts, .ref a_o_laid_premises, .int s_o_laid_last])), (a_o_laid_premiseCounts, .inl (fx_cI X, 301, .inl f_o_laid_premiseCounts)), (a_o_laid_premises, .inl (fx_cI X, 903, .inl f_o_laid_premises)), (a_o_needed, .inl (fx_cZ X, 301, .inl f_o_needed))] sz) := by
  refine Met.ofW (cc := cX5_rows) (maxL := 4) (ret := (some .int)) (by decide) rfl ?_
  intro p e s m args below meth c s₁ B hml hv
  obtain ⟨rfl, hsz, hP, hK, hD0, hG⟩ := hv
  have hx := B.exec
  have hb := B.bytes
  have hr := B.returns
  have hts := atoms_spec (ws := wsX5_rows) B.pre
  have hown : s.vm.findClass RX5 = some m.cls := findClass_of_methodNamed B.named
  have hlocks := B.notSynchronized
  subst hsz
  have hD := hD0.self (sz := s.heap.size)
  generalize hAe : va_A [(a_o, .inr (4, [.ref a_o_axioms, .ref a_o_triples, .ref a_o_laid, .ref a_o_stated, .ref a_o_letters, .ref a_o_told, .ref a_o_needed, .ref a_o_reckoned, .int s_o_broken])), (a_o_laid, .inr (2, [.ref a_o_laid_ruleNumbers, .ref a_o_laid_instances, .ref a_o_laid_premiseCounts, .ref a_o_laid_premises, .int s_o_laid_last])), (a_o_laid_premiseCounts, .inl (fx_cI X, 301, .inl f_o_laid_premiseCounts)), (a_o_laid_premises, .inl (fx_cI X, 903, .inl f_o_laid_premises)), (a_o_needed, .inl (fx_cZ X, 301, .inl f_o_needed))] s.heap.size = A at hD hG ⊢
  have hA : ∀ q : Nat, s.heap.size ≤ q → A q := fun q h => by rw [← hAe]; exact Or.inr h
  have hS : va_S A s.heap s.heap [] := va_S.rf
  have k45 := hts (.fieldLink RX5 45 "ProofChecker" "needed" "[Z") (by decide +kernel)
  have k24 := hts (.fieldLink RX5 24 "ProofChecker" "laid" "LProofChecker$Rows;") (by decide +kernel)
  have hl := lv_entry ([.ref a_o, .int p1]) (n := 4) (Nat.le_of_ble_eq_true rfl)
  rw [lg_entry_eq]
  generalize (lg_sl ([.ref a_o, .int p1]) ++ List.replicate (4 - (lg_sl ([.ref a_o, .int p1])).length) Slot.unset).toArray = ls at hl ⊢
  have hl : lv_has ls 4 [(0, .ref a_o), (1, .int p1)] := hl
  unfold wp_X5_rows at h
  refine lv_aload_n hx hb dX5_rows_0 rfl (lv_at hl 0 rfl) ?_
  refine va_get (D := fx_D X) (ci := 4) (v := .ref a_o_laid) (C := RX5) (T := TX5) (N := 9) hx hb hts im_X5_rows_X5 hown hK hP 0 rfl rfl 2 (by decide) k24 (fun _ h9 => h9) rfl dX5_rows_1 ?_
  refine lv_iload_n hx hb dX5_rows_4 rfl (lv_at hl 1 rfl) ?_
  refine vp_callSi (W.runV (As := [.int p1]) (rest := []) ⟨hx, hb, hml, hown, hts⟩ (cw_X2_has l X a_o_laid a_o_laid_ruleNumbers a_o_laid_instances a_o_laid_premiseCounts a_o_laid_premises s_o_laid_last p1 _ h) (cwV 1 hts gX5_rows_X2_has rfl rfl rfl (by decide +kernel) ⟨Nat.le_of_ble_eq_true rfl, Nat.le_of_ble_eq_true rfl⟩) (fx_pv hP hK hG hS (va_recv hK hP (ci := 2) (q0 := 1) rfl rfl) [1] rfl) rfl rfl hl.1 rfl (lv_room (Nat.le_of_ble_eq_true rfl)) dX5_rows_5 ⟨Nat.le_of_ble_eq_true rfl, Nat.le_of_ble_eq_true rfl⟩) (fun r1 h => ?_)
  refine fx_if_ne (tgt := 13) hx hb h dX5_rows_8 (by decide) (fun h => ?_) (fun h => ?_)
  · refine lv_aload_n hx hb dX5_rows_13 rfl (lv_at hl 0 rfl) ?_
    refine lv_iload_n hx hb dX5_rows_14 rfl (lv_at hl 1 rfl) ?_
    have hFc := va_free (wc := [(a_o, .inr (4, [.ref a_o_axioms, .ref a_o_triples, .ref a_o_laid, .ref a_o_stated, .ref a_o_letters, .ref a_o_told, .ref a_o_needed, .ref a_o_reckoned, .int s_o_broken])), (a_o_laid, .inr (2, [.ref a_o_laid_ruleNumbers, .ref a_o_laid_instances, .ref a_o_laid_premiseCounts, .ref a_o_laid_premises, .int s_o_laid_last])), (a_o_laid_premiseCounts, .inl (fx_cI X, 301, .inl f_o_laid_premiseCounts)), (a_o_laid_premises, .inl (fx_cI X, 903, .inl f_o_laid_premises)), (a_o_needed, .inl (fx_cZ X, 301, .inl f_o_needed))]) hD hS hA [0, 1, 2, 3, 4] rfl
    refine va_callv (va_runV (As := [.int p1]) (rest := []) ⟨hx, hb, hml, hown, hts⟩ (cw_X5_markProof l X a_o a_o_axioms a_o_triples a_o_laid a_o_stated a_o_letters a_o_told a_o_needed a_o_reckoned a_o_laid_ruleNumbers a_o_laid_instances a_o_laid_premiseCounts a_o_laid_premises s_o_broken s_o_laid_last f_o_laid_premiseCounts f_o_laid_premises f_o_needed _ p1 _ h) (cwV 1 hts gX5_rows_X5_markProof rfl rfl rfl (by decide +kernel) ⟨Nat.le_of_ble_eq_true rfl, Nat.le_of_ble_eq_true rfl⟩) (fx_pvW hP hD hK hG hS hFc (va_recv hK hP (ci := 4) (q0 := 0) rfl rfl) [0, 1, 2, 3, 4] (by decide) rfl) rfl rfl hl.1 rfl (lv_room (Nat.le_of_ble_eq_true rfl)) dX5_rows_15 ⟨Nat.le_of_ble_eq_true rfl, Nat.le_of_ble_eq_true rfl⟩) hS (fun q _ h => hFc q h) hFc (fun u t H locs ht hvm h hB _ hk hS => ?_)
    obtain ⟨y2, rfl⟩ : ∃ z, z = u := ⟨_, rfl⟩
    obtain ⟨hP, hD⟩ := fx_back (wr := []) (ws' := [(a_o, .inr (4, [.ref a_o_axioms, .ref a_o_triples, .ref a_o_laid, .ref a_o_stated, .ref a_o_letters, .ref a_o_told, .ref a_o_needed, .ref a_o_reckoned, .int s_o_broken])), (a_o_laid, .inr (2, [.ref a_o_laid_ruleNumbers, .ref a_o_laid_instances, .ref a_o_laid_premiseCounts, .ref a_o_laid_premises, .int s_o_laid_last])), (a_o_laid_premiseCounts, .inl (fx_cI X, 301, .inl f_o_laid_premiseCounts)), (a_o_laid_premises, .inl (fx_cI X, 903, .inl f_o_laid_premises)), (a_o_needed, .inl (fx_cZ X, 301, .inl y2))]) hP hD [0, 1, 2, 3, 4] [] rfl rfl (by decide) (by decide) hk hFc hB ht [0, 1, 2, 3, 4] (by decide) rfl
    refine lv_iconst (v := (nI 0)) hx hb dX5_rows_18 (by decide) ?_
    refine lv_istore_n (lv' := [(2, .int (nI 0)), (0, .ref a_o), (1, .int p1)]) hx hb dX5_rows_19 rfl hl (by decide) rfl (fun ls hl => ?_)
    refine lv_iconst (v := (nI 1)) hx hb dX5_rows_20 (by decide) ?_
    refine lv_istore_n (lv' := [(3, .int (nI 1)), (2, .int (nI 0)), (0, .ref a_o), (1, .int p1)]) hx hb dX5_rows_21 rfl hl (by decide) rfl (fun ls hl => ?_)
    refine fx_loop2 (G := fun (x3 : Int32) (x4 : Int32) => ∀ (H : Heap) (locs : List Loc) (ls : Array Slot), va_P (fx_D X) vwCl [(a_o, .inr (4, [.ref a_o_axioms, .ref a_o_triples, .ref a_o_laid, .ref a_o_stated, .ref a_o_letters, .ref a_o_told, .ref a_o_needed, .ref a_o_reckoned, .int s_o_broken])), (a_o_laid, .inr (2, [.ref a_o_laid_ruleNumbers, .ref a_o_laid_instances, .ref a_o_laid_premiseCounts, .ref a_o_laid_premises, .int s_o_laid_last])), (a_o_laid_premiseCounts, .inl (fx_cI X, 301, .inl f_o_laid_premiseCounts)), (a_o_laid_premises, .inl (fx_cI X, 903, .inl f_o_laid_premises)), (a_o_needed, .inl (fx_cZ X, 301, .inl y2))] H → va_D A [(a_o, .inr (4, [.ref a_o_axioms, .ref a_o_triples, .ref a_o_laid, .ref a_o_stated, .ref a_o_letters, .ref a_o_told, .ref a_o_needed, .ref a_o_reckoned, .int s_o_broken])), (a_o_laid, .inr (2, [.ref a_o_laid_ruleNumbers, .ref a_o_laid_instances, .ref a_o_laid_premiseCounts, .ref a_o_laid_premises, .int s_o_laid_last])), (a_o_laid_premiseCounts, .inl (fx_cI X, 301, .inl f_o_laid_premiseCounts)), (a_o_laid_premises, .inl (fx_cI X, 903, .inl f_o_laid_premises)), (a_o_needed, .inl (fx_cZ X, 301, .inl y2))] → va_S A s.heap H locs → lv_has ls 4 [(3, .int x3), (2, .int x4), (0, .ref a_o), (1, .int p1)] → W p l e _ s m _ below meth c H locs _ _ _ (F0 m 22 ls [])) (fun rec5 hrec5 x3 x4 h => ?_) h _ _ _ hP hD hS (lv_sub hl [0, 1, 2, 3] rfl)
    intro H locs ls hP hD hS hl
    refine lv_iload_n hx hb dX5_rows_22 rfl (lv_at hl 0 rfl) ?_
    refine lv_iload_n hx hb dX5_rows_23 rfl (lv_at hl 3 rfl) ?_
    refine fx_icmp_gt (tgt := 45) hx hb h dX5_rows_24 (by decide) (fun h => ?_) (fun h => ?_)
    · refine lv_iload_n hx hb dX5_rows_45 rfl (lv_at hl 1 rfl) ?_
      exact W.iret (v := x4) hx hb hr  (fun t ht hW => ⟨⟨x4, y2, rfl, h, by rw [ht]; exact hP, va_K.moved hW.alike hK, hD⟩, hS.F ht⟩) hS.2.2 dX5_rows_46
    refine lv_aload_n hx hb dX5_rows_27 rfl (lv_at hl 2 rfl) ?_
    refine va_get (D := fx_D X) (ci := 4) (v := .ref a_o_needed) (C := RX5) (T := TX5) (N := 9) hx hb hts im_X5_rows_X5 hown hK hP 0 rfl rfl 6 (by decide) k45 (fun _ h9 => h9) rfl dX5_rows_28 ?_
    refine lv_iload_n hx hb dX5_rows_31 rfl (lv_at hl 0 rfl) ?_
    refine fx_zald hx hb hK hP 4 2 rfl rfl h dX5_rows_32 (fun v6 h => ?_)
    refine fx_if_eq (tgt := 39) hx hb h dX5_rows_33 (by decide) (fun h => ?_) (fun h => ?_)
    · refine fx_iinc (y := (nI 1)) hx hb h dX5_rows_39 (by decide) (fun v8 => [(3, .int v8), (2, .int x4), (0, .ref a_o), (1, .int p1)]) hl 0 rfl (by decide) (fun _ => rfl) (fun v8 ls h hl => ?_)
      refine lv_goto (tgt := 22) hx hb dX5_rows_42 (by decide) ?_
      exact hrec5 _ _ h _ _ _ hP hD hS (lv_sub hl [0, 1, 2, 3] rfl)
    refine fx_iinc (y := (nI 1)) hx hb h dX5_rows_36 (by decide) (fun v9 => [(2, .int v9), (3, .int x3), (0, .ref a_o), (1, .int p1)]) hl 1 rfl (by decide) (fun _ => rfl) (fun v9 ls h hl => ?_)
    refine fx_iinc (y := (nI 1)) hx hb h dX5_rows_39 (by decide) (fun v10 => [(3, .int v10), (2, .int v9), (0, .ref a_o), (1, .int p1)]) hl 1 rfl (by decide) (fun _ => rfl) (fun v10 ls h hl => ?_)
    refine lv_goto (tgt := 22) hx hb dX5_rows_42 (by decide) ?_
    exact hrec5 _ _ h _ _ _ hP hD hS (lv_sub hl [0, 1, 2, 3] rfl)
  refine lv_iconst (v := (-1)) hx hb dX5_rows_11 (by decide) ?_
  exact W.iret (v := (-1)) hx hb hr  (fun t ht hW => ⟨⟨(-1), f_o_needed, rfl, h, by rw [ht]; exact hP, va_K.moved hW.alike hK, hD⟩, hS.F ht⟩) hS.2.2 dX5_rows_12

/-- X5_sizeAbovePremises: its walk -/
def wp_X5_sizeAbovePremises (post : Int32 → Prop) (s_o_laid_last : Int32) (f_o_laid_premiseCounts : Nat → Int32) (f_o_laid_premises : Nat → Int32) (f_o_reckoned : Nat → Int32) (p1 : Int32) : Prop :=
  fx_wh2 (fun (rec3 : Int32 → Int64 → Prop) (x1 : Int32) (x2 : Int64) => wp_X2_premiseCount (fun r4 => fx_br (r4 ≤ x1) (fx_nm (if (lN 1000000000) < x2 then (lN 1000000000) else x2) (fun v5 => fx_nm (v5.toInt32) (fun v6 => post v6))) (wp_X2_premiseAt (fun r7 => wp_X2_has (fun r8 => fx_br (r8 = 0) (fx_nm (x1 + (nI 1)) (fun v9 => rec3 v9 x2)) (fx_ix r7 301 (fun k11 => fx_nm (f_o_reckoned k11) (fun v10 => fx_nm (v10.toInt64) (fun v12 => fx_nm (x2 + v12) (fun v13 => fx_nm (x1 + (nI 1)) (fun v14 => rec3 v14 v13))))))) s_o_laid_last r7) s_o_laid_last f_o_laid_premiseCounts f_o_laid_premises p1 x1)) s_o_laid_last f_o_laid_premiseCounts p1) (nI 0) (lN 1)
theorem im_X5_sizeAbovePremises_X5 : ∀ w ∈ u_ws RX5 TX5 9, w ∈ wsX5_sizeAbovePremises := by decide +kernel
set_option maxHeartbeats 4000000 in
set_option maxRecDepth 100000 in
theorem cw_X5_sizeAbovePremises (l : Launch) (X : fx_X) (a_o : Nat) (a_o_axioms : Nat) (a_o_triples : Nat) (a_o_laid : Nat) (a_o_stated : Nat) (a_o_letters : Nat) (a_o_told : Nat) (a_o_needed : Nat) (a_o_reckoned : Nat) (a_o_laid_ruleNumbers : Nat) (a_o_laid_instances : Nat) (a_o_laid_premiseCounts : Nat) (a_o_laid_premises : Nat) (s_o_broken : Int32) (s_o_laid_last : Int32) (f_o_laid_premiseCounts : Nat → Int32) (f_o_laid_premises : Nat → Int32) (f_o_reckoned : Nat → Int32) (p1 : Int32) (post : Int32 → Prop) (h : wp_X5_sizeAbovePremises post s_o_laid_last f_o_laid_premiseCounts f_o_laid_premises f_o_reckoned p1) : Met l yX5_sizeAbovePremises wsX5_sizeAbovePremises ({ frames := 3, cells := 0, slots := 0, locals := 65 }) (va_Pc [.ref a_o, .int p1] (fx_PP X [(a_o, .inr (4, [.ref a_o_axioms, .ref a_o_triples, .ref a_o_laid, .ref a_o_stated, .ref a_o_letters, .ref a_o_told, .ref a_o_needed, .ref a_o_reckoned, .int s_o_broken])), (a_o_laid, .inr (2, [.ref a_o_laid_ruleNumbers, .ref a_o_laid_instances, .ref a_o_laid_premiseCounts, .ref a_o_laid_premises, .int s_o_laid_last])), (a_o_laid_premiseCounts, .inl (fx_cI X, 301, .inl f_o_laid_premiseCounts)), (a_o_laid_premises, .inl (fx_cI X, 903, .inl f_o_laid_premises)), (a_o_reckoned, .inl (fx_cI X, 301, .inl f_o_reckoned))])) (vp_Si post) 0 0 (fun _ => False) := by
  refine Met.ofW (cc := cX5_sizeAbovePremises) (maxL := 6) (ret := (some .int)) (by decide) rfl ?_
  intro p e s m args below meth c s₁ B hml hv
  obtain ⟨rfl, hP, hK, hG⟩ := hv
  have hx := B.exec
  have hb := B.bytes
  have hr := B.returns
  have hts := atoms_spec (ws := wsX5_sizeAbovePremises) B.pre
  have hown : s.vm.findClass RX5 = some m.cls := findClass_of_methodNamed B.named
  have hlocks := B.notSynchronized
  have hS : va_S (fun _ => False) s.heap s.heap [] := va_S.rf
  have k252 := hts (.constantLong RX5 252 (1000000000)) (by decide +kernel)
  have k254 := hts (.methodLink RX5 254 Lib.MathLoose.min_long.x) (by decide +kernel)
  have kstva_mmin_long := hts (.static Lib.MathLoose.min_long.x) (by decide +kernel)
  have kini := hts (.initialized "java/lang/Math") (by decide +kernel)
  have kcova_mmin_long := hts (.code Lib.MathLoose.min_long.x Lib.MathLoose.min_long.code 4 (some .long)) (by decide +kernel)
  have k49 := hts (.fieldLink RX5 49 "ProofChecker" "reckoned" "[I") (by decide +kernel)
  have k24 := hts (.fieldLink RX5 24 "ProofChecker" "laid" "LProofChecker$Rows;") (by decide +kernel)
  have hl := lv_entry ([.ref a_o, .int p1]) (n := 6) (Nat.le_of_ble_eq_true rfl)
  rw [lg_entry_eq]
  generalize (lg_sl ([.ref a_o, .int p1]) ++ List.replicate (6 - (lg_sl ([.ref a_o, .int p1])).length) Slot.unset).toArray = ls at hl ⊢
  have hl : lv_has ls 6 [(0, .ref a_o), (1, .int p1)] := hl
  unfold wp_X5_sizeAbovePremises at h
  refine lv_lconst (v := lN 1) hx hb dX5_sizeAbovePremises_0 (by decide) ?_
  refine lv_lstore_n (lv' := [(2, .long (lN 1)), (0, .ref a_o), (1, .int p1)]) hx hb dX5_sizeAbovePremises_1 rfl hl (by decide) rfl (fun ls hl => ?_)
  refine lv_iconst (v := (nI 0)) hx hb dX5_sizeAbovePremises_2 (by decide) ?_
  refine lv_istore (lv' := [(4, .int (nI 0)), (2, .long (lN 1)), (0, .ref a_o), (1, .int p1)]) hx hb dX5_sizeAbovePremises_3 hl (by decide) rfl (fun ls hl => ?_)
  refine fx_loop2 (G := fun (x1 : Int32) (x2 : Int64) => ∀ (ls : Array Slot), lv_has ls 6 [(4, .int x1), (2, .long x2), (0, .ref a_o), (1, .int p1)] → W p l e _ s m _ below meth c s.heap [] _ _ _ (F0 m 5 ls [])) (fun rec3 hrec3 x1 x2 h => ?_) h _ (lv_sub hl [0, 1, 2, 3] rfl)
  intro ls hl
  refine lv_iload hx hb dX5_sizeAbovePremises_5 (lv_at hl 0 rfl) ?_
  refine lv_aload_n hx hb dX5_sizeAbovePremises_7 rfl (lv_at hl 2 rfl) ?_
  refine va_get (D := fx_D X) (ci := 4) (v := .ref a_o_laid) (C := RX5) (T := TX5) (N := 9) hx hb hts im_X5_sizeAbovePremises_X5 hown hK hP 0 rfl rfl 2 (by decide) k24 (fun _ h9 => h9) rfl dX5_sizeAbovePremises_8 ?_
  refine lv_iload_n hx hb dX5_sizeAbovePremises_11 rfl (lv_at hl 3 rfl) ?_
  refine vp_callSi (W.runV (As := [.int p1]) (rest := [.int x1]) ⟨hx, hb, hml, hown, hts⟩ (cw_X2_premiseCount l X a_o_laid a_o_laid_ruleNumbers a_o_laid_instances a_o_laid_premiseCounts a_o_laid_premises s_o_laid_last f_o_laid_premiseCounts p1 _ h) (cwV 1 hts gX5_sizeAbovePremises_X2_premiseCount rfl rfl rfl (by decide +kernel) ⟨Nat.le_of_ble_eq_true rfl, Nat.le_of_ble_eq_true rfl⟩) (fx_pv hP hK hG hS (va_recv hK hP (ci := 2) (q0 := 1) rfl rfl) [1, 2] rfl) rfl rfl hl.1 rfl (lv_room (Nat.le_of_ble_eq_true rfl)) dX5_sizeAbovePremises_12 ⟨Nat.le_of_ble_eq_true rfl, Nat.le_of_ble_eq_true rfl⟩) (fun r4 h => ?_)
  refine fx_icmp_ge (tgt := 59) hx hb h dX5_sizeAbovePremises_15 (by decide) (fun h => ?_) (fun h => ?_)
  · refine lv_lload_n hx hb dX5_sizeAbovePremises_59 rfl (lv_at hl 1 rfl) ?_
    refine lv_ldc2 (v := lN 1000000000) hx hb hown k252 dX5_sizeAbovePremises_60 ?_
    refine va_mmin_long hx hb (by rw [hml]; exact hl.1.symm) hown k254 kstva_mmin_long kini kcova_mmin_long (Nat.le_of_ble_eq_true rfl) (Nat.le_of_ble_eq_true rfl) (Nat.le_of_ble_eq_true rfl) (Nat.le_of_ble_eq_true rfl) dX5_sizeAbovePremises_63 ?_
    have h := h _ rfl
    generalize (if (lN 1000000000) < x2 then (lN 1000000000) else x2) = v5 at h ⊢
    refine fx_l2i hx hb h dX5_sizeAbovePremises_66 (fun v6 h => ?_)
    exact W.iret (v := v6) hx hb hr  (fun t ht hW => ⟨_, rfl, h, ht⟩) (fun q hq => by cases hq) dX5_sizeAbovePremises_67
  refine lv_aload_n hx hb dX5_sizeAbovePremises_18 rfl (lv_at hl 2 rfl) ?_
  refine va_get (D := fx_D X) (ci := 4) (v := .ref a_o_laid) (C := RX5) (T := TX5) (N := 9) hx hb hts im_X5_sizeAbovePremises_X5 hown hK hP 0 rfl rfl 2 (by decide) k24 (fun _ h9 => h9) rfl dX5_sizeAbovePremises_19 ?_
  refine lv_iload_n hx hb dX5_sizeAbovePremises_22 rfl (lv_at hl 3 rfl) ?_
  refine lv_iload hx hb dX5_sizeAbovePremises_23 (lv_at hl 0 rfl) ?_
  refine vp_callSi (W.runV (As := [.int p1, .int x1]) (rest := []) ⟨hx, hb, hml, hown, hts⟩ (cw_X2_premiseAt l X a_o_laid a_o_laid_ruleNumbers a_o_laid_instances a_o_laid_premiseCounts a_o_laid_premises s_o_laid_last f_o_laid_premiseCounts f_o_laid_premises p1 x1 _ h) (cwV 2 hts gX5_sizeAbovePremises_X2_premiseAt rfl rfl rfl (by decide +kernel) ⟨Nat.le_of_ble_eq_true rfl, Nat.le_of_ble_eq_true rfl⟩) (fx_pv hP hK hG hS (va_recv hK hP (ci := 2) (q0 := 1) rfl rfl) [1, 2, 3] rfl) rfl rfl hl.1 rfl (lv_room (Nat.le_of_ble_eq_true rfl)) dX5_sizeAbovePremises_25 ⟨Nat.le_of_ble_eq_true rfl, Nat.le_of_ble_eq_true rfl⟩) (fun r7 h => ?_)
  refine lv_istore (lv' := [(5, .int r7), (4, .int x1), (2, .long x2), (0, .ref a_o), (1, .int p1)]) hx hb dX5_sizeAbovePremises_28 hl (by decide) rfl (fun ls hl => ?_)
  refine lv_aload_n hx hb dX5_sizeAbovePremises_30 rfl (lv_at hl 3 rfl) ?_
  refine va_get (D := fx_D X) (ci := 4) (v := .ref a_o_laid) (C := RX5) (T := TX5) (N := 9) hx hb hts im_X5_sizeAbovePremises_X5 hown hK hP 0 rfl rfl 2 (by decide) k24 (fun _ h9 => h9) rfl dX5_sizeAbovePremises_31 ?_
  refine lv_iload hx hb dX5_sizeAbovePremises_34 (lv_at hl 0 rfl) ?_
  refine vp_callSi (W.runV (As := [.int r7]) (rest := []) ⟨hx, hb, hml, hown, hts⟩ (cw_X2_has l X a_o_laid a_o_laid_ruleNumbers a_o_laid_instances a_o_laid_premiseCounts a_o_laid_premises s_o_laid_last r7 _ h) (cwV 1 hts gX5_sizeAbovePremises_X2_has rfl rfl rfl (by decide +kernel) ⟨Nat.le_of_ble_eq_true rfl, Nat.le_of_ble_eq_true rfl⟩) (fx_pv hP hK hG hS (va_recv hK hP (ci := 2) (q0 := 1) rfl rfl) [1] rfl) rfl rfl hl.1 rfl (lv_room (Nat.le_of_ble_eq_true rfl)) dX5_sizeAbovePremises_36 ⟨Nat.le_of_ble_eq_true rfl, Nat.le_of_ble_eq_true rfl⟩) (fun r8 h => ?_)
  refine fx_if_eq (tgt := 53) hx hb h dX5_sizeAbovePremises_39 (by decide) (fun h => ?_) (fun h => ?_)
  · refine fx_iinc (y := (nI 1)) hx hb h dX5_sizeAbovePremises_53 (by decide) (fun v9 => [(4, .int v9), (5, .int r7), (2, .long x2), (0, .ref a_o), (1, .int p1)]) hl 1 rfl (by decide) (fun _ => rfl) (fun v9 ls h hl => ?_)
    refine lv_goto (tgt := 5) hx hb dX5_sizeAbovePremises_56 (by decide) ?_
    exact hrec3 _ _ h _ (lv_sub hl [0, 2, 3, 4] rfl)
  refine lv_lload_n hx hb dX5_sizeAbovePremises_42 rfl (lv_at hl 2 rfl) ?_
  refine lv_aload_n hx hb dX5_sizeAbovePremises_43 rfl (lv_at hl 3 rfl) ?_
  refine va_get (D := fx_D X) (ci := 4) (v := .ref a_o_reckoned) (C := RX5) (T := TX5) (N := 9) hx hb hts im_X5_sizeAbovePremises_X5 hown hK hP 0 rfl rfl 7 (by decide) k49 (fun _ h9 => h9) rfl dX5_sizeAbovePremises_44 ?_
  refine lv_iload hx hb dX5_sizeAbovePremises_47 (lv_at hl 0 rfl) ?_
  refine fx_iald hx hb hK hP 4 0 rfl rfl h dX5_sizeAbovePremises_49 (fun v10 h => ?_)
  refine fx_i2l hx hb h dX5_sizeAbovePremises_50 (fun v12 h => ?_)
  refine fx_ladd hx hb h dX5_sizeAbovePremises_51 (fun v13 h => ?_)
  refine lv_lstore_n (lv' := [(2, .long v13), (5, .int r7), (4, .int x1), (0, .ref a_o), (1, .int p1)]) hx hb dX5_sizeAbovePremises_52 rfl hl (by decide) rfl (fun ls hl => ?_)
  refine fx_iinc (y := (nI 1)) hx hb h dX5_sizeAbovePremises_53 (by decide) (fun v14 => [(4, .int v14), (2, .long v13), (5, .int r7), (0, .ref a_o), (1, .int p1)]) hl 2 rfl (by decide) (fun _ => rfl) (fun v14 ls h hl => ?_)
  refine lv_goto (tgt := 5) hx hb dX5_sizeAbovePremises_56 (by decide) ?_
  exact hrec3 _ _ h _ (lv_sub hl [0, 1, 3, 4] rfl)

/-- X5_size: its walk -/
def wp_X5_size (post : Int32 → (Nat → Int32) → Prop) (s_o_laid_last : Int32) (f_o_laid_premiseCounts : Nat → Int32) (f_o_laid_premises : Nat → Int32) (f_o_reckoned : Nat → Int32) (p1 : Int32) : Prop :=
  wp_X2_has (fun r1 => fx_br (r1 = 0) (post (-1) f_o_reckoned) (fx_wh2 (fun (rec4 : Int32 → (Nat → Int32) → Prop) (x2 : Int32) (y3 : Nat → Int32) => fx_br (p1 < x2) (fx_ix p1 301 (fun k6 => fx_nm (y3 k6) (fun v5 => post v5 y3))) (wp_X5_sizeAbovePremises (fun r7 => fx_ix x2 301 (fun k10 => fx_nm (upd y3 k10 r7) (fun g8 => fx_nm (x2 + (nI 1)) (fun v9 => rec4 v9 g8)))) s_o_laid_last f_o_laid_premiseCounts f_o_laid_premises y3 x2)) (nI 1) f_o_reckoned)) s_o_laid_last p1
theorem im_X5_size_X5 : ∀ w ∈ u_ws RX5 TX5 9, w ∈ wsX5_size := by decide +kernel
set_option maxHeartbeats 4000000 in
set_option maxRecDepth 100000 in
theorem cw_X5_size (l : Launch) (X : fx_X) (a_o : Nat) (a_o_axioms : Nat) (a_o_triples : Nat) (a_o_laid : Nat) (a_o_stated : Nat) (a_o_letters : Nat) (a_o_told : Nat) (a_o_needed : Nat) (a_o_reckoned : Nat) (a_o_laid_ruleNumbers : Nat) (a_o_laid_instances : Nat) (a_o_laid_premiseCounts : Nat) (a_o_laid_premises : Nat) (s_o_broken : Int32) (s_o_laid_last : Int32) (f_o_laid_premiseCounts : Nat → Int32) (f_o_laid_premises : Nat → Int32) (f_o_reckoned : Nat → Int32) (sz : Nat) (p1 : Int32) (post : Int32 → (Nat → Int32) → Prop) (h : wp_X5_size post s_o_laid_last f_o_laid_premiseCounts f_o_laid_premises f_o_reckoned p1) : Met l yX5_size wsX5_size ({ frames := 4, cells := 0, slots := 0, locals := 90 }) (va_Pc [.ref a_o, .int p1] (fx_PW X [(a_o, .inr (4, [.ref a_o_axioms, .ref a_o_triples, .ref a_o_laid, .ref a_o_stated, .ref a_o_letters, .ref a_o_told, .ref a_o_needed, .ref a_o_reckoned, .int s_o_broken])), (a_o_laid, .inr (2, [.ref a_o_laid_ruleNumbers, .ref a_o_laid_instances, .ref a_o_laid_premiseCounts, .ref a_o_laid_premises, .int s_o_laid_last])), (a_o_laid_premiseCounts, .inl (fx_cI X, 301, .inl f_o_laid_premiseCounts)), (a_o_laid_premises, .inl (fx_cI X, 903, .inl f_o_laid_premises)), (a_o_reckoned, .inl (fx_cI X, 301, .inl f_o_reckoned))] sz)) (va_Qi (fun r (u : (Nat → Int32)) => post r u) (fun (u : (Nat → Int32)) t => fx_EW X (va_A [(a_o, .inr (4, [.ref a_o_axioms, .ref a_o_triples, .ref a_o_laid, .ref a_o_stated, .ref a_o_letters, .ref a_o_told, .ref a_o_needed, .ref a_o_reckoned, .int s_o_broken])), (a_o_laid, .inr (2, [.ref a_o_laid_ruleNumbers, .ref a_o_laid_instances, .ref a_o_laid_premiseCounts, .ref a_o_laid_premises, .int s_o_laid_last])), (a_o_laid_premiseCounts, .inl (fx_cI X, 301, .inl f_o_laid_premiseCounts)), (a_o_laid_premises, .inl (fx_cI X, 903, .inl f_o_laid_premises)), (a_o_reckoned, .inl (fx_cI X, 301, .inl f_o_reckoned))] sz) [(a_o, .inr (4, [.ref a_o_axioms, .ref a_o_triples, .ref a_o_laid, .ref a_o_stated, .ref a_o_letters, .ref a_o_told, .ref a_o_needed, .ref a_o_reckoned, .int s_o_broken])), (a_o_laid, .inr (2, [.ref a_o_laid_ruleNumbers, .ref a_o_laid_instances, .ref a_o_laid_premiseCounts, .ref a_o_laid_premises, .int s_o_laid_last])), (a_o_laid_premiseCounts, .inl (fx_cI X, 301, .inl f_o_laid_premiseCounts)), (a_o_laid_premises, .inl (fx_cI X, 903, .inl f_o_laid_premises)), (a_o_reckoned, .inl (fx_cI X, 301, .inl u))] t) (va_A [(a_o, .inr (4, [.ref a_o_axioms, .ref a_o_triples, .ref a_o_laid, .ref a_o_stated, .ref a_o_letters, .ref a_o_told, .ref a_o_needed, .ref a_o_reckoned, .int s_o_broken])), (a_o_laid, .inr (2, [.ref a_o_laid_ruleNumbers, .ref a_o_laid_instances, .ref a_o_laid_premiseCounts, .ref a_o_laid_premises, .int s_o_laid_last])), (a_o_laid_premiseCounts, .inl (fx_cI X, 301, .inl f_o_laid_premiseCounts)), (a_o_laid_premises, .inl (fx_cI X, 903, .inl f_o_laid_premises)), (a_o_reckoned, .inl (fx_cI X, 301, .inl f_o_reckoned))] sz)) 0 0 (va_A [(a_o, .inr (4, [.ref a_o_axioms, .ref a_o_triples, .ref a_o_laid, .ref a_o_stated, .ref a_o_letters, .ref a_o_told, .ref a_o_needed, .ref a_o_reckoned, .int s_o_broken])), (a_o_laid, .inr (2, [.ref a_o_laid_ruleNumbers, .ref a_o_laid_instances, .ref a_o_laid_premiseCounts, .ref a_o_laid_premises, .int s_o_laid_last])), (a_o_laid_premiseCounts, .inl (fx_cI X, 301, .inl f_o_laid_premiseCounts)), (a_o_laid_premises, .inl (fx_cI X, 903, .inl f_o_laid_premises)), (a_o_reckoned, .inl (fx_cI X, 301, .inl f_o_reckoned))] sz) := by
  refine Met.ofW (cc := cX5_size) (maxL := 3) (ret := (some .int)) (by decide) rfl ?_
  intro p e s m args below meth c s₁ B hml hv
  obtain ⟨rfl, hsz, hP, hK, hD0, hG⟩ := hv
  have hx := B.exec
  have hb := B.bytes
  have hr := B.returns
  have hts := atoms_spec (ws := wsX5_size) B.pre
  have hown : s.vm.findClass RX5 = some m.cls := findClass_of_methodNamed B.named
  have hlocks := B.notSynchronized
  subst hsz
  have hD := hD0.self (sz := s.heap.size)
  generalize hAe : va_A [(a_o, .inr (4, [.ref a_o_axioms, .ref a_o_triples, .ref a_o_laid, .ref a_o_stated, .ref a_o_letters, .ref a_o_told, .ref a_o_needed, .ref a_o_reckoned, .int s_o_broken])), (a_o_laid, .inr (2, [.ref a_o_laid_ruleNumbers, .ref a_o_laid_instances, .ref a_o_laid_premiseCounts, .ref a_o_laid_premises, .int s_o_laid_last])), (a_o_laid_premiseCounts, .inl (fx_cI X, 301, .inl f_o_laid_premiseCounts)), (a_o_laid_premises, .inl (fx_cI X, 903, .inl f_o_laid_premises)), (a_o_reckoned, .inl (fx_cI X, 301, .inl f_o_reckoned))] s.heap.size = A at hD hG ⊢
  have hA : ∀ q : Nat, s.heap.size ≤ q → A q := fun q h => by rw [← hAe]; exact Or.inr h
  have hS : va_S A s.heap s.heap [] := va_S.rf
  have k49 := hts (.fieldLink RX5 49 "ProofChecker" "reckoned" "[I") (by decide +kernel)
  have k24 := hts (.fieldLink RX5 24 "ProofChecker" "laid" "LProofChecker$Rows;") (by decide +kernel)
  have hl := lv_entry ([.ref a_o, .int p1]) (n := 3) (Nat.le_of_ble_eq_true rfl)
  rw [lg_entry_eq]
  generalize (lg_sl ([.ref a_o, .int p1]) ++ List.replicate (3 - (lg_sl ([.ref a_o, .int p1])).length) Slot.unset).toArray = ls at hl ⊢
  have hl : lv_has ls 3 [(0, .ref a_o), (1, .int p1)] := hl
  unfold wp_X5_size at h
  refine lv_aload_n hx hb dX5_size_0 rfl (lv_at hl 0 rfl) ?_
  refine va_get (D := fx_D X) (ci := 4) (v := .ref a_o_laid) (C := RX5) (T := TX5) (N := 9) hx hb hts im_X5_size_X5 hown hK hP 0 rfl rfl 2 (by decide) k24 (fun _ h9 => h9) rfl dX5_size_1 ?_
  refine lv_iload_n hx hb dX5_size_4 rfl (lv_at hl 1 rfl) ?_
  refine vp_callSi (W.runV (As := [.int p1]) (rest := []) ⟨hx, hb, hml, hown, hts⟩ (cw_X2_has l X a_o_laid a_o_laid_ruleNumbers a_o_laid_instances a_o_laid_premiseCounts a_o_laid_premises s_o_laid_last p1 _ h) (cwV 1 hts gX5_size_X2_has rfl rfl rfl (by decide +kernel) ⟨Nat.le_of_ble_eq_true rfl, Nat.le_of_ble_eq_true rfl⟩) (fx_pv hP hK hG hS (va_recv hK hP (ci := 2) (q0 := 1) rfl rfl) [1] rfl) rfl rfl hl.1 rfl (lv_room (Nat.le_of_ble_eq_true rfl)) dX5_size_5 ⟨Nat.le_of_ble_eq_true rfl, Nat.le_of_ble_eq_true rfl⟩) (fun r1 h => ?_)
  refine fx_if_ne (tgt := 13) hx hb h dX5_size_8 (by decide) (fun h => ?_) (fun h => ?_)
  · refine lv_iconst (v := (nI 1)) hx hb dX5_size_13 (by decide) ?_
    refine lv_istore_n (lv' := [(2, .int (nI 1)), (0, .ref a_o), (1, .int p1)]) hx hb dX5_size_14 rfl hl (by decide) rfl (fun ls hl => ?_)
    refine fx_loop2 (G := fun (x2 : Int32) (y3 : Nat → Int32) => ∀ (H : Heap) (locs : List Loc) (ls : Array Slot), va_P (fx_D X) vwCl [(a_o, .inr (4, [.ref a_o_axioms, .ref a_o_triples, .ref a_o_laid, .ref a_o_stated, .ref a_o_letters, .ref a_o_told, .ref a_o_needed, .ref a_o_reckoned, .int s_o_broken])), (a_o_laid, .inr (2, [.ref a_o_laid_ruleNumbers, .ref a_o_laid_instances, .ref a_o_laid_premiseCounts, .ref a_o_laid_premises, .int s_o_laid_last])), (a_o_laid_premiseCounts, .inl (fx_cI X, 301, .inl f_o_laid_premiseCounts)), (a_o_laid_premises, .inl (fx_cI X, 903, .inl f_o_laid_premises)), (a_o_reckoned, .inl (fx_cI X, 301, .inl y3))] H → va_D A [(a_o, .inr (4, [.ref a_o_axioms, .ref a_o_triples, .ref a_o_laid, .ref a_o_stated, .ref a_o_letters, .ref a_o_told, .ref a_o_needed, .ref a_o_reckoned, .int s_o_broken])), (a_o_laid, .inr (2, [.ref a_o_laid_ruleNumbers, .ref a_o_laid_instances, .ref a_o_laid_premiseCounts, .ref a_o_laid_premises, .int s_o_laid_last])), (a_o_laid_premiseCounts, .inl (fx_cI X, 301, .inl f_o_laid_premiseCounts)), (a_o_laid_premises, .inl (fx_cI X, 903, .inl f_o_laid_premises)), (a_o_reckoned, .inl (fx_cI X, 301, .inl y3))] → va_S A s.heap H locs → lv_has ls 3 [(2, .int x2), (0, .ref a_o), (1, .int p1)] → W p l e _ s m _ below meth c H locs _ _ _ (F0 m 15 ls [])) (fun rec4 hrec4 x2 y3 h => ?_) h _ _ _ hP hD hS (lv_sub hl [0, 1, 2] rfl)
    intro H locs ls hP hD hS hl
    refine lv_iload_n hx hb dX5_size_15 rfl (lv_at hl 0 rfl) ?_
    refine lv_iload_n hx hb dX5_size_16 rfl (lv_at hl 2 rfl) ?_
    refine fx_icmp_gt (tgt := 37) hx hb h dX5_size_17 (by decide) (fun h => ?_) (fun h => ?_)
    · refine lv_aload_n hx hb dX5_size_37 rfl (lv_at hl 1 rfl) ?_
      refine va_get (D := fx_D X) (ci := 4) (v := .ref a_o_reckoned) (C := RX5) (T := TX5) (N := 9) hx hb hts im_X5_size_X5 hown hK hP 0 rfl rfl 7 (by decide) k49 (fun _ h9 => h9) rfl dX5_size_38 ?_
      refine lv_iload_n hx hb dX5_size_41 rfl (lv_at hl 2 rfl) ?_
      refine fx_iald hx hb hK hP 4 0 rfl rfl h dX5_size_42 (fun v5 h => ?_)
      exact W.iret (v := v5) hx hb hr  (fun t ht hW => ⟨⟨v5, y3, rfl, h, by rw [ht]; exact hP, va_K.moved hW.alike hK, hD⟩, hS.F ht⟩) hS.2.2 dX5_size_43
    refine lv_aload_n hx hb dX5_size_20 rfl (lv_at hl 1 rfl) ?_
    refine va_get (D := fx_D X) (ci := 4) (v := .ref a_o_reckoned) (C := RX5) (T := TX5) (N := 9) hx hb hts im_X5_size_X5 hown hK hP 0 rfl rfl 7 (by decide) k49 (fun _ h9 => h9) rfl dX5_size_21 ?_
    refine lv_iload_n hx hb dX5_size_24 rfl (lv_at hl 0 rfl) ?_
    refine lv_aload_n hx hb dX5_size_25 rfl (lv_at hl 1 rfl) ?_
    refine lv_iload_n hx hb dX5_size_26 rfl (lv_at hl 0 rfl) ?_
    refine vp_callSi (W.runV (As := [.int x2]) (rest := [.int x2, .ref a_o_reckoned]) ⟨hx, hb, hml, hown, hts⟩ (cw_X5_sizeAbovePremises l X a_o a_o_axioms a_o_triples a_o_laid a_o_stated a_o_letters a_o_told a_o_needed a_o_reckoned a_o_laid_ruleNumbers a_o_laid_instances a_o_laid_premiseCounts a_o_laid_premises s_o_broken s_o_laid_last f_o_laid_premiseCounts f_o_laid_premises y3 x2 _ h) (cwV 1 hts gX5_size_X5_sizeAbovePremises rfl rfl rfl (by decide +kernel) ⟨Nat.le_of_ble_eq_true rfl, Nat.le_of_ble_eq_true rfl⟩) (fx_pv hP hK hG hS (va_recv hK hP (ci := 4) (q0 := 0) rfl rfl) [0, 1, 2, 3, 4] rfl) rfl rfl hl.1 rfl (lv_room (Nat.le_of_ble_eq_true rfl)) dX5_size_27 ⟨Nat.le_of_ble_eq_true rfl, Nat.le_of_ble_eq_true rfl⟩) (fun r7 h => ?_)
    refine fx_iast hx hb hK hP hD hS 4 0 rfl rfl h dX5_size_30 (fun g8 => [(a_o, .inr (4, [.ref a_o_axioms, .ref a_o_triples, .ref a_o_laid, .ref a_o_stated, .ref a_o_letters, .ref a_o_told, .ref a_o_needed, .ref a_o_reckoned, .int s_o_broken])), (a_o_laid, .inr (2, [.ref a_o_laid_ruleNumbers, .ref a_o_laid_instances, .ref a_o_laid_premiseCounts, .ref a_o_laid_premises, .int s_o_laid_last])), (a_o_laid_premiseCounts, .inl (fx_cI X, 301, .inl f_o_laid_premiseCounts)), (a_o_laid_premises, .inl (fx_cI X, 903, .inl f_o_laid_premises)), (a_o_reckoned, .inl (fx_cI X, 301, .inl g8))]) (fun _ => rfl) (fun H locs g8 h hP hD hS => ?_)
    refine fx_iinc (y := (nI 1)) hx hb h dX5_size_31 (by decide) (fun v9 => [(2, .int v9), (0, .ref a_o), (1, .int p1)]) hl 0 rfl (by decide) (fun _ => rfl) (fun v9 ls h hl => ?_)
    refine lv_goto (tgt := 15) hx hb dX5_size_34 (by decide) ?_
    exact hrec4 _ _ h _ _ _ hP hD hS (lv_sub hl [0, 1, 2] rfl)
  refine lv_iconst (v := (-1)) hx hb dX5_size_11 (by decide) ?_
  exact W.iret (v := (-1)) hx hb hr  (fun t ht hW => ⟨⟨(-1), f_o_reckoned, rfl, h, by rw [ht]; exact hP, va_K.moved hW.alike hK, hD⟩, hS.F ht⟩) hS.2.2 dX5_size_12

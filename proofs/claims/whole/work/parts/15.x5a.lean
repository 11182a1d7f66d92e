/-- X5_isTerm: its walk -/
def wp_X5_isTerm (post : Int32 → Prop) (p1 : Int32) : Prop :=
  fx_br (p1 < 0) (post (nI 0)) (fx_br ((nI 1000) ≤ p1) (post (nI 0)) (post (nI 1)))
set_option maxHeartbeats 4000000 in
set_option maxRecDepth 100000 in
theorem cw_X5_isTerm (l : Launch) (X : fx_X)   (p1 : Int32) (post : Int32 → Prop) (h : wp_X5_isTerm post p1) : Met l yX5_isTerm wsX5_isTerm ({ frames := 0, cells := 0, slots := 0, locals := 0 }) (va_Pc [.int p1] (fx_PP X [])) (vp_Si post) 0 0 (fun _ => False) := by
  refine Met.ofW (cc := cX5_isTerm) (maxL := 1) (ret := (some .boolean)) (by decide) rfl ?_
  intro p e s m args below meth c s₁ B hml hv
  obtain ⟨rfl, hP, hK, hG⟩ := hv
  have hx := B.exec
  have hb := B.bytes
  have hr := B.returns
  have hts := atoms_spec (ws := wsX5_isTerm) B.pre
  have hown : s.vm.findClass RX5 = some m.cls := findClass_of_methodNamed B.named
  have hlocks := B.notSynchronized
  have hS : va_S (fun _ => False) s.heap s.heap [] := va_S.rf
  have hl := lv_entry ([.int p1]) (n := 1) (Nat.le_of_ble_eq_true rfl)
  rw [lg_entry_eq]
  generalize (lg_sl ([.int p1]) ++ List.replicate (1 - (lg_sl ([.int p1])).length) Slot.unset).toArray = ls at hl ⊢
  have hl : lv_has ls 1 [(0, .int p1)] := hl
  unfold wp_X5_isTerm at h
  refine lv_iload_n hx hb dX5_isTerm_0 rfl (lv_at hl 0 rfl) ?_
  refine fx_if_lt (tgt := 15) hx hb h dX5_isTerm_1 (by decide) (fun h => ?_) (fun h => ?_)
  · refine lv_iconst (v := (nI 0)) hx hb dX5_isTerm_15 (by decide) ?_
    exact W.zret (v := (nI 0)) hx hb hr rfl (fun t ht hW => ⟨_, rfl, h, ht⟩) (fun q hq => by cases hq) dX5_isTerm_16
  refine lv_iload_n hx hb dX5_isTerm_4 rfl (lv_at hl 0 rfl) ?_
  refine lv_sipush (v := (nI 1000)) hx hb dX5_isTerm_5 (by decide) ?_
  refine fx_icmp_ge (tgt := 15) hx hb h dX5_isTerm_8 (by decide) (fun h => ?_) (fun h => ?_)
  · refine lv_iconst (v := (nI 0)) hx hb dX5_isTerm_15 (by decide) ?_
    exact W.zret (v := (nI 0)) hx hb hr rfl (fun t ht hW => ⟨_, rfl, h, ht⟩) (fun q hq => by cases hq) dX5_isTerm_16
  refine lv_iconst (v := (nI 1)) hx hb dX5_isTerm_11 (by decide) ?_
  refine lv_goto (tgt := 16) hx hb dX5_isTerm_12 (by decide) ?_
  exact W.zret (v := (nI 1)) hx hb hr rfl (fun t ht hW => ⟨_, rfl, h, ht⟩) (fun q hq => by cases hq) dX5_isTerm_16

/-- X5_ruleNumbered: its walk -/
def wp_X5_ruleNumbered (post : Option Nat → Prop) (p1 : Int32) : Prop :=
  fx_br (p1 < 0) (post none) (fx_br ((nI 18) ≤ p1) (post none) (fx_ix p1 18 (fun k1 => post (some k1))))
set_option maxHeartbeats 4000000 in
set_option maxRecDepth 100000 in
theorem cw_X5_ruleNumbered (l : Launch) (X : fx_X)   (p1 : Int32) (post : Option Nat → Prop) (h : wp_X5_ruleNumbered post p1) : Met l yX5_ruleNumbered wsX5_ruleNumbered ({ frames := 0, cells := 0, slots := 0, locals := 0 }) (va_Pc [.int p1] (fx_PP X [])) (va_Se (fx_aR X) post) 0 0 (fun _ => False) := by
  refine Met.ofW (cc := cX5_ruleNumbered) (maxL := 1) (ret := (some (.object "ProofChecker$Rule"))) (by decide) rfl ?_
  intro p e s m args below meth c s₁ B hml hv
  obtain ⟨rfl, hP, hK, hG⟩ := hv
  have hx := B.exec
  have hb := B.bytes
  have hr := B.returns
  have hts := atoms_spec (ws := wsX5_ruleNumbered) B.pre
  have hown : s.vm.findClass RX5 = some m.cls := findClass_of_methodNamed B.named
  have hlocks := B.notSynchronized
  have hS : va_S (fun _ => False) s.heap s.heap [] := va_S.rf
  have k183 := hts (.fieldLink RX5 183 "ProofChecker" "RULES" "[LProofChecker$Rule;") (by decide +kernel)
  have hl := lv_entry ([.int p1]) (n := 1) (Nat.le_of_ble_eq_true rfl)
  rw [lg_entry_eq]
  generalize (lg_sl ([.int p1]) ++ List.replicate (1 - (lg_sl ([.int p1])).length) Slot.unset).toArray = ls at hl ⊢
  have hl : lv_has ls 1 [(0, .int p1)] := hl
  unfold wp_X5_ruleNumbered at h
  refine lv_iload_n hx hb dX5_ruleNumbered_0 rfl (lv_at hl 0 rfl) ?_
  refine fx_if_lt (tgt := 20) hx hb h dX5_ruleNumbered_1 (by decide) (fun h => ?_) (fun h => ?_)
  · refine lv_null hx hb dX5_ruleNumbered_20 ?_
    exact W.aret (v := va_re (fx_aR X) none) hx hb hr (Or.inl ⟨_, rfl⟩) (va_re_or _ _) (fun t ht hW => ⟨_, rfl, h, ht⟩) (fun q hq => by cases hq) dX5_ruleNumbered_21
  refine lv_iload_n hx hb dX5_ruleNumbered_4 rfl (lv_at hl 0 rfl) ?_
  refine va_gets (v := .ref (fx_tR X)) hx hb hG.rules hS hown k183 (fun _ h9 => h9) dX5_ruleNumbered_5 ?_
  refine va_tlen (v := nI 18) hx hb hG.rulesT hS rfl dX5_ruleNumbered_8 ?_
  refine fx_icmp_ge (tgt := 20) hx hb h dX5_ruleNumbered_9 (by decide) (fun h => ?_) (fun h => ?_)
  · refine lv_null hx hb dX5_ruleNumbered_20 ?_
    exact W.aret (v := va_re (fx_aR X) none) hx hb hr (Or.inl ⟨_, rfl⟩) (va_re_or _ _) (fun t ht hW => ⟨_, rfl, h, ht⟩) (fun q hq => by cases hq) dX5_ruleNumbered_21
  refine va_gets (v := .ref (fx_tR X)) hx hb hG.rules hS hown k183 (fun _ h9 => h9) dX5_ruleNumbered_12 ?_
  refine lv_iload_n hx hb dX5_ruleNumbered_15 rfl (lv_at hl 0 rfl) ?_
  refine fx_tqR hx hb hG hS h dX5_ruleNumbered_16 (fun k1 h => ?_)
  refine lv_goto (tgt := 21) hx hb dX5_ruleNumbered_17 (by decide) ?_
  exact W.aret (v := va_re (fx_aR X) (some k1)) hx hb hr (Or.inl ⟨_, rfl⟩) (va_re_or _ _) (fun t ht hW => ⟨_, rfl, h, ht⟩) (fun q hq => by cases hq) dX5_ruleNumbered_21

/-- X5_ruleOf: its walk -/
def wp_X5_ruleOf (post : Option Nat → Prop) (s_o_laid_last : Int32) (f_o_laid_ruleNumbers : Nat → Int32) (p1 : Int32) : Prop :=
  wp_X2_has (fun r1 => fx_br (r1 = 0) (post none) (wp_X2_ruleNumber (fun r2 => wp_X5_ruleNumbered (fun r3 => post r3) r2) s_o_laid_last f_o_laid_ruleNumbers p1)) s_o_laid_last p1
theorem im_X5_ruleOf_X5 : ∀ w ∈ u_ws RX5 TX5 9, w ∈ wsX5_ruleOf := by decide +kernel
set_option maxHeartbeats 4000000 in
set_option maxRecDepth 100000 in
theorem cw_X5_ruleOf (l : Launch) (X : fx_X) (a_o : Nat) (a_o_axioms : Nat) (a_o_triples : Nat) (a_o_laid : Nat) (a_o_stated : Nat) (a_o_letters : Nat) (a_o_told : Nat) (a_o_needed : Nat) (a_o_reckoned : Nat) (a_o_laid_ruleNumbers : Nat) (a_o_laid_instances : Nat) (a_o_laid_premiseCounts : Nat) (a_o_laid_premises : Nat) (s_o_broken : Int32) (s_o_laid_last : Int32) (f_o_laid_ruleNumbers : Nat → Int32) (p1 : Int32) (post : Option Nat → Prop) (h : wp_X5_ruleOf post s_o_laid_last f_o_laid_ruleNumbers p1) : Met l yX5_ruleOf wsX5_ruleOf ({ frames := 2, cells := 0, slots := 0, locals := 42 }) (va_Pc [.ref a_o, .int p1] (fx_PP X [(a_o, .inr (4, [.ref a_o_axioms, .ref a_o_triples, .ref a_o_laid, .ref a_o_stated, .ref a_o_letters, .ref a_o_told, .ref a_o_needed, .ref a_o_reckoned, .int s_o_broken])), (a_o_laid, .inr (2, [.ref a_o_laid_ruleNumbers, .ref a_o_laid_instances, .ref a_o_laid_premiseCounts, .ref a_o_laid_premises, .int s_o_laid_last])), (a_o_laid_ruleNumbers, .inl (fx_cI X, 301, .inl f_o_laid_ruleNumbers))])) (va_Se (fx_aR X) post) 0 0 (fun _ => False) := by
  refine Met.ofW (cc := cX5_ruleOf) (maxL := 2) (ret := (some (.object "ProofChecker$Rule"))) (by decide) rfl ?_
  intro p e s m args below meth c s₁ B hml hv
  obtain ⟨rfl, hP, hK, hG⟩ := hv
  have hx := B.exec
  have hb := B.bytes
  have hr := B.returns
  have hts := atoms_spec (ws := wsX5_ruleOf) B.pre
  have hown : s.vm.findClass RX5 = some m.cls := findClass_of_methodNamed B.named
  have hlocks := B.notSynchronized
  have hS : va_S (fun _ => False) s.heap s.heap [] := va_S.rf
  have k24 := hts (.fieldLink RX5 24 "ProofChecker" "laid" "LProofChecker$Rows;") (by decide +kernel)
  have hl := lv_entry ([.ref a_o, .int p1]) (n := 2) (Nat.le_of_ble_eq_true rfl)
  rw [lg_entry_eq]
  generalize (lg_sl ([.ref a_o, .int p1]) ++ List.replicate (2 - (lg_sl ([.ref a_o, .int p1])).length) Slot.unset).toArray = ls at hl ⊢
  have hl : lv_has ls 2 [(0, .ref a_o), (1, .int p1)] := hl
  unfold wp_X5_ruleOf at h
  refine lv_aload_n hx hb dX5_ruleOf_0 rfl (lv_at hl 0 rfl) ?_
  refine va_get (D := fx_D X) (ci := 4) (v := .ref a_o_laid) (C := RX5) (T := TX5) (N := 9) hx hb hts im_X5_ruleOf_X5 hown hK hP 0 rfl rfl 2 (by decide) k24 (fun _ h9 => h9) rfl dX5_ruleOf_1 ?_
  refine lv_iload_n hx hb dX5_ruleOf_4 rfl (lv_at hl 1 rfl) ?_
  refine vp_callSi (W.runV (As := [.int p1]) (rest := []) ⟨hx, hb, hml, hown, hts⟩ (cw_X2_has l X a_o_laid a_o_laid_ruleNumbers a_o_laid_instances a_o_laid_premiseCounts a_o_laid_premises s_o_laid_last p1 _ h) (cwV 1 hts gX5_ruleOf_X2_has rfl rfl rfl (by decide +kernel) ⟨Nat.le_of_ble_eq_true rfl, Nat.le_of_ble_eq_true rfl⟩) (fx_pv hP hK hG hS (va_recv hK hP (ci := 2) (q0 := 1) rfl rfl) [1] rfl) rfl rfl hl.1 rfl (lv_room (Nat.le_of_ble_eq_true rfl)) dX5_ruleOf_5 ⟨Nat.le_of_ble_eq_true rfl, Nat.le_of_ble_eq_true rfl⟩) (fun r1 h => ?_)
  refine fx_if_eq (tgt := 25) hx hb h dX5_ruleOf_8 (by decide) (fun h => ?_) (fun h => ?_)
  · refine lv_null hx hb dX5_ruleOf_25 ?_
    exact W.aret (v := va_re (fx_aR X) none) hx hb hr (Or.inl ⟨_, rfl⟩) (va_re_or _ _) (fun t ht hW => ⟨_, rfl, h, ht⟩) (fun q hq => by cases hq) dX5_ruleOf_26
  refine lv_aload_n hx hb dX5_ruleOf_11 rfl (lv_at hl 0 rfl) ?_
  refine va_get (D := fx_D X) (ci := 4) (v := .ref a_o_laid) (C := RX5) (T := TX5) (N := 9) hx hb hts im_X5_ruleOf_X5 hown hK hP 0 rfl rfl 2 (by decide) k24 (fun _ h9 => h9) rfl dX5_ruleOf_12 ?_
  refine lv_iload_n hx hb dX5_ruleOf_15 rfl (lv_at hl 1 rfl) ?_
  refine vp_callSi (W.runV (As := [.int p1]) (rest := []) ⟨hx, hb, hml, hown, hts⟩ (cw_X2_ruleNumber l X a_o_laid a_o_laid_ruleNumbers a_o_laid_instances a_o_laid_premiseCounts a_o_laid_premises s_o_laid_last f_o_laid_ruleNumbers p1 _ h) (cwV 1 hts gX5_ruleOf_X2_ruleNumber rfl rfl rfl (by decide +kernel) ⟨Nat.le_of_ble_eq_true rfl, Nat.le_of_ble_eq_true rfl⟩) (fx_pv hP hK hG hS (va_recv hK hP (ci := 2) (q0 := 1) rfl rfl) [1, 2] rfl) rfl rfl hl.1 rfl (lv_room (Nat.le_of_ble_eq_true rfl)) dX5_ruleOf_16 ⟨Nat.le_of_ble_eq_true rfl, Nat.le_of_ble_eq_true rfl⟩) (fun r2 h => ?_)
  refine va_cse (W.runS (As := [.int r2]) (rest := []) ⟨hx, hb, hml, hown, hts⟩ (cw_X5_ruleNumbered l X   r2 _ h) (va_cwS 1 hts gX5_ruleOf_X5_ruleNumbered rfl rfl rfl (by decide +kernel) ⟨Nat.le_of_ble_eq_true rfl, Nat.le_of_ble_eq_true rfl⟩) (fx_ps (wc := []) hP hK hG hS [] rfl) rfl rfl hl.1 rfl (lv_room (Nat.le_of_ble_eq_true rfl)) dX5_ruleOf_19 ⟨Nat.le_of_ble_eq_true rfl, Nat.le_of_ble_eq_true rfl⟩) (fun r3 h => ?_)
  refine lv_goto (tgt := 26) hx hb dX5_ruleOf_22 (by decide) ?_
  exact W.aret (v := va_re (fx_aR X) r3) hx hb hr (Or.inl ⟨_, rfl⟩) (va_re_or _ _) (fun t ht hW => ⟨_, rfl, h, ht⟩) (fun q hq => by cases hq) dX5_ruleOf_26

/-- X5_isInstance: its walk -/
def wp_X5_isInstance (post : Int32 → Prop) (f_o_axioms_kinds : Nat → Int32) (f_o_triples_kinds : Nat → Int32) (p1 : Nat) (p2 : Int32) : Prop :=
  fx_lt p1 18 (fx_br (p1 = 0) (wp_X4_has (fun r4 => fx_bo r4 (post r4)) 101 f_o_axioms_kinds p2) (fx_lt p1 18 (fx_br (p1 = 1) (wp_X4_has (fun r1 => fx_bo r1 (post r1)) 101 f_o_triples_kinds p2) (fx_lt p1 18 (fx_br (p1 = 17) (wp_X4_has (fun r3 => fx_bo r3 (post r3)) 101 f_o_triples_kinds p2) (fx_lt p1 18 (fx_br (p1 = 2) (wp_X5_isTerm (fun r2 => fx_br (r2 = 0) (post (nI 0)) (post (nI 1))) p2) (post (nI 1)))))))))
theorem im_X5_isInstance_X5 : ∀ w ∈ u_ws RX5 TX5 9, w ∈ wsX5_isInstance := by decide +kernel
set_option maxHeartbeats 4000000 in
set_option maxRecDepth 100000 in
theorem cw_X5_isInstance (l : Launch) (X : fx_X) (a_o : Nat) (a_o_axioms : Nat) (a_o_triples : Nat) (a_o_laid : Nat) (a_o_stated : Nat) (a_o_letters : Nat) (a_o_told : Nat) (a_o_needed : Nat) (a_o_reckoned : Nat) (a_o_axioms_kinds : Nat) (a_o_axioms_numbers : Nat) (a_o_triples_kinds : Nat) (a_o_triples_numbers : Nat) (s_o_broken : Int32) (s_o_axioms_count : Int32) (f_o_axioms_kinds : Nat → Int32) (s_o_triples_count : Int32) (f_o_triples_kinds : Nat → Int32) (p1 : Nat) (p2 : Int32) (post : Int32 → Prop) (h : wp_X5_isInstance post f_o_axioms_kinds f_o_triples_kinds p1 p2) : Met l yX5_isInstance wsX5_isInstance ({ frames := 2, cells := 0, slots := 0, locals := 42 }) (va_Pc [.ref a_o, .ref (fx_aR X p1), .int p2] (fx_PP X [(a_o, .inr (4, [.ref a_o_axioms, .ref a_o_triples, .ref a_o_laid, .ref a_o_stated, .ref a_o_letters, .ref a_o_told, .ref a_o_needed, .ref a_o_reckoned, .int s_o_broken])), (a_o_axioms, .inr (3, [.ref a_o_axioms_kinds, .ref a_o_axioms_numbers, .int s_o_axioms_count])), (a_o_axioms_kinds, .inl (fx_cI X, 101, .inl f_o_axioms_kinds)), (a_o_triples, .inr (3, [.ref a_o_triples_kinds, .ref a_o_triples_numbers, .int s_o_triples_count])), (a_o_triples_kinds, .inl (fx_cI X, 101, .inl f_o_triples_kinds))])) (vp_Si post) 0 0 (fun _ => False) := by
  refine Met.ofW (cc := cX5_isInstance) (maxL := 3) (ret := (some .boolean)) (by decide) rfl ?_
  intro p e s m args below meth c s₁ B hml hv
  obtain ⟨rfl, hP, hK, hG⟩ := hv
  have hx := B.exec
  have hb := B.bytes
  have hr := B.returns
  have hts := atoms_spec (ws := wsX5_isInstance) B.pre
  have hown : s.vm.findClass RX5 = some m.cls := findClass_of_methodNamed B.named
  have hlocks := B.notSynchronized
  have hS : va_S (fun _ => False) s.heap s.heap [] := va_S.rf
  have k187 := hts (.fieldLink RX5 187 "ProofChecker$Rule" "AXIOM" "LProofChecker$Rule;") (by decide +kernel)
  have k191 := hts (.fieldLink RX5 191 "ProofChecker$Rule" "GIVEN" "LProofChecker$Rule;") (by decide +kernel)
  have k18 := hts (.fieldLink RX5 18 "ProofChecker" "triples" "LProofChecker$Statements;") (by decide +kernel)
  have k194 := hts (.fieldLink RX5 194 "ProofChecker$Rule" "ANYTHING" "LProofChecker$Rule;") (by decide +kernel)
  have k197 := hts (.fieldLink RX5 197 "ProofChecker$Rule" "ITSELF" "LProofChecker$Rule;") (by decide +kernel)
  have k14 := hts (.fieldLink RX5 14 "ProofChecker" "axioms" "LProofChecker$Statements;") (by decide +kernel)
  have hl := lv_entry ([.ref a_o, .ref (fx_aR X p1), .int p2]) (n := 3) (Nat.le_of_ble_eq_true rfl)
  rw [lg_entry_eq]
  generalize (lg_sl ([.ref a_o, .ref (fx_aR X p1), .int p2]) ++ List.replicate (3 - (lg_sl ([.ref a_o, .ref (fx_aR X p1), .int p2])).length) Slot.unset).toArray = ls at hl ⊢
  have hl : lv_has ls 3 [(0, .ref a_o), (1, .ref (fx_aR X p1)), (2, .int p2)] := hl
  unfold wp_X5_isInstance at h
  refine lv_aload_n hx hb dX5_isInstance_0 rfl (lv_at hl 1 rfl) ?_
  refine va_gets (v := .ref (fx_aR X 0)) hx hb hG.rAXIOM hS hown k187 (fun _ h9 => h9) dX5_isInstance_1 ?_
  refine fx_acmp_ne (tgt := 16) hx hb hG h (by decide) dX5_isInstance_4 (by decide) (fun h => ?_) (fun h => ?_)
  · refine lv_aload_n hx hb dX5_isInstance_16 rfl (lv_at hl 1 rfl) ?_
    refine va_gets (v := .ref (fx_aR X 1)) hx hb hG.rGIVEN hS hown k191 (fun _ h9 => h9) dX5_isInstance_17 ?_
    refine fx_acmp_eq (tgt := 30) hx hb hG h (by decide) dX5_isInstance_20 (by decide) (fun h => ?_) (fun h => ?_)
    · refine lv_aload_n hx hb dX5_isInstance_30 rfl (lv_at hl 0 rfl) ?_
      refine va_get (D := fx_D X) (ci := 4) (v := .ref a_o_triples) (C := RX5) (T := TX5) (N := 9) hx hb hts im_X5_isInstance_X5 hown hK hP 0 rfl rfl 1 (by decide) k18 (fun _ h9 => h9) rfl dX5_isInstance_31 ?_
      refine lv_iload_n hx hb dX5_isInstance_34 rfl (lv_at hl 2 rfl) ?_
      refine vp_callSi (W.runV (As := [.int p2]) (rest := []) ⟨hx, hb, hml, hown, hts⟩ (cw_X4_has l X a_o_triples a_o_triples_kinds a_o_triples_numbers 101 s_o_triples_count f_o_triples_kinds p2 _ h) (cwV 1 hts gX5_isInstance_X4_has rfl rfl rfl (by decide +kernel) ⟨Nat.le_of_ble_eq_true rfl, Nat.le_of_ble_eq_true rfl⟩) (fx_pv hP hK hG hS (va_recv hK hP (ci := 3) (q0 := 3) rfl rfl) [3, 4] rfl) rfl rfl hl.1 rfl (lv_room (Nat.le_of_ble_eq_true rfl)) dX5_isInstance_35 ⟨Nat.le_of_ble_eq_true rfl, Nat.le_of_ble_eq_true rfl⟩) (fun r1 h => ?_)
      exact W.zret (v := r1) hx hb hr (fx_bo_n h) (fun t ht hW => ⟨_, rfl, h.2, ht⟩) (fun q hq => by cases hq) dX5_isInstance_38
    refine lv_aload_n hx hb dX5_isInstance_23 rfl (lv_at hl 1 rfl) ?_
    refine va_gets (v := .ref (fx_aR X 17)) hx hb hG.rANYTHING hS hown k194 (fun _ h9 => h9) dX5_isInstance_24 ?_
    refine fx_acmp_ne (tgt := 39) hx hb hG h (by decide) dX5_isInstance_27 (by decide) (fun h => ?_) (fun h => ?_)
    · refine lv_aload_n hx hb dX5_isInstance_39 rfl (lv_at hl 1 rfl) ?_
      refine va_gets (v := .ref (fx_aR X 2)) hx hb hG.rITSELF hS hown k197 (fun _ h9 => h9) dX5_isInstance_40 ?_
      refine fx_acmp_ne (tgt := 53) hx hb hG h (by decide) dX5_isInstance_43 (by decide) (fun h => ?_) (fun h => ?_)
      · refine lv_iconst (v := (nI 1)) hx hb dX5_isInstance_53 (by decide) ?_
        refine lv_goto (tgt := 58) hx hb dX5_isInstance_54 (by decide) ?_
        exact W.zret (v := (nI 1)) hx hb hr rfl (fun t ht hW => ⟨_, rfl, h, ht⟩) (fun q hq => by cases hq) dX5_isInstance_58
      refine lv_iload_n hx hb dX5_isInstance_46 rfl (lv_at hl 2 rfl) ?_
      refine vp_callSi (W.runS (As := [.int p2]) (rest := []) ⟨hx, hb, hml, hown, hts⟩ (cw_X5_isTerm l X   p2 _ h) (va_cwS 1 hts gX5_isInstance_X5_isTerm rfl rfl rfl (by decide +kernel) ⟨Nat.le_of_ble_eq_true rfl, Nat.le_of_ble_eq_true rfl⟩) (fx_ps (wc := []) hP hK hG hS [] rfl) rfl rfl hl.1 rfl (lv_room (Nat.le_of_ble_eq_true rfl)) dX5_isInstance_47 ⟨Nat.le_of_ble_eq_true rfl, Nat.le_of_ble_eq_true rfl⟩) (fun r2 h => ?_)
      refine fx_if_eq (tgt := 57) hx hb h dX5_isInstance_50 (by decide) (fun h => ?_) (fun h => ?_)
      · refine lv_iconst (v := (nI 0)) hx hb dX5_isInstance_57 (by decide) ?_
        exact W.zret (v := (nI 0)) hx hb hr rfl (fun t ht hW => ⟨_, rfl, h, ht⟩) (fun q hq => by cases hq) dX5_isInstance_58
      refine lv_iconst (v := (nI 1)) hx hb dX5_isInstance_53 (by decide) ?_
      refine lv_goto (tgt := 58) hx hb dX5_isInstance_54 (by decide) ?_
      exact W.zret (v := (nI 1)) hx hb hr rfl (fun t ht hW => ⟨_, rfl, h, ht⟩) (fun q hq => by cases hq) dX5_isInstance_58
    refine lv_aload_n hx hb dX5_isInstance_30 rfl (lv_at hl 0 rfl) ?_
    refine va_get (D := fx_D X) (ci := 4) (v := .ref a_o_triples) (C := RX5) (T := TX5) (N := 9) hx hb hts im_X5_isInstance_X5 hown hK hP 0 rfl rfl 1 (by decide) k18 (fun _ h9 => h9) rfl dX5_isInstance_31 ?_
    refine lv_iload_n hx hb dX5_isInstance_34 rfl (lv_at hl 2 rfl) ?_
    refine vp_callSi (W.runV (As := [.int p2]) (rest := []) ⟨hx, hb, hml, hown, hts⟩ (cw_X4_has l X a_o_triples a_o_triples_kinds a_o_triples_numbers 101 s_o_triples_count f_o_triples_kinds p2 _ h) (cwV 1 hts gX5_isInstance_X4_has rfl rfl rfl (by decide +kernel) ⟨Nat.le_of_ble_eq_true rfl, Nat.le_of_ble_eq_true rfl⟩) (fx_pv hP hK hG hS (va_recv hK hP (ci := 3) (q0 := 3) rfl rfl) [3, 4] rfl) rfl rfl hl.1 rfl (lv_room (Nat.le_of_ble_eq_true rfl)) dX5_isInstance_35 ⟨Nat.le_of_ble_eq_true rfl, Nat.le_of_ble_eq_true rfl⟩) (fun r3 h => ?_)
    exact W.zret (v := r3) hx hb hr (fx_bo_n h) (fun t ht hW => ⟨_, rfl, h.2, ht⟩) (fun q hq => by cases hq) dX5_isInstance_38
  refine lv_aload_n hx hb dX5_isInstance_7 rfl (lv_at hl 0 rfl) ?_
  refine va_get (D := fx_D X) (ci := 4) (v := .ref a_o_axioms) (C := RX5) (T := TX5) (N := 9) hx hb hts im_X5_isInstance_X5 hown hK hP 0 rfl rfl 0 (by decide) k14 (fun _ h9 => h9) rfl dX5_isInstance_8 ?_
  refine lv_iload_n hx hb dX5_isInstance_11 rfl (lv_at hl 2 rfl) ?_
  refine vp_callSi (W.runV (As := [.int p2]) (rest := []) ⟨hx, hb, hml, hown, hts⟩ (cw_X4_has l X a_o_axioms a_o_axioms_kinds a_o_axioms_numbers 101 s_o_axioms_count f_o_axioms_kinds p2 _ h) (cwV 1 hts gX5_isInstance_X4_has rfl rfl rfl (by decide +kernel) ⟨Nat.le_of_ble_eq_true rfl, Nat.le_of_ble_eq_true rfl⟩) (fx_pv hP hK hG hS (va_recv hK hP (ci := 3) (q0 := 1) rfl rfl) [1, 2] rfl) rfl rfl hl.1 rfl (lv_room (Nat.le_of_ble_eq_true rfl)) dX5_isInstance_12 ⟨Nat.le_of_ble_eq_true rfl, Nat.le_of_ble_eq_true rfl⟩) (fun r4 h => ?_)
  exact W.zret (v := r4) hx hb hr (fx_bo_n h) (fun t ht hW => ⟨_, rfl, h.2, ht⟩) (fun q hq => by cases hq) dX5_isInstance_15

/-- X5_signAt: its walk -/
def wp_X5_signAt (post : Int32 → Prop) (p1 : Nat) (p2 : Int32) : Prop :=
  fx_br (p2 < 0) (post (nI 46)) (fx_lt p1 66 (wp_J0_length_8abf5 (fun r1 => fx_br (r1 ≤ p2) (post (nI 46)) (fx_lt p1 66 (wp_J0_charAt_5068e (fun r2 => fx_ch r2 (post r2)) p1 p2))) p1))
set_option maxHeartbeats 4000000 in
set_option maxRecDepth 100000 in
theorem cw_X5_signAt (l : Launch) (X : fx_X)   (p1 : Nat) (p2 : Int32) (post : Int32 → Prop) (h : wp_X5_signAt post p1 p2) : Met l yX5_signAt wsX5_signAt ({ frames := 4, cells := 0, slots := 0, locals := 85 }) (va_Pc [.ref (fx_aS X p1), .int p2] (fx_PP X [])) (vp_Si post) 0 0 (fun _ => False) := by
  refine Met.ofW (cc := cX5_signAt) (maxL := 2) (ret := (some .char)) (by decide) rfl ?_
  intro p e s m args below meth c s₁ B hml hv
  obtain ⟨rfl, hP, hK, hG⟩ := hv
  have hx := B.exec
  have hb := B.bytes
  have hr := B.returns
  have hts := atoms_spec (ws := wsX5_signAt) B.pre
  have hown : s.vm.findClass RX5 = some m.cls := findClass_of_methodNamed B.named
  have hlocks := B.notSynchronized
  have hS : va_S (fun _ => False) s.heap s.heap [] := va_S.rf
  have hl := lv_entry ([.ref (fx_aS X p1), .int p2]) (n := 2) (Nat.le_of_ble_eq_true rfl)
  rw [lg_entry_eq]
  generalize (lg_sl ([.ref (fx_aS X p1), .int p2]) ++ List.replicate (2 - (lg_sl ([.ref (fx_aS X p1), .int p2])).length) Slot.unset).toArray = ls at hl ⊢
  have hl : lv_has ls 2 [(0, .ref (fx_aS X p1)), (1, .int p2)] := hl
  unfold wp_X5_signAt at h
  refine lv_iload_n hx hb dX5_signAt_0 rfl (lv_at hl 1 rfl) ?_
  refine fx_if_lt (tgt := 20) hx hb h dX5_signAt_1 (by decide) (fun h => ?_) (fun h => ?_)
  · refine lv_bipush (v := (nI 46)) hx hb dX5_signAt_20 (by decide) ?_
    exact W.zret (v := (nI 46)) hx hb hr (by decide) (fun t ht hW => ⟨_, rfl, h, ht⟩) (fun q hq => by cases hq) dX5_signAt_22
  refine lv_iload_n hx hb dX5_signAt_4 rfl (lv_at hl 1 rfl) ?_
  refine lv_aload_n hx hb dX5_signAt_5 rfl (lv_at hl 0 rfl) ?_
  refine vp_callSi (W.runV (As := []) (rest := [.int p2]) ⟨hx, hb, hml, hown, hts⟩ (cw_J0_length_8abf5 l X   p1 _ h.2) (cwV 0 hts gX5_signAt_J0_length_8abf5 rfl rfl rfl (by decide +kernel) ⟨Nat.le_of_ble_eq_true rfl, Nat.le_of_ble_eq_true rfl⟩) (fx_pv (wc := []) hP hK hG hS (hG.recS h.1 hS) [] rfl) rfl rfl hl.1 rfl (lv_room (Nat.le_of_ble_eq_true rfl)) dX5_signAt_6 ⟨Nat.le_of_ble_eq_true rfl, Nat.le_of_ble_eq_true rfl⟩) (fun r1 h => ?_)
  refine fx_icmp_ge (tgt := 20) hx hb h dX5_signAt_9 (by decide) (fun h => ?_) (fun h => ?_)
  · refine lv_bipush (v := (nI 46)) hx hb dX5_signAt_20 (by decide) ?_
    exact W.zret (v := (nI 46)) hx hb hr (by decide) (fun t ht hW => ⟨_, rfl, h, ht⟩) (fun q hq => by cases hq) dX5_signAt_22
  refine lv_aload_n hx hb dX5_signAt_12 rfl (lv_at hl 0 rfl) ?_
  refine lv_iload_n hx hb dX5_signAt_13 rfl (lv_at hl 1 rfl) ?_
  refine vp_callSi (W.runV (As := [.int p2]) (rest := []) ⟨hx, hb, hml, hown, hts⟩ (cw_J0_charAt_5068e l X   p1 p2 _ h.2) (cwV 1 hts gX5_signAt_J0_charAt_5068e rfl rfl rfl (by decide +kernel) ⟨Nat.le_of_ble_eq_true rfl, Nat.le_of_ble_eq_true rfl⟩) (fx_pv (wc := []) hP hK hG hS (hG.recS h.1 hS) [] rfl) rfl rfl hl.1 rfl (lv_room (Nat.le_of_ble_eq_true rfl)) dX5_signAt_14 ⟨Nat.le_of_ble_eq_true rfl, Nat.le_of_ble_eq_true rfl⟩) (fun r2 h => ?_)
  refine lv_goto (tgt := 22) hx hb dX5_signAt_17 (by decide) ?_
  exact W.zret (v := r2) hx hb hr (fx_ch_n h) (fun t ht hW => ⟨_, rfl, h.2, ht⟩) (fun q hq => by cases hq) dX5_signAt_22

/-- X5_isAsTold: its walk -/
def wp_X5_isAsTold (post : Int32 → (Nat → Int32) → Prop) (f_o_stated_kinds : Nat → Int32) (f_o_stated_numbers : Nat → Int32) (f_o_letters_meanings : Nat → Int32) (p1 : Int32) (p2 : Nat) (p3 : Int32) : Prop :=
  wp_X4_kind (fun r1 => wp_X5_signAt (fun r2 => wp_X1_kindFor (fun r3 => fx_br (r1 = r3) (fx_wh2 (fun (rec6 : Int32 → (Nat → Int32) → Prop) (x4 : Int32) (y5 : Nat → Int32) => fx_br ((nI 3) < x4) (post (nI 1) y5) (fx_nm (p3 + x4) (fun v7 => wp_X5_signAt (fun r8 => wp_X4_number (fun r9 => wp_X1_agree (fun r10 y11 => fx_br (r10 = 0) (post (nI 0) y11) (fx_nm (x4 + (nI 1)) (fun v12 => rec6 v12 y11))) y5 r8 r9) 301 903 f_o_stated_numbers p1 x4) p2 v7))) (nI 1) f_o_letters_meanings) (post (nI 0) f_o_letters_meanings)) r2) p2 p3) 301 f_o_stated_kinds p1
theorem im_X5_isAsTold_X5 : ∀ w ∈ u_ws RX5 TX5 9, w ∈ wsX5_isAsTold := by decide +kernel
set_option maxHeartbeats 4000000 in
set_option maxRecDepth 100000 in
theorem cw_X5_isAsTold (l : Launch) (X : fx_X) (a_o : Nat) (a_o_axioms : Nat) (a_o_triples : Nat) (a_o_laid : Nat) (a_o_stated : Nat) (a_o_letters : Nat) (a_o_told : Nat) (a_o_needed : Nat) (a_o_reckoned : Nat) (a_o_stated_kinds : Nat) (a_o_stated_numbers : Nat) (a_o_letters_meanings : Nat) (s_o_broken : Int32) (s_o_stated_count : Int32) (f_o_stated_kinds : Nat → Int32) (f_o_stated_numbers : Nat → Int32) (f_o_letters_meanings : Nat → Int32) (sz : Nat) (p1 : Int32) (p2 : Nat) (p3 : Int32) (post : Int32 → (Nat → Int32) → Prop) (h : wp_X5_isAsTold post f_o_stated_kinds f_o_stated_numbers f_o_letters_meanings p1 p2 p3) : Met l yX5_isAsTold wsX5_isAsTold ({ frames := 5, cells := 0, slots := 0, locals := 106 }) (va_Pc [.ref a_o, .int p1, .ref (fx_aS X p2), .int p3] (fx_PW X [(a_o, .inr (4, [.ref a_o_axioms, .ref a_o_triples, .ref a_o_laid, .ref a_o_stated, .ref a_o_letters, .ref a_o_told, .ref a_o_needed, .ref a_o_reckoned, .int s_o_broken])), (a_o_stated, .inr (3, [.ref a_o_stated_kinds, .ref a_o_stated_numbers, .int s_o_stated_count])), (a_o_stated_kinds, .inl (fx_cI X, 301, .inl f_o_stated_kinds)), (a_o_stated_numbers, .inl (fx_cI X, 903, .inl f_o_stated_numbers)), (a_o_letters, .inr (1, [.ref a_o_letters_meanings])), (a_o_letters_meanings, .inl (fx_cI X, 26, .inl f_o_letters_meanings))] sz)) (va_Qi (fun r (u : (Nat → Int32)) => post r u) (fun (u : (Nat → Int32)) t => fx_EW X (va_A [(a_o, .inr (4, [.ref a_o_axioms, .ref a_o_triples, .ref a_o_laid, .ref a_o_stated, .ref a_o_letters, .ref a_o_told, .ref a_o_needed, .ref a_o_reckoned, .int s_o_broken])), (a_o_stated, .inr (3, [.ref a_o_stated_kinds, .ref a_o_stated_numbers, .int s_o_stated_count])), (a_o_stated_kinds, .inl (fx_cI X, 301, .inl f_o_stated_kinds)), (a_o_stated_numbers, .inl (fx_cI X, 903, .inl f_o_stated_numbers)), (a_o_letters, .inr (1, [.ref a_o_letters_meanings])), (a_o_letters_meanings, .inl (fx_cI X, 26, .inl f_o_letters_meanings))] sz) [(a_o, .inr (4, [.ref a_o_axioms, .ref a_o_triples, .ref a_o_laid, .ref a_o_stated, .ref a_o_letters, .ref a_o_told, .ref a_o_needed, .ref a_o_reckoned, .int s_o_broken])), (a_o_stated, .inr (3, [.ref a_o_stated_kinds, .ref a_o_stated_numbers, .int s_o_stated_count])), (a_o_stated_kinds, .inl (fx_cI X, 301, .inl f_o_stated_kinds)), (a_o_stated_numbers, .inl (fx_cI X, 903, .inl f_o_stated_numbers)), (a_o_letters, .inr (1, [.ref a_o_letters_meanings])), (a_o_letters_meanings, .inl (fx_cI X, 26, .inl u))] t) (va_A [(a_o, .inr (4, [.ref a_o_axioms, .ref a_o_triples, .ref a_o_laid, .ref a_o_stated, .ref a_o_letters, .ref a_o_told, .ref a_o_needed, .ref a_o_reckoned, .int s_o_broken])), (a_o_stated, .inr (3, [.ref a_o_stated_kinds, .ref a_o_stated_numbers, .int s_o_stated_count])), (a_o_stated_kinds, .inl (fx_cI X, 301, .inl f_o_stated_kinds)), (a_o_stated_numbers, .inl (fx_cI X, 903, .inl f_o_stated_numbers)), (a_o_letters, .inr (1, [.ref a_o_letters_meanings])), (a_o_letters_meanings, .inl (fx_cI X, 26, .inl f_o_letters_meanings))] sz)) 0 0 (va_A [(a_o, .inr (4, [.ref a_o_axioms, .ref a_o_triples, .ref a_o_laid, .ref a_o_stated, .ref a_o_letters, .ref a_o_told, .ref a_o_needed, .ref a_o_reckoned, .int s_o_broken])), (a_o_stated, .inr (3, [.ref a_o_stated_kinds, .ref a_o_stated_numbers, .int s_o_stated_count])), (a_o_stated_kinds, .inl (fx_cI X, 301, .inl f_o_stated_kinds)), (a_o_stated_numbers, .inl (fx_cI X, 903, .inl f_o_stated_numbers)), (a_o_letters, .inr (1, [.ref a_o_letters_meanings])), (a_o_letters_meanings, .inl (fx_cI X, 26, .inl f_o_letters_meanings))] sz) := by
  refine Met.ofW (cc := cX5_isAsTold) (maxL := 5) (ret := (some .boolean)) (by decide) rfl ?_
  intro p e s m args below meth c s₁ B hml hv
  obtain ⟨rfl, hsz, hP, hK, hD0, hG⟩ := hv
  have hx := B.exec
  have hb := B.bytes
  have hr := B.returns
  have hts := atoms_spec (ws := wsX5_isAsTold) B.pre
  have hown : s.vm.findClass RX5 = some m.cls := findClass_of_methodNamed B.named
  have hlocks := B.notSynchronized
  subst hsz
  have hD := hD0.self (sz := s.heap.size)
  generalize hAe : va_A [(a_o, .inr (4, [.ref a_o_axioms, .ref a_o_triples, .ref a_o_laid, .ref a_o_stated, .ref a_o_letters, .ref a_o_told, .ref a_o_needed, .ref a_o_reckoned, .int s_o_broken])), (a_o_stated, .inr (3, [.ref a_o_stated_kinds, .ref a_o_stated_numbers, .int s_o_stated_count])), (a_o_stated_kinds, .inl (fx_cI X, 301, .inl f_o_stated_kinds)), (a_o_stated_numbers, .inl (fx_cI X, 903, .inl f_o_stated_numbers)), (a_o_letters, .inr (1, [.ref a_o_letters_meanings])), (a_o_letters_meanings, .inl (fx_cI X, 26, .inl f_o_letters_meanings))] s.heap.size = A at hD hG ⊢
  have hA : ∀ q : Nat, s.heap.size ≤ q → A q := fun q h => by rw [← hAe]; exact Or.inr h
  have hS : va_S A s.heap s.heap [] := va_S.rf
  have k28 := hts (.fieldLink RX5 28 "ProofChecker" "stated" "LProofChecker$Statements;") (by decide +kernel)
  have k34 := hts (.fieldLink RX5 34 "ProofChecker" "letters" "LProofChecker$Letters;") (by decide +kernel)
  have hl := lv_entry ([.ref a_o, .int p1, .ref (fx_aS X p2), .int p3]) (n := 5) (Nat.le_of_ble_eq_true rfl)
  rw [lg_entry_eq]
  generalize (lg_sl ([.ref a_o, .int p1, .ref (fx_aS X p2), .int p3]) ++ List.replicate (5 - (lg_sl ([.ref a_o, .int p1, .ref (fx_aS X p2), .int p3])).length) Slot.unset).toArray = ls at hl ⊢
  have hl : lv_has ls 5 [(0, .ref a_o), (1, .int p1), (2, .ref (fx_aS X p2)), (3, .int p3)] := hl
  unfold wp_X5_isAsTold at h
  refine lv_aload_n hx hb dX5_isAsTold_0 rfl (lv_at hl 0 rfl) ?_
  refine va_get (D := fx_D X) (ci := 4) (v := .ref a_o_stated) (C := RX5) (T := TX5) (N := 9) hx hb hts im_X5_isAsTold_X5 hown hK hP 0 rfl rfl 3 (by decide) k28 (fun _ h9 => h9) rfl dX5_isAsTold_1 ?_
  refine lv_iload_n hx hb dX5_isAsTold_4 rfl (lv_at hl 1 rfl) ?_
  refine vp_callSi (W.runV (As := [.int p1]) (rest := []) ⟨hx, hb, hml, hown, hts⟩ (cw_X4_kind l X a_o_stated a_o_stated_kinds a_o_stated_numbers 301 s_o_stated_count f_o_stated_kinds p1 _ h) (cwV 1 hts gX5_isAsTold_X4_kind rfl rfl rfl (by decide +kernel) ⟨Nat.le_of_ble_eq_true rfl, Nat.le_of_ble_eq_true rfl⟩) (fx_pv hP hK hG hS (va_recv hK hP (ci := 3) (q0 := 1) rfl rfl) [1, 2] rfl) rfl rfl hl.1 rfl (lv_room (Nat.le_of_ble_eq_true rfl)) dX5_isAsTold_5 ⟨Nat.le_of_ble_eq_true rfl, Nat.le_of_ble_eq_true rfl⟩) (fun r1 h => ?_)
  refine lv_aload_n hx hb dX5_isAsTold_8 rfl (lv_at hl 2 rfl) ?_
  refine lv_iload_n hx hb dX5_isAsTold_9 rfl (lv_at hl 3 rfl) ?_
  refine vp_callSi (W.runS (As := [.ref (fx_aS X p2), .int p3]) (rest := [.int r1]) ⟨hx, hb, hml, hown, hts⟩ (cw_X5_signAt l X   p2 p3 _ h) (va_cwS 2 hts gX5_isAsTold_X5_signAt rfl rfl rfl (by decide +kernel) ⟨Nat.le_of_ble_eq_true rfl, Nat.le_of_ble_eq_true rfl⟩) (fx_ps (wc := []) hP hK hG hS [] rfl) rfl rfl hl.1 rfl (lv_room (Nat.le_of_ble_eq_true rfl)) dX5_isAsTold_10 ⟨Nat.le_of_ble_eq_true rfl, Nat.le_of_ble_eq_true rfl⟩) (fun r2 h => ?_)
  refine vp_callSi (W.runS (As := [.int r2]) (rest := [.int r1]) ⟨hx, hb, hml, hown, hts⟩ (cw_X1_kindFor l X   r2 _ h) (va_cwS 1 hts gX5_isAsTold_X1_kindFor rfl rfl rfl (by decide +kernel) ⟨Nat.le_of_ble_eq_true rfl, Nat.le_of_ble_eq_true rfl⟩) (fx_ps (wc := []) hP hK hG hS [] rfl) rfl rfl hl.1 rfl (lv_room (Nat.le_of_ble_eq_true rfl)) dX5_isAsTold_13 ⟨Nat.le_of_ble_eq_true rfl, Nat.le_of_ble_eq_true rfl⟩) (fun r3 h => ?_)
  refine fx_icmp_eq (tgt := 21) hx hb h dX5_isAsTold_16 (by decide) (fun h => ?_) (fun h => ?_)
  · refine lv_iconst (v := (nI 1)) hx hb dX5_isAsTold_21 (by decide) ?_
    refine lv_istore (lv' := [(4, .int (nI 1)), (0, .ref a_o), (1, .int p1), (2, .ref (fx_aS X p2)), (3, .int p3)]) hx hb dX5_isAsTold_22 hl (by decide) rfl (fun ls hl => ?_)
    refine fx_loop2 (G := fun (x4 : Int32) (y5 : Nat → Int32) => ∀ (H : Heap) (locs : List Loc) (ls : Array Slot), va_P (fx_D X) vwCl [(a_o, .inr (4, [.ref a_o_axioms, .ref a_o_triples, .ref a_o_laid, .ref a_o_stated, .ref a_o_letters, .ref a_o_told, .ref a_o_needed, .ref a_o_reckoned, .int s_o_broken])), (a_o_stated, .inr (3, [.ref a_o_stated_kinds, .ref a_o_stated_numbers, .int s_o_stated_count])), (a_o_stated_kinds, .inl (fx_cI X, 301, .inl f_o_stated_kinds)), (a_o_stated_numbers, .inl (fx_cI X, 903, .inl f_o_stated_numbers)), (a_o_letters, .inr (1, [.ref a_o_letters_meanings])), (a_o_letters_meanings, .inl (fx_cI X, 26, .inl y5))] H → va_D A [(a_o, .inr (4, [.ref a_o_axioms, .ref a_o_triples, .ref a_o_laid, .ref a_o_stated, .ref a_o_letters, .ref a_o_told, .ref a_o_needed, .ref a_o_reckoned, .int s_o_broken])), (a_o_stated, .inr (3, [.ref a_o_stated_kinds, .ref a_o_stated_numbers, .int s_o_stated_count])), (a_o_stated_kinds, .inl (fx_cI X, 301, .inl f_o_stated_kinds)), (a_o_stated_numbers, .inl (fx_cI X, 903, .inl f_o_stated_numbers)), (a_o_letters, .inr (1, [.ref a_o_letters_meanings])), (a_o_letters_meanings, .inl (fx_cI X, 26, .inl y5))] → va_S A s.heap H locs → lv_has ls 5 [(4, .int x4), (0, .ref a_o), (1, .int p1), (2, .ref (fx_aS X p2)), (3, .int p3)] → W p l e _ s m _ below meth c H locs _ _ _ (F0 m 24 ls [])) (fun rec6 hrec6 x4 y5 h => ?_) h _ _ _ hP hD hS (lv_sub hl [0, 1, 2, 3, 4] rfl)
    intro H locs ls hP hD hS hl
    refine lv_iload hx hb dX5_isAsTold_24 (lv_at hl 0 rfl) ?_
    refine lv_iconst (v := (nI 3)) hx hb dX5_isAsTold_26 (by decide) ?_
    refine fx_icmp_gt (tgt := 66) hx hb h dX5_isAsTold_27 (by decide) (fun h => ?_) (fun h => ?_)
    · refine lv_iconst (v := (nI 1)) hx hb dX5_isAsTold_66 (by decide) ?_
      exact W.zret (v := (nI 1)) hx hb hr rfl (fun t ht hW => ⟨⟨(nI 1), y5, rfl, h, by rw [ht]; exact hP, va_K.moved hW.alike hK, hD⟩, hS.F ht⟩) hS.2.2 dX5_isAsTold_67
    refine lv_aload_n hx hb dX5_isAsTold_30 rfl (lv_at hl 1 rfl) ?_
    refine va_get (D := fx_D X) (ci := 4) (v := .ref a_o_letters) (C := RX5) (T := TX5) (N := 9) hx hb hts im_X5_isAsTold_X5 hown hK hP 0 rfl rfl 4 (by decide) k34 (fun _ h9 => h9) rfl dX5_isAsTold_31 ?_
    refine lv_aload_n hx hb dX5_isAsTold_34 rfl (lv_at hl 3 rfl) ?_
    refine lv_iload_n hx hb dX5_isAsTold_35 rfl (lv_at hl 4 rfl) ?_
    refine lv_iload hx hb dX5_isAsTold_36 (lv_at hl 0 rfl) ?_
    refine fx_iadd hx hb h dX5_isAsTold_38 (fun v7 h => ?_)
    refine vp_callSi (W.runS (As := [.ref (fx_aS X p2), .int v7]) (rest := [.ref a_o_letters]) ⟨hx, hb, hml, hown, hts⟩ (cw_X5_signAt l X   p2 v7 _ h) (va_cwS 2 hts gX5_isAsTold_X5_signAt rfl rfl rfl (by decide +kernel) ⟨Nat.le_of_ble_eq_true rfl, Nat.le_of_ble_eq_true rfl⟩) (fx_ps (wc := []) hP hK hG hS [] rfl) rfl rfl hl.1 rfl (lv_room (Nat.le_of_ble_eq_true rfl)) dX5_isAsTold_39 ⟨Nat.le_of_ble_eq_true rfl, Nat.le_of_ble_eq_true rfl⟩) (fun r8 h => ?_)
    refine lv_aload_n hx hb dX5_isAsTold_42 rfl (lv_at hl 1 rfl) ?_
    refine va_get (D := fx_D X) (ci := 4) (v := .ref a_o_stated) (C := RX5) (T := TX5) (N := 9) hx hb hts im_X5_isAsTold_X5 hown hK hP 0 rfl rfl 3 (by decide) k28 (fun _ h9 => h9) rfl dX5_isAsTold_43 ?_
    refine lv_iload_n hx hb dX5_isAsTold_46 rfl (lv_at hl 2 rfl) ?_
    refine lv_iload hx hb dX5_isAsTold_47 (lv_at hl 0 rfl) ?_
    refine vp_callSi (W.runV (As := [.int p1, .int x4]) (rest := [.int r8, .ref a_o_letters]) ⟨hx, hb, hml, hown, hts⟩ (cw_X4_number l X a_o_stated a_o_stated_kinds a_o_stated_numbers 301 903 s_o_stated_count f_o_stated_kinds f_o_stated_numbers p1 x4 _ h) (cwV 2 hts gX5_isAsTold_X4_number rfl rfl rfl (by decide +kernel) ⟨Nat.le_of_ble_eq_true rfl, Nat.le_of_ble_eq_true rfl⟩) (fx_pv hP hK hG hS (va_recv hK hP (ci := 3) (q0 := 1) rfl rfl) [1, 2, 3] rfl) rfl rfl hl.1 rfl (lv_room (Nat.le_of_ble_eq_true rfl)) dX5_isAsTold_49 ⟨Nat.le_of_ble_eq_true rfl, Nat.le_of_ble_eq_true rfl⟩) (fun r9 h => ?_)
    have hFc := va_free (wc := [(a_o_letters, .inr (1, [.ref a_o_letters_meanings])), (a_o_letters_meanings, .inl (fx_cI X, 26, .inl y5))]) hD hS hA [4, 5] rfl
    refine va_calli (va_runV (As := [.int r8, .int r9]) (rest := []) ⟨hx, hb, hml, hown, hts⟩ (cw_X1_agree l X a_o_letters a_o_letters_meanings y5 _ r8 r9 _ h) (cwV 2 hts gX5_isAsTold_X1_agree rfl rfl rfl (by decide +kernel) ⟨Nat.le_of_ble_eq_true rfl, Nat.le_of_ble_eq_true rfl⟩) (fx_pvW hP hD hK hG hS hFc (va_recv hK hP (ci := 1) (q0 := 4) rfl rfl) [4, 5] (by decide) rfl) rfl rfl hl.1 rfl (lv_room (Nat.le_of_ble_eq_true rfl)) dX5_isAsTold_52 ⟨Nat.le_of_ble_eq_true rfl, Nat.le_of_ble_eq_true rfl⟩) hS (fun q _ h => hFc q h) hFc (fun r10 u t H locs ht hvm h hB _ hk hS => ?_)
    obtain ⟨y11, rfl⟩ : ∃ z, z = u := ⟨_, rfl⟩
    obtain ⟨hP, hD⟩ := fx_back (wr := [(a_o, .inr (4, [.ref a_o_axioms, .ref a_o_triples, .ref a_o_laid, .ref a_o_stated, .ref a_o_letters, .ref a_o_told, .ref a_o_needed, .ref a_o_reckoned, .int s_o_broken])), (a_o_stated, .inr (3, [.ref a_o_stated_kinds, .ref a_o_stated_numbers, .int s_o_stated_count])), (a_o_stated_kinds, .inl (fx_cI X, 301, .inl f_o_stated_kinds)), (a_o_stated_numbers, .inl (fx_cI X, 903, .inl f_o_stated_numbers))]) (ws' := [(a_o, .inr (4, [.ref a_o_axioms, .ref a_o_triples, .ref a_o_laid, .ref a_o_stated, .ref a_o_letters, .ref a_o_told, .ref a_o_needed, .ref a_o_reckoned, .int s_o_broken])), (a_o_stated, .inr (3, [.ref a_o_stated_kinds, .ref a_o_stated_numbers, .int s_o_stated_count])), (a_o_stated_kinds, .inl (fx_cI X, 301, .inl f_o_stated_kinds)), (a_o_stated_numbers, .inl (fx_cI X, 903, .inl f_o_stated_numbers)), (a_o_letters, .inr (1, [.ref a_o_letters_meanings])), (a_o_letters_meanings, .inl (fx_cI X, 26, .inl y11))]) hP hD [4, 5] [0, 1, 2, 3] rfl rfl (by decide) (by decide) hk hFc hB ht [0, 1, 2, 3, 4, 5] (by decide) rfl
    refine fx_if_ne (tgt := 60) hx hb h dX5_isAsTold_55 (by decide) (fun h => ?_) (fun h => ?_)
    · refine fx_iinc (y := (nI 1)) hx hb h dX5_isAsTold_60 (by decide) (fun v12 => [(4, .int v12), (0, .ref a_o), (1, .int p1), (2, .ref (fx_aS X p2)), (3, .int p3)]) hl 0 rfl (by decide) (fun _ => rfl) (fun v12 ls h hl => ?_)
      refine lv_goto (tgt := 24) hx hb dX5_isAsTold_63 (by decide) ?_
      exact hrec6 _ _ h _ _ _ hP hD hS (lv_sub hl [0, 1, 2, 3, 4] rfl)
    refine lv_iconst (v := (nI 0)) hx hb dX5_isAsTold_58 (by decide) ?_
    exact W.zret (v := (nI 0)) hx hb hr rfl (fun t ht hW => ⟨⟨(nI 0), y11, rfl, h, by rw [ht]; exact hP, va_K.moved hW.alike hK, hD⟩, hS.F ht⟩) hS.2.2 dX5_isAsTold_59
  refine lv_iconst (v := (nI 0)) hx hb dX5_isAsTold_19 (by decide) ?_
  exact W.zret (v := (nI 0)) hx hb hr rfl (fun t ht hW => ⟨⟨(nI 0), f_o_letters_meanings, rfl, h, by rw [ht]; exact hP, va_K.moved hW.alike hK, hD⟩, hS.F ht⟩) hS.2.2 dX5_isAsTold_20

/-- X5_fits: its walk -/
def wp_X5_fits (post : Int32 → (Nat → Int32) → Prop) (s_o_laid_last : Int32) (f_o_laid_premiseCounts : Nat → Int32) (f_o_laid_premises : Nat → Int32) (f_o_stated_kinds : Nat → Int32) (f_o_stated_numbers : Nat → Int32) (f_o_letters_meanings : Nat → Int32) (p1 : Int32) (p2 : Nat) : Prop :=
  wp_X2_premiseCount (fun r1 => fx_lt p2 18 (wp_X3_takes (fun r2 => fx_br (r1 = r2) (wp_X1_forget (fun y3 => fx_wh2 (fun (rec6 : Int32 → (Nat → Int32) → Prop) (x4 : Int32) (y5 : Nat → Int32) => fx_lt p2 18 (wp_X3_takes (fun r7 => fx_br (r7 ≤ x4) (post (nI 1) y5) (wp_X2_premiseAt (fun r8 => fx_lt p2 18 (fx_nm (x4 * (nI 4)) (fun v9 => wp_X5_isAsTold (fun r10 y11 => fx_br (r10 = 0) (post (nI 0) y11) (fx_nm (x4 + (nI 1)) (fun v12 => rec6 v12 y11))) f_o_stated_kinds f_o_stated_numbers y5 r8 (fx_ra.getD p2 0) v9))) s_o_laid_last f_o_laid_premiseCounts f_o_laid_premises p1 x4)) p2)) (nI 0) y3) f_o_letters_meanings) (post (nI 0) f_o_letters_meanings)) p2)) s_o_laid_last f_o_laid_premiseCounts p1
theorem im_X5_fits_X5 : ∀ w ∈ u_ws RX5 TX5 9, w ∈ wsX5_fits := by decide +kernel
set_option maxHeartbeats 4000000 in
set_option maxRecDepth 100000 in
theorem cw_X5_fits (l : Launch) (X : fx_X) (a_o : Nat) (a_o_axioms : Nat) (a_o_triples : Nat) (a_o_laid : Nat) (a_o_stated : Nat) (a_o_letters : Nat) (a_o_told : Nat) (a_o_needed : Nat) (a_o_reckoned : Nat) (a_o_laid_ruleNumbers : Nat) (a_o_laid_instances : Nat) (a_o_laid_premiseCounts : Nat) (a_o_laid_premises : Nat) (a_o_stated_kinds : Nat) (a_o_stated_numbers : Nat) (a_o_letters_meanings : Nat) (s_o_broken : Int32) (s_o_laid_last : Int32) (f_o_laid_premiseCounts : Nat → Int32) (f_o_laid_premises : Nat → Int32) (s_o_stated_count : Int32) (f_o_stated_kinds : Nat → Int32) (f_o_stated_numbers : Nat → Int32) (f_o_letters_meanings : Nat → Int32) (sz : Nat) (p1 : Int32) (p2 : Nat) (post : Int32 → (Nat → Int32) → Prop) (h : wp_X5_fits post s_o_laid_last f_o_laid_premiseCounts f_o_laid_premises f_o_stated_kinds f_o_stated_numbers f_o_letters_meanings p1 p2) : Met l yX5_fits wsX5_fits ({ frames := 6, cells := 0, slots := 0, locals := 130 }) (va_Pc [.ref a_o, .int p1, .ref (fx_aR X p2)] (fx_PW X [(a_o, .inr (4, [.ref a_o_axioms, .ref a_o_triples, .ref a_o_laid, .ref a_o_stated, .ref a_o_letters, .ref a_o_told, .ref a_o_needed, .ref a_o_reckoned, .int s_o_broken])), (a_o_laid, .inr (2, [.ref a_o_laid_ruleNumbers, .ref a_o_laid_instances, .ref a_o_laid_premiseCounts, .ref a_o_laid_premises, .int s_o_laid_last])), (a_o_laid_premiseCounts, .inl (fx_cI X, 301, .inl f_o_laid_premiseCounts)), (a_o_laid_premises, .inl (fx_cI X, 903, .inl f_o_laid_premises)), (a_o_stated, .inr (3, [.ref a_o_stated_kinds, .ref a_o_stated_numbers, .int s_o_stated_count])), (a_o_stated_kinds, .inl (fx_cI X, 301, .inl f_o_stated_kinds)), (a_o_stated_numbers, .inl (fx_cI X, 903, .inl f_o_stated_numbers)), (a_o_letters, .inr (1, [.ref a_o_letters_meanings])), (a_o_letters_meanings, .inl (fx_cI X, 26, .inl f_o_letters_meanings))] sz)) (va_Qi (fun r (u : (Nat → Int32)) => post r u) (fun (u : (Nat → Int32)) t => fx_EW X (va_A [(a_o, .inr (4, [.ref a_o_axioms, .ref a_o_triples, .ref a_o_laid, .ref a_o_stated, .ref a_o_letters, .ref a_o_told, .ref a_o_needed, .ref a_o_reckoned, .int s_o_broken])), (a_o_laid, .inr (2, [.ref a_o_laid_ruleNumbers, .ref a_o_laid_instances, .ref a_o_laid_premiseCounts, .ref a_o_laid_premises, .int s_o_laid_last])), (a_o_laid_premiseCounts, .inl (fx_cI X, 301, .inl f_o_laid_premiseCounts)), (a_o_laid_premises, .inl (fx_cI X, 903, .inl f_o_laid_premises)), (a_o_stated, .inr (3, [.ref a_o_stated_kinds, .ref a_o_stated_numbers, .int s_o_stated_count])), (a_o_stated_kinds, .inl (fx_cI X, 301, .inl f_o_stated_kinds)), (a_o_stated_numbers, .inl (fx_cI X, 903, .inl f_o_stated_numbers)), (a_o_letters, .inr (1, [.ref a_o_letters_meanings])), (a_o_letters_meanings, .inl (fx_cI X, 26, .inl f_o_letters_meanings))] sz) [(a_o, .inr (4, [.ref a_o_axioms, .ref a_o_triples, .ref a_o_laid, .ref a_o_stated, .ref a_o_letters, .ref a_o_told, .ref a_o_needed, .ref a_o_reckoned, .int s_o_broken])), (a_o_laid, .inr (2, [.ref a_o_laid_ruleNumbers, .ref a_o_laid_instances, .ref a_o_laid_premiseCounts, .ref a_o_laid_premises, .int s_o_laid_last])), (a_o_laid_premiseCounts, .inl (fx_cI X, 301, .inl f_o_laid_premiseCounts)), (a_o_laid_premises, .inl (fx_cI X, 903, .inl f_o_laid_premises)), (a_o_stated, .inr (3, [.ref a_o_stated_kinds, .ref a_o_stated_numbers, .int s_o_stated_count])), (a_o_stated_kinds, .inl (fx_cI X, 301, .inl f_o_stated_kinds)), (a_o_stated_numbers, .inl (fx_cI X, 903, .inl f_o_stated_numbers)), (a_o_letters, .inr (1, [.ref a_o_letters_meanings])), (a_o_letters_meanings, .inl (fx_cI X, 26, .inl u))] t) (va_A [(a_o, .inr (4, [.ref a_o_axioms, .ref a_o_triples, .ref a_o_laid, .ref a_o_stated, .ref a_o_letters, .ref a_o_told, .ref a_o_needed, .ref a_o_reckoned, .int s_o_broken])), (a_o_laid, .inr (2, [.ref a_o_laid_ruleNumbers, .ref a_o_laid_instances, .ref a_o_laid_premiseCounts, .ref a_o_laid_premises, .int s_o_laid_last])), (a_o_laid_premiseCounts, .inl (fx_cI X, 301, .inl f_o_laid_premiseCounts)), (a_o_laid_premises, .inl (fx_cI X, 903, .inl f_o_laid_premises)), (a_o_stated, .inr (3, [.ref a_o_stated_kinds, .ref a_o_stated_numbers, .int s_o_stated_count])), (a_o_stated_kinds, .inl (fx_cI X, 301, .inl f_o_stated_kinds)), (a_o_stated_numbers, .inl (fx_cI X, 903, .inl f_o_stated_numbers)), (a_o_letters, .inr (1, [.ref a_o_letters_meanings])), (a_o_letters_meanings, .inl (fx_cI X, 26, .inl f_o_letters_meanings))] sz)) 0 0 (va_A [(a_o, .inr (4, [.ref a_o_axioms, .ref a_o_triples, .ref a_o_laid, .ref a_o_stated, .ref a_o_letters, .ref a_o_told, .ref a_o_needed, .ref a_o_reckoned, .int s_o_broken])), (a_o_laid, .inr (2, [.ref a_o_laid_ruleNumbers, .ref a_o_laid_instances, .ref a_o_laid_premiseCounts, .ref a_o_laid_premises, .int s_o_laid_last])), (a_o_laid_premiseCounts, .inl (fx_cI X, 301, .inl f_o_laid_premiseCounts)), (a_o_laid_premises, .inl (fx_cI X, 903, .inl f_o_laid_premises)), (a_o_stated, .inr (3, [.ref a_o_stated_kinds, .ref a_o_stated_numbers, .int s_o_stated_count])), (a_o_stated_kinds, .inl (fx_cI X, 301, .inl f_o_stated_kinds)), (a_o_stated_numbers, .inl (fx_cI X, 903, .inl f_o_stated_numbers)), (a_o_letters, .inr (1, [.ref a_o_letters_meanings])), (a_o_letters_meanings, .inl (fx_cI X, 26, .inl f_o_letters_meanings))] sz) := by
  refine Met.ofW (cc := cX5_fits) (maxL := 4) (ret := (some .boolean)) (by decide) rfl ?_
  intro p e s m args below meth c s₁ B hml hv
  obtain ⟨rfl, hsz, hP, hK, hD0, hG⟩ := hv
  have hx := B.exec
  have hb := B.bytes
  have hr := B.returns
  have hts := atoms_spec (ws := wsX5_fits) B.pre
  have hown : s.vm.findClass RX5 = some m.cls := findClass_of_methodNamed B.named
  have hlocks := B.notSynchronized
  subst hsz
  have hD := hD0.self (sz := s.heap.size)
  generalize hAe : va_A [(a_o, .inr (4, [.ref a_o_axioms, .ref a_o_triples, .ref a_o_laid, .ref a_o_stated, .ref a_o_letters, .ref a_o_told, .ref a_o_needed, .ref a_o_reckoned, .int s_o_broken])), (a_o_laid, .inr (2, [.ref a_o_laid_ruleNumbers, .ref a_o_laid_instances, .ref a_o_laid_premiseCounts, .ref a_o_laid_premises, .int s_o_laid_last])), (a_o_laid_premiseCounts, .inl (fx_cI X, 301, .inl f_o_laid_premiseCounts)), (a_o_laid_premises, .inl (fx_cI X, 903, .inl f_o_laid_premises)), (a_o_stated, .inr (3, [.ref a_o_stated_kinds, .ref a_o_stated_numbers, .int s_o_stated_count])), (a_o_stated_kinds, .inl (fx_cI X, 301, .inl f_o_stated_kinds)), (a_o_stated_numbers, .inl (fx_cI X, 903, .inl f_o_stated_numbers)), (a_o_letters, .inr (1, [.ref a_o_letters_meanings])), (a_o_letters_meanings, .inl (fx_cI X, 26, .inl f_o_letters_meanings))] s.heap.size = A at hD hG ⊢
  have hA : ∀ q : Nat, s.heap.size ≤ q → A q := fun q h => by rw [← hAe]; exact Or.inr h
  have hS : va_S A s.heap s.heap [] := va_S.rf
  have k24 := hts (.fieldLink RX5 24 "ProofChecker" "laid" "LProofChecker$Rows;") (by decide +kernel)
  have k34 := hts (.fieldLink RX5 34 "ProofChecker" "letters" "LProofChecker$Letters;") (by decide +kernel)
  have hl := lv_entry ([.ref a_o, .int p1, .ref (fx_aR X p2)]) (n := 4) (Nat.le_of_ble_eq_true rfl)
  rw [lg_entry_eq]
  generalize (lg_sl ([.ref a_o, .int p1, .ref (fx_aR X p2)]) ++ List.replicate (4 - (lg_sl ([.ref a_o, .int p1, .ref (fx_aR X p2)])).length) Slot.unset).toArray = ls at hl ⊢
  have hl : lv_has ls 4 [(0, .ref a_o), (1, .int p1), (2, .ref (fx_aR X p2))] := hl
  unfold wp_X5_fits at h
  refine lv_aload_n hx hb dX5_fits_0 rfl (lv_at hl 0 rfl) ?_
  refine va_get (D := fx_D X) (ci := 4) (v := .ref a_o_laid) (C := RX5) (T := TX5) (N := 9) hx hb hts im_X5_fits_X5 hown hK hP 0 rfl rfl 2 (by decide) k24 (fun _ h9 => h9) rfl dX5_fits_1 ?_
  refine lv_iload_n hx hb dX5_fits_4 rfl (lv_at hl 1 rfl) ?_
  refine vp_callSi (W.runV (As := [.int p1]) (rest := []) ⟨hx, hb, hml, hown, hts⟩ (cw_X2_premiseCount l X a_o_laid a_o_laid_ruleNumbers a_o_laid_instances a_o_laid_premiseCounts a_o_laid_premises s_o_laid_last f_o_laid_premiseCounts p1 _ h) (cwV 1 hts gX5_fits_X2_premiseCount rfl rfl rfl (by decide +kernel) ⟨Nat.le_of_ble_eq_true rfl, Nat.le_of_ble_eq_true rfl⟩) (fx_pv hP hK hG hS (va_recv hK hP (ci := 2) (q0 := 1) rfl rfl) [1, 2] rfl) rfl rfl hl.1 rfl (lv_room (Nat.le_of_ble_eq_true rfl)) dX5_fits_5 ⟨Nat.le_of_ble_eq_true rfl, Nat.le_of_ble_eq_true rfl⟩) (fun r1 h => ?_)
  refine lv_aload_n hx hb dX5_fits_8 rfl (lv_at hl 2 rfl) ?_
  refine vp_callSi (W.runV (As := []) (rest := [.int r1]) ⟨hx, hb, hml, hown, hts⟩ (cw_X3_takes l X   p2 _ h.2) (cwV 0 hts gX5_fits_X3_takes rfl rfl rfl (by decide +kernel) ⟨Nat.le_of_ble_eq_true rfl, Nat.le_of_ble_eq_true rfl⟩) (fx_pv (wc := []) hP hK hG hS (hG.recR h.1 hS) [] rfl) rfl rfl hl.1 rfl (lv_room (Nat.le_of_ble_eq_true rfl)) dX5_fits_9 ⟨Nat.le_of_ble_eq_true rfl, Nat.le_of_ble_eq_true rfl⟩) (fun r2 h => ?_)
  refine fx_icmp_eq (tgt := 17) hx hb h dX5_fits_12 (by decide) (fun h => ?_) (fun h => ?_)
  · refine lv_aload_n hx hb dX5_fits_17 rfl (lv_at hl 0 rfl) ?_
    refine va_get (D := fx_D X) (ci := 4) (v := .ref a_o_letters) (C := RX5) (T := TX5) (N := 9) hx hb hts im_X5_fits_X5 hown hK hP 0 rfl rfl 4 (by decide) k34 (fun _ h9 => h9) rfl dX5_fits_18 ?_
    have hFc := va_free (wc := [(a_o_letters, .inr (1, [.ref a_o_letters_meanings])), (a_o_letters_meanings, .inl (fx_cI X, 26, .inl f_o_letters_meanings))]) hD hS hA [7, 8] rfl
    refine va_callv (va_runV (As := []) (rest := []) ⟨hx, hb, hml, hown, hts⟩ (cw_X1_forget l X a_o_letters a_o_letters_meanings f_o_letters_meanings _  _ h) (cwV 0 hts gX5_fits_X1_forget rfl rfl rfl (by decide +kernel) ⟨Nat.le_of_ble_eq_true rfl, Nat.le_of_ble_eq_true rfl⟩) (fx_pvW hP hD hK hG hS hFc (va_recv hK hP (ci := 1) (q0 := 7) rfl rfl) [7, 8] (by decide) rfl) rfl rfl hl.1 rfl (lv_room (Nat.le_of_ble_eq_true rfl)) dX5_fits_21 ⟨Nat.le_of_ble_eq_true rfl, Nat.le_of_ble_eq_true rfl⟩) hS (fun q _ h => hFc q h) hFc (fun u t H locs ht hvm h hB _ hk hS => ?_)
    obtain ⟨y3, rfl⟩ : ∃ z, z = u := ⟨_, rfl⟩
    obtain ⟨hP, hD⟩ := fx_back (wr := [(a_o, .inr (4, [.ref a_o_axioms, .ref a_o_triples, .ref a_o_laid, .ref a_o_stated, .ref a_o_letters, .ref a_o_told, .ref a_o_needed, .ref a_o_reckoned, .int s_o_broken])), (a_o_laid, .inr (2, [.ref a_o_laid_ruleNumbers, .ref a_o_laid_instances, .ref a_o_laid_premiseCounts, .ref a_o_laid_premises, .int s_o_laid_last])), (a_o_laid_premiseCounts, .inl (fx_cI X, 301, .inl f_o_laid_premiseCounts)), (a_o_laid_premises, .inl (fx_cI X, 903, .inl f_o_laid_premises)), (a_o_stated, .inr (3, [.ref a_o_stated_kinds, .ref a_o_stated_numbers, .int s_o_stated_count])), (a_o_stated_kinds, .inl (fx_cI X, 301, .inl f_o_stated_kinds)), (a_o_stated_numbers, .inl (fx_cI X, 903, .inl f_o_stated_numbers))]) (ws' := [(a_o, .inr (4, [.ref a_o_axioms, .ref a_o_triples, .ref a_o_laid, .ref a_o_stated, .ref a_o_letters, .ref a_o_told, .ref a_o_needed, .ref a_o_reckoned, .int s_o_broken])), (a_o_laid, .inr (2, [.ref a_o_laid_ruleNumbers, .ref a_o_laid_instances, .ref a_o_laid_premiseCounts, .ref a_o_laid_premises, .int s_o_laid_last])), (a_o_laid_premiseCounts, .inl (fx_cI X, 301, .inl f_o_laid_premiseCounts)), (a_o_laid_premises, .inl (fx_cI X, 903, .inl f_o_laid_premises)), (a_o_stated, .inr (3, [.ref a_o_stated_kinds, .ref a_o_stated_numbers, .int s_o_stated_count])), (a_o_stated_kinds, .inl (fx_cI X, 301, .inl f_o_stated_kinds)), (a_o_stated_numbers, .inl (fx_cI X, 903, .inl f_o_stated_numbers)), (a_o_letters, .inr (1, [.ref a_o_letters_meanings])), (a_o_letters_meanings, .inl (fx_cI X, 26, .inl y3))]) hP hD [7, 8] [0, 1, 2, 3, 4, 5, 6] rfl rfl (by decide) (by decide) hk hFc hB ht [0, 1, 2, 3, 4, 5, 6, 7, 8] (by decide) rfl
    refine lv_iconst (v := (nI 0)) hx hb dX5_fits_24 (by decide) ?_
    refine lv_istore_n (lv' := [(3, .int (nI 0)), (0, .ref a_o), (1, .int p1), (2, .ref (fx_aR X p2))]) hx hb dX5_fits_25 rfl hl (by decide) rfl (fun ls hl => ?_)
    refine fx_loop2 (G := fun (x4 : Int32) (y5 : Nat → Int32) => ∀ (H : Heap) (locs : List Loc) (ls : Array Slot), va_P (fx_D X) vwCl [(a_o, .inr (4, [.ref a_o_axioms, .ref a_o_triples, .ref a_o_laid, .ref a_o_stated, .ref a_o_letters, .ref a_o_told, .ref a_o_needed, .ref a_o_reckoned, .int s_o_broken])), (a_o_laid, .inr (2, [.ref a_o_laid_ruleNumbers, .ref a_o_laid_instances, .ref a_o_laid_premiseCounts, .ref a_o_laid_premises, .int s_o_laid_last])), (a_o_laid_premiseCounts, .inl (fx_cI X, 301, .inl f_o_laid_premiseCounts)), (a_o_laid_premises, .inl (fx_cI X, 903, .inl f_o_laid_premises)), (a_o_stated, .inr (3, [.ref a_o_stated_kinds, .ref a_o_stated_numbers, .int s_o_stated_count])), (a_o_stated_kinds, .inl (fx_cI X, 301, .inl f_o_stated_kinds)), (a_o_stated_numbers, .inl (fx_cI X, 903, .inl f_o_stated_numbers)), (a_o_letters, .inr (1, [.ref a_o_letters_meanings])), (a_o_letters_meanings, .inl (fx_cI X, 26, .inl y5))] H → va_D A [(a_o, .inr (4, [.ref a_o_axioms, .ref a_o_triples, .ref a_o_laid, .ref a_o_stated, .ref a_o_letters, .ref a_o_told, .ref a_o_needed, .ref a_o_reckoned, .int s_o_broken])), (a_o_laid, .inr (2, [.ref a_o_laid_ruleNumbers, .ref a_o_laid_instances, .ref a_o_laid_premiseCounts, .ref a_o_laid_premises, .int s_o_laid_last])), (a_o_laid_premiseCounts, .inl (fx_cI X, 301, .inl f_o_laid_premiseCounts)), (a_o_laid_premises, .inl (fx_cI X, 903, .inl f_o_laid_premises)), (a_o_stated, .inr (3, [.ref a_o_stated_kinds, .ref a_o_stated_numbers, .int s_o_stated_count])), (a_o_stated_kinds, .inl (fx_cI X, 301, .inl f_o_stated_kinds)), (a_o_stated_numbers, .inl (fx_cI X, 903, .inl f_o_stated_numbers)), (a_o_letters, .inr (1, [.ref a_o_letters_meanings])), (a_o_letters_meanings, .inl (fx_cI X, 26, .inl y5))] → va_S A s.heap H locs → lv_has ls 4 [(3, .int x4), (0, .ref a_o), (1, .int p1), (2, .ref (fx_aR X p2))] → W p l e _ s m _ below meth c H locs _ _ _ (F0 m 26 ls [])) (fun rec6 hrec6 x4 y5 h => ?_) h _ _ _ hP hD hS (lv_sub hl [0, 1, 2, 3] rfl)
    intro H locs ls hP hD hS hl
    refine lv_iload_n hx hb dX5_fits_26 rfl (lv_at hl 0 rfl) ?_
    refine lv_aload_n hx hb dX5_fits_27 rfl (lv_at hl 3 rfl) ?_
    refine vp_callSi (W.runV (As := []) (rest := [.int x4]) ⟨hx, hb, hml, hown, hts⟩ (cw_X3_takes l X   p2 _ h.2) (cwV 0 hts gX5_fits_X3_takes rfl rfl rfl (by decide +kernel) ⟨Nat.le_of_ble_eq_true rfl, Nat.le_of_ble_eq_true rfl⟩) (fx_pv (wc := []) hP hK hG hS (hG.recR h.1 hS) [] rfl) rfl rfl hl.1 rfl (lv_room (Nat.le_of_ble_eq_true rfl)) dX5_fits_28 ⟨Nat.le_of_ble_eq_true rfl, Nat.le_of_ble_eq_true rfl⟩) (fun r7 h => ?_)
    refine fx_icmp_ge (tgt := 65) hx hb h dX5_fits_31 (by decide) (fun h => ?_) (fun h => ?_)
    · refine lv_iconst (v := (nI 1)) hx hb dX5_fits_65 (by decide) ?_
      exact W.zret (v := (nI 1)) hx hb hr rfl (fun t ht hW => ⟨⟨(nI 1), y5, rfl, h, by rw [ht]; exact hP, va_K.moved hW.alike hK, hD⟩, hS.F ht⟩) hS.2.2 dX5_fits_66
    refine lv_aload_n hx hb dX5_fits_34 rfl (lv_at hl 1 rfl) ?_
    refine lv_aload_n hx hb dX5_fits_35 rfl (lv_at hl 1 rfl) ?_
    refine va_get (D := fx_D X) (ci := 4) (v := .ref a_o_laid) (C := RX5) (T := TX5) (N := 9) hx hb hts im_X5_fits_X5 hown hK hP 0 rfl rfl 2 (by decide) k24 (fun _ h9 => h9) rfl dX5_fits_36 ?_
    refine lv_iload_n hx hb dX5_fits_39 rfl (lv_at hl 2 rfl) ?_
    refine lv_iload_n hx hb dX5_fits_40 rfl (lv_at hl 0 rfl) ?_
    refine vp_callSi (W.runV (As := [.int p1, .int x4]) (rest := [.ref a_o]) ⟨hx, hb, hml, hown, hts⟩ (cw_X2_premiseAt l X a_o_laid a_o_laid_ruleNumbers a_o_laid_instances a_o_laid_premiseCounts a_o_laid_premises s_o_laid_last f_o_laid_premiseCounts f_o_laid_premises p1 x4 _ h) (cwV 2 hts gX5_fits_X2_premiseAt rfl rfl rfl (by decide +kernel) ⟨Nat.le_of_ble_eq_true rfl, Nat.le_of_ble_eq_true rfl⟩) (fx_pv hP hK hG hS (va_recv hK hP (ci := 2) (q0 := 1) rfl rfl) [1, 2, 3] rfl) rfl rfl hl.1 rfl (lv_room (Nat.le_of_ble_eq_true rfl)) dX5_fits_41 ⟨Nat.le_of_ble_eq_true rfl, Nat.le_of_ble_eq_true rfl⟩) (fun r8 h => ?_)
    refine lv_aload_n hx hb dX5_fits_44 rfl (lv_at hl 3 rfl) ?_
    refine fx_getXN hx hb hG.asks h.1 hS hown hG.n217 (fun _ h9 => h9) dX5_fits_45 ?_
    have h := h.2
    refine lv_iload_n hx hb dX5_fits_48 rfl (lv_at hl 0 rfl) ?_
    refine lv_iconst (v := (nI 4)) hx hb dX5_fits_49 (by decide) ?_
    refine fx_imul hx hb h dX5_fits_50 (fun v9 h => ?_)
    have hFc := va_free (wc := [(a_o, .inr (4, [.ref a_o_axioms, .ref a_o_triples, .ref a_o_laid, .ref a_o_stated, .ref a_o_letters, .ref a_o_told, .ref a_o_needed, .ref a_o_reckoned, .int s_o_broken])), (a_o_stated, .inr (3, [.ref a_o_stated_kinds, .ref a_o_stated_numbers, .int s_o_stated_count])), (a_o_stated_kinds, .inl (fx_cI X, 301, .inl f_o_stated_kinds)), (a_o_stated_numbers, .inl (fx_cI X, 903, .inl f_o_stated_numbers)), (a_o_letters, .inr (1, [.ref a_o_letters_meanings])), (a_o_letters_meanings, .inl (fx_cI X, 26, .inl y5))]) hD hS hA [0, 4, 5, 6, 7, 8] rfl
    refine va_calli (va_runV (As := [.int r8, .ref (fx_aS X (fx_ra.getD p2 0)), .int v9]) (rest := []) ⟨hx, hb, hml, hown, hts⟩ (cw_X5_isAsTold l X a_o a_o_axioms a_o_triples a_o_laid a_o_stated a_o_letters a_o_told a_o_needed a_o_reckoned a_o_stated_kinds a_o_stated_numbers a_o_letters_meanings s_o_broken s_o_stated_count f_o_stated_kinds f_o_stated_numbers y5 _ r8 (fx_ra.getD p2 0) v9 _ h) (cwV 3 hts gX5_fits_X5_isAsTold rfl rfl rfl (by decide +kernel) ⟨Nat.le_of_ble_eq_true rfl, Nat.le_of_ble_eq_true rfl⟩) (fx_pvW hP hD hK hG hS hFc (va_recv hK hP (ci := 4) (q0 := 0) rfl rfl) [0, 4, 5, 6, 7, 8] (by decide) rfl) rfl rfl hl.1 rfl (lv_room (Nat.le_of_ble_eq_true rfl)) dX5_fits_51 ⟨Nat.le_of_ble_eq_true rfl, Nat.le_of_ble_eq_true rfl⟩) hS (fun q _ h => hFc q h) hFc (fun r10 u t H locs ht hvm h hB _ hk hS => ?_)
    obtain ⟨y11, rfl⟩ : ∃ z, z = u := ⟨_, rfl⟩
    obtain ⟨hP, hD⟩ := fx_back (wr := [(a_o_laid, .inr (2, [.ref a_o_laid_ruleNumbers, .ref a_o_laid_instances, .ref a_o_laid_premiseCounts, .ref a_o_laid_premises, .int s_o_laid_last])), (a_o_laid_premiseCounts, .inl (fx_cI X, 301, .inl f_o_laid_premiseCounts)), (a_o_laid_premises, .inl (fx_cI X, 903, .inl f_o_laid_premises))]) (ws' := [(a_o, .inr (4, [.ref a_o_axioms, .ref a_o_triples, .ref a_o_laid, .ref a_o_stated, .ref a_o_letters, .ref a_o_told, .ref a_o_needed, .ref a_o_reckoned, .int s_o_broken])), (a_o_laid, .inr (2, [.ref a_o_laid_ruleNumbers, .ref a_o_laid_instances, .ref a_o_laid_premiseCounts, .ref a_o_laid_premises, .int s_o_laid_last])), (a_o_laid_premiseCounts, .inl (fx_cI X, 301, .inl f_o_laid_premiseCounts)), (a_o_laid_premises, .inl (fx_cI X, 903, .inl f_o_laid_premises)), (a_o_stated, .inr (3, [.ref a_o_stated_kinds, .ref a_o_stated_numbers, .int s_o_stated_count])), (a_o_stated_kinds, .inl (fx_cI X, 301, .inl f_o_stated_kinds)), (a_o_stated_numbers, .inl (fx_cI X, 903, .inl f_o_stated_numbers)), (a_o_letters, .inr (1, [.ref a_o_letters_meanings])), (a_o_letters_meanings, .inl (fx_cI X, 26, .inl y11))]) hP hD [0, 4, 5, 6, 7, 8] [1, 2, 3] rfl rfl (by decide) (by decide) hk hFc hB ht [3, 0, 1, 2, 4, 5, 6, 7, 8] (by decide) rfl
    refine fx_if_ne (tgt := 59) hx hb h dX5_fits_54 (by decide) (fun h => ?_) (fun h => ?_)
    · refine fx_iinc (y := (nI 1)) hx hb h dX5_fits_59 (by decide) (fun v12 => [(3, .int v12), (0, .ref a_o), (1, .int p1), (2, .ref (fx_aR X p2))]) hl 0 rfl (by decide) (fun _ => rfl) (fun v12 ls h hl => ?_)
      refine lv_goto (tgt := 26) hx hb dX5_fits_62 (by decide) ?_
      exact hrec6 _ _ h _ _ _ hP hD hS (lv_sub hl [0, 1, 2, 3] rfl)
    refine lv_iconst (v := (nI 0)) hx hb dX5_fits_57 (by decide) ?_
    exact W.zret (v := (nI 0)) hx hb hr rfl (fun t ht hW => ⟨⟨(nI 0), y11, rfl, h, by rw [ht]; exact hP, va_K.moved hW.alike hK, hD⟩, hS.F ht⟩) hS.2.2 dX5_fits_58
  refine lv_iconst (v := (nI 0)) hx hb dX5_fits_15 (by decide) ?_
  exact W.zret (v := (nI 0)) hx hb hr rfl (fun t ht hW => ⟨⟨(nI 0), f_o_letters_meanings, rfl, h, by rw [ht]; exact hP, va_K.moved hW.alike hK, hD⟩, hS.F ht⟩) hS.2.2 dX5_fits_16

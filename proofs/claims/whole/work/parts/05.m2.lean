theorem fx_sw3_0 {x : Int32} (z0 : ¬ x = (nI 0)) (z1 : ¬ x = (nI 1)) (z2 : ¬ x = (nI 2)) : x.toInt < 0 ∨ 2 < x.toInt := by
  have e0 := lv_neT (a := 0) z0 (by decide)
  have e1 := lv_neT (a := 1) z1 (by decide)
  have e2 := lv_neT (a := 2) z2 (by decide)
  omega
theorem fx_sw10_1 {x : Int32} (z0 : ¬ x = (nI 1)) (z1 : ¬ x = (nI 2)) (z2 : ¬ x = (nI 3)) (z3 : ¬ x = (nI 4)) (z4 : ¬ x = (nI 5)) (z5 : ¬ x = (nI 6)) (z6 : ¬ x = (nI 7)) (z7 : ¬ x = (nI 8)) (z8 : ¬ x = (nI 9)) (z9 : ¬ x = (nI 10)) : x.toInt < 1 ∨ 10 < x.toInt := by
  have e0 := lv_neT (a := 1) z0 (by decide)
  have e1 := lv_neT (a := 2) z1 (by decide)
  have e2 := lv_neT (a := 3) z2 (by decide)
  have e3 := lv_neT (a := 4) z3 (by decide)
  have e4 := lv_neT (a := 5) z4 (by decide)
  have e5 := lv_neT (a := 6) z5 (by decide)
  have e6 := lv_neT (a := 7) z6 (by decide)
  have e7 := lv_neT (a := 8) z7 (by decide)
  have e8 := lv_neT (a := 9) z8 (by decide)
  have e9 := lv_neT (a := 10) z9 (by decide)
  omega
theorem fx_sw15_3 {x : Int32} (z0 : ¬ x = (nI 3)) (z1 : ¬ x = (nI 4)) (z2 : ¬ x = (nI 5)) (z3 : ¬ x = (nI 6)) (z4 : ¬ x = (nI 7)) (z5 : ¬ x = (nI 8)) (z6 : ¬ x = (nI 9)) (z7 : ¬ x = (nI 10)) (z8 : ¬ x = (nI 11)) (z9 : ¬ x = (nI 12)) (z10 : ¬ x = (nI 13)) (z11 : ¬ x = (nI 14)) (z12 : ¬ x = (nI 15)) (z13 : ¬ x = (nI 16)) (z14 : ¬ x = (nI 17)) : x.toInt < 3 ∨ 17 < x.toInt := by
  have e0 := lv_neT (a := 3) z0 (by decide)
  have e1 := lv_neT (a := 4) z1 (by decide)
  have e2 := lv_neT (a := 5) z2 (by decide)
  have e3 := lv_neT (a := 6) z3 (by decide)
  have e4 := lv_neT (a := 7) z4 (by decide)
  have e5 := lv_neT (a := 8) z5 (by decide)
  have e6 := lv_neT (a := 9) z6 (by decide)
  have e7 := lv_neT (a := 10) z7 (by decide)
  have e8 := lv_neT (a := 11) z8 (by decide)
  have e9 := lv_neT (a := 12) z9 (by decide)
  have e10 := lv_neT (a := 13) z10 (by decide)
  have e11 := lv_neT (a := 14) z11 (by decide)
  have e12 := lv_neT (a := 15) z12 (by decide)
  have e13 := lv_neT (a := 16) z13 (by decide)
  have e14 := lv_neT (a := 17) z14 (by decide)
  omega
theorem fx_sw17_0 {x : Int32} (z0 : ¬ x = (nI 0)) (z1 : ¬ x = (nI 1)) (z2 : ¬ x = (nI 2)) (z3 : ¬ x = (nI 3)) (z4 : ¬ x = (nI 4)) (z5 : ¬ x = (nI 5)) (z6 : ¬ x = (nI 6)) (z7 : ¬ x = (nI 7)) (z8 : ¬ x = (nI 8)) (z9 : ¬ x = (nI 9)) (z10 : ¬ x = (nI 10)) (z11 : ¬ x = (nI 11)) (z12 : ¬ x = (nI 12)) (z13 : ¬ x = (nI 13)) (z14 : ¬ x = (nI 14)) (z15 : ¬ x = (nI 15)) (z16 : ¬ x = (nI 16)) : x.toInt < 0 ∨ 16 < x.toInt := by
  have e0 := lv_neT (a := 0) z0 (by decide)
  have e1 := lv_neT (a := 1) z1 (by decide)
  have e2 := lv_neT (a := 2) z2 (by decide)
  have e3 := lv_neT (a := 3) z3 (by decide)
  have e4 := lv_neT (a := 4) z4 (by decide)
  have e5 := lv_neT (a := 5) z5 (by decide)
  have e6 := lv_neT (a := 6) z6 (by decide)
  have e7 := lv_neT (a := 7) z7 (by decide)
  have e8 := lv_neT (a := 8) z8 (by decide)
  have e9 := lv_neT (a := 9) z9 (by decide)
  have e10 := lv_neT (a := 10) z10 (by decide)
  have e11 := lv_neT (a := 11) z11 (by decide)
  have e12 := lv_neT (a := 12) z12 (by decide)
  have e13 := lv_neT (a := 13) z13 (by decide)
  have e14 := lv_neT (a := 14) z14 (by decide)
  have e15 := lv_neT (a := 15) z15 (by decide)
  have e16 := lv_neT (a := 16) z16 (by decide)
  omega
/-- X6_kindOf: its walk -/
def wp_X6_kindOf (post : Int32 → Prop) (f_o_stated : Nat → Int32) (p1 : Int32) : Prop :=
  fx_nm ((nI 4) * p1) (fun v1 => fx_ix v1 1204 (fun k3 => fx_nm (f_o_stated k3) (fun v2 => post v2)))
theorem im_X6_kindOf_X6 : ∀ w ∈ u_ws RX6 TX6 17, w ∈ wsX6_kindOf := by decide +kernel
set_option maxHeartbeats 4000000 in
set_option maxRecDepth 100000 in
theorem cw_X6_kindOf (l : Launch) (X : fx_X) (a_o : Nat) (a_o_phrases : Nat) (a_o_axioms : Nat) (a_o_triples : Nat) (a_o_rules : Nat) (a_o_instances : Nat) (a_o_counts : Nat) (a_o_premises : Nat) (a_o_stated : Nat) (a_o_marks : Nat) (a_o_text : Nat) (a_o_sizes : Nat) (a_o_places : Nat) (s_o_axiomCount : Int32) (s_o_tripleCount : Int32) (s_o_rows : Int32) (s_o_broken : Int32) (s_o_size : Int32) (f_o_stated : Nat → Int32) (p1 : Int32) (post : Int32 → Prop) (h : wp_X6_kindOf post f_o_stated p1) : Met l yX6_kindOf wsX6_kindOf ({ frames := 0, cells := 0, slots := 0, locals := 0 }) (va_Pc [.ref a_o, .int p1] (fx_PP X [(a_o, .inr (5, [.ref a_o_phrases, .ref a_o_axioms, .int s_o_axiomCount, .ref a_o_triples, .int s_o_tripleCount, .ref a_o_rules, .ref a_o_instances, .ref a_o_counts, .ref a_o_premises, .int s_o_rows, .ref a_o_stated, .ref a_o_marks, .int s_o_broken, .ref a_o_text, .int s_o_size, .ref a_o_sizes, .ref a_o_places])), (a_o_stated, .inl (fx_cI X, 1204, .inl f_o_stated))])) (vp_Si post) 0 0 (fun _ => False) := by
  refine Met.ofW (cc := cX6_kindOf) (maxL := 2) (ret := (some .int)) (by decide) rfl ?_
  intro p e s m args below meth c s₁ B hml hv
  obtain ⟨rfl, hP, hK, hG⟩ := hv
  have hx := B.exec
  have hb := B.bytes
  have hr := B.returns
  have hts := atoms_spec (ws := wsX6_kindOf) B.pre
  have hown : s.vm.findClass RX6 = some m.cls := findClass_of_methodNamed B.named
  have hlocks := B.notSynchronized
  have hS : va_S (fun _ => False) s.heap s.heap [] := va_S.rf
  have k140 := hts (.fieldLink RX6 140 "ProofCheckerModel" "stated" "[I") (by decide +kernel)
  have hl := lv_entry ([.ref a_o, .int p1]) (n := 2) (Nat.le_of_ble_eq_true rfl)
  rw [lg_entry_eq]
  generalize (lg_sl ([.ref a_o, .int p1]) ++ List.replicate (2 - (lg_sl ([.ref a_o, .int p1])).length) Slot.unset).toArray = ls at hl ⊢
  have hl : lv_has ls 2 [(0, .ref a_o), (1, .int p1)] := hl
  unfold wp_X6_kindOf at h
  refine lv_aload_n hx hb dX6_kindOf_0 rfl (lv_at hl 0 rfl) ?_
  refine va_get (D := fx_D X) (ci := 5) (v := .ref a_o_stated) (C := RX6) (T := TX6) (N := 17) hx hb hts im_X6_kindOf_X6 hown hK hP 0 rfl rfl 10 (by decide) k140 (fun _ h9 => h9) rfl dX6_kindOf_1 ?_
  refine lv_iconst (v := (nI 4)) hx hb dX6_kindOf_4 (by decide) ?_
  refine lv_iload_n hx hb dX6_kindOf_5 rfl (lv_at hl 1 rfl) ?_
  refine fx_imul hx hb h dX6_kindOf_6 (fun v1 h => ?_)
  refine fx_iald hx hb hK hP 1 0 rfl rfl h dX6_kindOf_7 (fun v2 h => ?_)
  exact W.iret (v := v2) hx hb hr  (fun t ht hW => ⟨_, rfl, h, ht⟩) (fun q hq => by cases hq) dX6_kindOf_8

/-- X6_of: its walk -/
def wp_X6_of (post : Int32 → Prop) (f_o_premises : Nat → Int32) (f_o_stated : Nat → Int32) (p1 : Int32) (p2 : Int32) (p3 : Int32) : Prop :=
  fx_nm ((nI 3) * p1) (fun v1 => fx_nm (v1 + p2) (fun v2 => fx_ix v2 903 (fun k4 => fx_nm (f_o_premises k4) (fun v3 => fx_nm ((nI 4) * v3) (fun v5 => fx_nm (v5 + p3) (fun v6 => fx_ix v6 1204 (fun k8 => fx_nm (f_o_stated k8) (fun v7 => post v7))))))))
theorem im_X6_of_X6 : ∀ w ∈ u_ws RX6 TX6 17, w ∈ wsX6_of := by decide +kernel
set_option maxHeartbeats 4000000 in
set_option maxRecDepth 100000 in
theorem cw_X6_of (l : Launch) (X : fx_X) (a_o : Nat) (a_o_phrases : Nat) (a_o_axioms : Nat) (a_o_triples : Nat) (a_o_rules : Nat) (a_o_instances : Nat) (a_o_counts : Nat) (a_o_premises : Nat) (a_o_stated : Nat) (a_o_marks : Nat) (a_o_text : Nat) (a_o_sizes : Nat) (a_o_places : Nat) (s_o_axiomCount : Int32) (s_o_tripleCount : Int32) (s_o_rows : Int32) (s_o_broken : Int32) (s_o_size : Int32) (f_o_premises : Nat → Int32) (f_o_stated : Nat → Int32) (p1 : Int32) (p2 : Int32) (p3 : Int32) (post : Int32 → Prop) (h : wp_X6_of post f_o_premises f_o_stated p1 p2 p3) : Met l yX6_of wsX6_of ({ frames := 0, cells := 0, slots := 0, locals := 0 }) (va_Pc [.ref a_o, .int p1, .int p2, .int p3] (fx_PP X [(a_o, .inr (5, [.ref a_o_phrases, .ref a_o_axioms, .int s_o_axiomCount, .ref a_o_triples, .int s_o_tripleCount, .ref a_o_rules, .ref a_o_instances, .ref a_o_counts, .ref a_o_premises, .int s_o_rows, .ref a_o_stated, .ref a_o_marks, .int s_o_broken, .ref a_o_text, .int s_o_size, .ref a_o_sizes, .ref a_o_places])), (a_o_premises, .inl (fx_cI X, 903, .inl f_o_premises)), (a_o_stated, .inl (fx_cI X, 1204, .inl f_o_stated))])) (vp_Si post) 0 0 (fun _ => False) := by
  refine Met.ofW (cc := cX6_of) (maxL := 4) (ret := (some .int)) (by decide) rfl ?_
  intro p e s m args below meth c s₁ B hml hv
  obtain ⟨rfl, hP, hK, hG⟩ := hv
  have hx := B.exec
  have hb := B.bytes
  have hr := B.returns
  have hts := atoms_spec (ws := wsX6_of) B.pre
  have hown : s.vm.findClass RX6 = some m.cls := findClass_of_methodNamed B.named
  have hlocks := B.notSynchronized
  have hS : va_S (fun _ => False) s.heap s.heap [] := va_S.rf
  have k137 := hts (.fieldLink RX6 137 "ProofCheckerModel" "premises" "[I") (by decide +kernel)
  have k140 := hts (.fieldLink RX6 140 "ProofCheckerModel" "stated" "[I") (by decide +kernel)
  have hl := lv_entry ([.ref a_o, .int p1, .int p2, .int p3]) (n := 4) (Nat.le_of_ble_eq_true rfl)
  rw [lg_entry_eq]
  generalize (lg_sl ([.ref a_o, .int p1, .int p2, .int p3]) ++ List.replicate (4 - (lg_sl ([.ref a_o, .int p1, .int p2, .int p3])).length) Slot.unset).toArray = ls at hl ⊢
  have hl : lv_has ls 4 [(0, .ref a_o), (1, .int p1), (2, .int p2), (3, .int p3)] := hl
  unfold wp_X6_of at h
  refine lv_aload_n hx hb dX6_of_0 rfl (lv_at hl 0 rfl) ?_
  refine va_get (D := fx_D X) (ci := 5) (v := .ref a_o_stated) (C := RX6) (T := TX6) (N := 17) hx hb hts im_X6_of_X6 hown hK hP 0 rfl rfl 10 (by decide) k140 (fun _ h9 => h9) rfl dX6_of_1 ?_
  refine lv_iconst (v := (nI 4)) hx hb dX6_of_4 (by decide) ?_
  refine lv_aload_n hx hb dX6_of_5 rfl (lv_at hl 0 rfl) ?_
  refine va_get (D := fx_D X) (ci := 5) (v := .ref a_o_premises) (C := RX6) (T := TX6) (N := 17) hx hb hts im_X6_of_X6 hown hK hP 0 rfl rfl 8 (by decide) k137 (fun _ h9 => h9) rfl dX6_of_6 ?_
  refine lv_iconst (v := (nI 3)) hx hb dX6_of_9 (by decide) ?_
  refine lv_iload_n hx hb dX6_of_10 rfl (lv_at hl 1 rfl) ?_
  refine fx_imul hx hb h dX6_of_11 (fun v1 h => ?_)
  refine lv_iload_n hx hb dX6_of_12 rfl (lv_at hl 2 rfl) ?_
  refine fx_iadd hx hb h dX6_of_13 (fun v2 h => ?_)
  refine fx_iald hx hb hK hP 1 0 rfl rfl h dX6_of_14 (fun v3 h => ?_)
  refine fx_imul hx hb h dX6_of_15 (fun v5 h => ?_)
  refine lv_iload_n hx hb dX6_of_16 rfl (lv_at hl 3 rfl) ?_
  refine fx_iadd hx hb h dX6_of_17 (fun v6 h => ?_)
  refine fx_iald hx hb hK hP 2 0 rfl rfl h dX6_of_18 (fun v7 h => ?_)
  exact W.iret (v := v7) hx hb hr  (fun t ht hW => ⟨_, rfl, h, ht⟩) (fun q hq => by cases hq) dX6_of_19

/-- X6_is: its walk -/
def wp_X6_is (post : Int32 → Prop) (f_o_premises : Nat → Int32) (f_o_stated : Nat → Int32) (p1 : Int32) (p2 : Int32) (p3 : Int32) : Prop :=
  wp_X6_of (fun r1 => fx_br (r1 = p3) (post (nI 1)) (post (nI 0))) f_o_premises f_o_stated p1 p2 (nI 0)
set_option maxHeartbeats 4000000 in
set_option maxRecDepth 100000 in
theorem cw_X6_is (l : Launch) (X : fx_X) (a_o : Nat) (a_o_phrases : Nat) (a_o_axioms : Nat) (a_o_triples : Nat) (a_o_rules : Nat) (a_o_instances : Nat) (a_o_counts : Nat) (a_o_premises : Nat) (a_o_stated : Nat) (a_o_marks : Nat) (a_o_text : Nat) (a_o_sizes : Nat) (a_o_places : Nat) (s_o_axiomCount : Int32) (s_o_tripleCount : Int32) (s_o_rows : Int32) (s_o_broken : Int32) (s_o_size : Int32) (f_o_premises : Nat → Int32) (f_o_stated : Nat → Int32) (p1 : Int32) (p2 : Int32) (p3 : Int32) (post : Int32 → Prop) (h : wp_X6_is post f_o_premises f_o_stated p1 p2 p3) : Met l yX6_is wsX6_is ({ frames := 1, cells := 0, slots := 0, locals := 23 }) (va_Pc [.ref a_o, .int p1, .int p2, .int p3] (fx_PP X [(a_o, .inr (5, [.ref a_o_phrases, .ref a_o_axioms, .int s_o_axiomCount, .ref a_o_triples, .int s_o_tripleCount, .ref a_o_rules, .ref a_o_instances, .ref a_o_counts, .ref a_o_premises, .int s_o_rows, .ref a_o_stated, .ref a_o_marks, .int s_o_broken, .ref a_o_text, .int s_o_size, .ref a_o_sizes, .ref a_o_places])), (a_o_premises, .inl (fx_cI X, 903, .inl f_o_premises)), (a_o_stated, .inl (fx_cI X, 1204, .inl f_o_stated))])) (vp_Si post) 0 0 (fun _ => False) := by
  refine Met.ofW (cc := cX6_is) (maxL := 4) (ret := (some .boolean)) (by decide) rfl ?_
  intro p e s m args below meth c s₁ B hml hv
  obtain ⟨rfl, hP, hK, hG⟩ := hv
  have hx := B.exec
  have hb := B.bytes
  have hr := B.returns
  have hts := atoms_spec (ws := wsX6_is) B.pre
  have hown : s.vm.findClass RX6 = some m.cls := findClass_of_methodNamed B.named
  have hlocks := B.notSynchronized
  have hS : va_S (fun _ => False) s.heap s.heap [] := va_S.rf
  have hl := lv_entry ([.ref a_o, .int p1, .int p2, .int p3]) (n := 4) (Nat.le_of_ble_eq_true rfl)
  rw [lg_entry_eq]
  generalize (lg_sl ([.ref a_o, .int p1, .int p2, .int p3]) ++ List.replicate (4 - (lg_sl ([.ref a_o, .int p1, .int p2, .int p3])).length) Slot.unset).toArray = ls at hl ⊢
  have hl : lv_has ls 4 [(0, .ref a_o), (1, .int p1), (2, .int p2), (3, .int p3)] := hl
  unfold wp_X6_is at h
  refine lv_aload_n hx hb dX6_is_0 rfl (lv_at hl 0 rfl) ?_
  refine lv_iload_n hx hb dX6_is_1 rfl (lv_at hl 1 rfl) ?_
  refine lv_iload_n hx hb dX6_is_2 rfl (lv_at hl 2 rfl) ?_
  refine lv_iconst (v := (nI 0)) hx hb dX6_is_3 (by decide) ?_
  refine vp_callSi (W.runV (As := [.int p1, .int p2, .int (nI 0)]) (rest := []) ⟨hx, hb, hml, hown, hts⟩ (cw_X6_of l X a_o a_o_phrases a_o_axioms a_o_triples a_o_rules a_o_instances a_o_counts a_o_premises a_o_stated a_o_marks a_o_text a_o_sizes a_o_places s_o_axiomCount s_o_tripleCount s_o_rows s_o_broken s_o_size f_o_premises f_o_stated p1 p2 (nI 0) _ h) (cwV 3 hts gX6_is_X6_of rfl rfl rfl (by decide +kernel) ⟨Nat.le_of_ble_eq_true rfl, Nat.le_of_ble_eq_true rfl⟩) (fx_pv hP hK hG hS (va_recv hK hP (ci := 5) (q0 := 0) rfl rfl) [0, 1, 2] rfl) rfl rfl hl.1 rfl (lv_room (Nat.le_of_ble_eq_true rfl)) dX6_is_4 ⟨Nat.le_of_ble_eq_true rfl, Nat.le_of_ble_eq_true rfl⟩) (fun r1 h => ?_)
  refine lv_iload_n hx hb dX6_is_7 rfl (lv_at hl 3 rfl) ?_
  refine fx_icmp_ne (tgt := 15) hx hb h dX6_is_8 (by decide) (fun h => ?_) (fun h => ?_)
  · refine lv_iconst (v := (nI 0)) hx hb dX6_is_15 (by decide) ?_
    exact W.zret (v := (nI 0)) hx hb hr rfl (fun t ht hW => ⟨_, rfl, h, ht⟩) (fun q hq => by cases hq) dX6_is_16
  refine lv_iconst (v := (nI 1)) hx hb dX6_is_11 (by decide) ?_
  refine lv_goto (tgt := 16) hx hb dX6_is_12 (by decide) ?_
  exact W.zret (v := (nI 1)) hx hb hr rfl (fun t ht hW => ⟨_, rfl, h, ht⟩) (fun q hq => by cases hq) dX6_is_16

/-- X6_state: its walk -/
def wp_X6_state (post : (Nat → Int32) → Prop) (f_o_stated : Nat → Int32) (p1 : Int32) (p2 : Int32) (p3 : Int32) (p4 : Int32) (p5 : Int32) : Prop :=
  fx_nm ((nI 4) * p1) (fun v1 => fx_ix v1 1204 (fun k15 => fx_nm (upd f_o_stated k15 p2) (fun g2 => fx_nm ((nI 4) * p1) (fun v3 => fx_nm (v3 + (nI 1)) (fun v4 => fx_ix v4 1204 (fun k14 => fx_nm (upd g2 k14 p3) (fun g5 => fx_nm ((nI 4) * p1) (fun v6 => fx_nm (v6 + (nI 2)) (fun v7 => fx_ix v7 1204 (fun k13 => fx_nm (upd g5 k13 p4) (fun g8 => fx_nm ((nI 4) * p1) (fun v9 => fx_nm (v9 + (nI 3)) (fun v10 => fx_ix v10 1204 (fun k12 => fx_nm (upd g8 k12 p5) (fun g11 => post g11)))))))))))))))
theorem im_X6_state_X6 : ∀ w ∈ u_ws RX6 TX6 17, w ∈ wsX6_state := by decide +kernel
set_option maxHeartbeats 4000000 in
set_option maxRecDepth 100000 in
theorem cw_X6_state (l : Launch) (X : fx_X) (a_o : Nat) (a_o_phrases : Nat) (a_o_axioms : Nat) (a_o_triples : Nat) (a_o_rules : Nat) (a_o_instances : Nat) (a_o_counts : Nat) (a_o_premises : Nat) (a_o_stated : Nat) (a_o_marks : Nat) (a_o_text : Nat) (a_o_sizes : Nat) (a_o_places : Nat) (s_o_axiomCount : Int32) (s_o_tripleCount : Int32) (s_o_rows : Int32) (s_o_broken : Int32) (s_o_size : Int32) (f_o_stated : Nat → Int32) (sz : Nat) (p1 : Int32) (p2 : Int32) (p3 : Int32) (p4 : Int32) (p5 : Int32) (post : (Nat → Int32) → Prop) (h : wp_X6_state post f_o_stated p1 p2 p3 p4 p5) : Met l yX6_state wsX6_state ({ frames := 0, cells := 0, slots := 0, locals := 0 }) (va_Pc [.ref a_o, .int p1, .int p2, .int p3, .int p4, .int p5] (fx_PW X [(a_o, .inr (5, [.ref a_o_phrases, .ref a_o_axioms, .int s_o_axiomCount, .ref a_o_triples, .int s_o_tripleCount, .ref a_o_rules, .ref a_o_instances, .ref a_o_counts, .ref a_o_premises, .int s_o_rows, .ref a_o_stated, .ref a_o_marks, .int s_o_broken, .ref a_o_text, .int s_o_size, .ref a_o_sizes, .ref a_o_places])), (a_o_stated, .inl (fx_cI X, 1204, .inl f_o_stated))] sz)) (va_Qv (fun (u : (Nat → Int32)) => post u) (fun (u : (Nat → Int32)) t => fx_EW X (va_A [(a_o, .inr (5, [.ref a_o_phrases, .ref a_o_axioms, .int s_o_axiomCount, .ref a_o_triples, .int s_o_tripleCount, .ref a_o_rules, .ref a_o_instances, .ref a_o_counts, .ref a_o_premises, .int s_o_rows, .ref a_o_stated, .ref a_o_marks, .int s_o_broken, .ref a_o_text, .int s_o_size, .ref a_o_sizes, .ref a_o_places])), (a_o_stated, .inl (fx_cI X, 1204, .inl f_o_stated))] sz) [(a_o, .inr (5, [.ref a_o_phrases, .ref a_o_axioms, .int s_o_axiomCount, .ref a_o_triples, .int s_o_tripleCount, .ref a_o_rules, .ref a_o_instances, .ref a_o_counts, .ref a_o_premises, .int s_o_rows, .ref a_o_stated, .ref a_o_marks, .int s_o_broken, .ref a_o_text, .int s_o_size, .ref a_o_sizes, .ref a_o_places])), (a_o_stated, .inl (fx_cI X, 1204, .inl u))] t) (va_A [(a_o, .inr (5, [.ref a_o_phrases, .ref a_o_axioms, .int s_o_axiomCount, .ref a_o_triples, .int s_o_tripleCount, .ref a_o_rules, .ref a_o_instances, .ref a_o_counts, .ref a_o_premises, .int s_o_rows, .ref a_o_stated, .ref a_o_marks, .int s_o_broken, .ref a_o_text, .int s_o_size, .ref a_o_sizes, .ref a_o_places])), (a_o_stated, .inl (fx_cI X, 1204, .inl f_o_stated))] sz)) 0 0 (va_A [(a_o, .inr (5, [.ref a_o_phrases, .ref a_o_axioms, .int s_o_axiomCount, .ref a_o_triples, .int s_o_tripleCount, .ref a_o_rules, .ref a_o_instances, .ref a_o_counts, .ref a_o_premises, .int s_o_rows, .ref a_o_stated, .ref a_o_marks, .int s_o_broken, .ref a_o_text, .int s_o_size, .ref a_o_sizes, .ref a_o_places])), (a_o_stated, .inl (fx_cI X, 1204, .inl f_o_stated))] sz) := by
  refine Met.ofW (cc := cX6_state) (maxL := 6) (ret := none) (by decide) rfl ?_
  intro p e s m args below meth c s₁ B hml hv
  obtain ⟨rfl, hsz, hP, hK, hD0, hG⟩ := hv
  have hx := B.exec
  have hb := B.bytes
  have hr := B.returns
  have hts := atoms_spec (ws := wsX6_state) B.pre
  have hown : s.vm.findClass RX6 = some m.cls := findClass_of_methodNamed B.named
  have hlocks := B.notSynchronized
  subst hsz
  have hD := hD0.self (sz := s.heap.size)
  generalize hAe : va_A [(a_o, .inr (5, [.ref a_o_phrases, .ref a_o_axioms, .int s_o_axiomCount, .ref a_o_triples, .int s_o_tripleCount, .ref a_o_rules, .ref a_o_instances, .ref a_o_counts, .ref a_o_premises, .int s_o_rows, .ref a_o_stated, .ref a_o_marks, .int s_o_broken, .ref a_o_text, .int s_o_size, .ref a_o_sizes, .ref a_o_places])), (a_o_stated, .inl (fx_cI X, 1204, .inl f_o_stated))] s.heap.size = A at hD hG ⊢
  have hA : ∀ q : Nat, s.heap.size ≤ q → A q := fun q h => by rw [← hAe]; exact Or.inr h
  have hS : va_S A s.heap s.heap [] := va_S.rf
  have k140 := hts (.fieldLink RX6 140 "ProofCheckerModel" "stated" "[I") (by decide +kernel)
  have hl := lv_entry ([.ref a_o, .int p1, .int p2, .int p3, .int p4, .int p5]) (n := 6) (Nat.le_of_ble_eq_true rfl)
  rw [lg_entry_eq]
  generalize (lg_sl ([.ref a_o, .int p1, .int p2, .int p3, .int p4, .int p5]) ++ List.replicate (6 - (lg_sl ([.ref a_o, .int p1, .int p2, .int p3, .int p4, .int p5])).length) Slot.unset).toArray = ls at hl ⊢
  have hl : lv_has ls 6 [(0, .ref a_o), (1, .int p1), (2, .int p2), (3, .int p3), (4, .int p4), (5, .int p5)] := hl
  unfold wp_X6_state at h
  refine lv_aload_n hx hb dX6_state_0 rfl (lv_at hl 0 rfl) ?_
  refine va_get (D := fx_D X) (ci := 5) (v := .ref a_o_stated) (C := RX6) (T := TX6) (N := 17) hx hb hts im_X6_state_X6 hown hK hP 0 rfl rfl 10 (by decide) k140 (fun _ h9 => h9) rfl dX6_state_1 ?_
  refine lv_iconst (v := (nI 4)) hx hb dX6_state_4 (by decide) ?_
  refine lv_iload_n hx hb dX6_state_5 rfl (lv_at hl 1 rfl) ?_
  refine fx_imul hx hb h dX6_state_6 (fun v1 h => ?_)
  refine lv_iload_n hx hb dX6_state_7 rfl (lv_at hl 2 rfl) ?_
  refine fx_iast hx hb hK hP hD hS 1 0 rfl rfl h dX6_state_8 (fun g2 => [(a_o, .inr (5, [.ref a_o_phrases, .ref a_o_axioms, .int s_o_axiomCount, .ref a_o_triples, .int s_o_tripleCount, .ref a_o_rules, .ref a_o_instances, .ref a_o_counts, .ref a_o_premises, .int s_o_rows, .ref a_o_stated, .ref a_o_marks, .int s_o_broken, .ref a_o_text, .int s_o_size, .ref a_o_sizes, .ref a_o_places])), (a_o_stated, .inl (fx_cI X, 1204, .inl g2))]) (fun _ => rfl) (fun H locs g2 h hP hD hS => ?_)
  refine lv_aload_n hx hb dX6_state_9 rfl (lv_at hl 0 rfl) ?_
  refine va_get (D := fx_D X) (ci := 5) (v := .ref a_o_stated) (C := RX6) (T := TX6) (N := 17) hx hb hts im_X6_state_X6 hown hK hP 0 rfl rfl 10 (by decide) k140 (fun _ h9 => h9) rfl dX6_state_10 ?_
  refine lv_iconst (v := (nI 4)) hx hb dX6_state_13 (by decide) ?_
  refine lv_iload_n hx hb dX6_state_14 rfl (lv_at hl 1 rfl) ?_
  refine fx_imul hx hb h dX6_state_15 (fun v3 h => ?_)
  refine lv_iconst (v := (nI 1)) hx hb dX6_state_16 (by decide) ?_
  refine fx_iadd hx hb h dX6_state_17 (fun v4 h => ?_)
  refine lv_iload_n hx hb dX6_state_18 rfl (lv_at hl 3 rfl) ?_
  refine fx_iast hx hb hK hP hD hS 1 0 rfl rfl h dX6_state_19 (fun g5 => [(a_o, .inr (5, [.ref a_o_phrases, .ref a_o_axioms, .int s_o_axiomCount, .ref a_o_triples, .int s_o_tripleCount, .ref a_o_rules, .ref a_o_instances, .ref a_o_counts, .ref a_o_premises, .int s_o_rows, .ref a_o_stated, .ref a_o_marks, .int s_o_broken, .ref a_o_text, .int s_o_size, .ref a_o_sizes, .ref a_o_places])), (a_o_stated, .inl (fx_cI X, 1204, .inl g5))]) (fun _ => rfl) (fun H locs g5 h hP hD hS => ?_)
  refine lv_aload_n hx hb dX6_state_20 rfl (lv_at hl 0 rfl) ?_
  refine va_get (D := fx_D X) (ci := 5) (v := .ref a_o_stated) (C := RX6) (T := TX6) (N := 17) hx hb hts im_X6_state_X6 hown hK hP 0 rfl rfl 10 (by decide) k140 (fun _ h9 => h9) rfl dX6_state_21 ?_
  refine lv_iconst (v := (nI 4)) hx hb dX6_state_24 (by decide) ?_
  refine lv_iload_n hx hb dX6_state_25 rfl (lv_at hl 1 rfl) ?_
  refine fx_imul hx hb h dX6_state_26 (fun v6 h => ?_)
  refine lv_iconst (v := (nI 2)) hx hb dX6_state_27 (by decide) ?_
  refine fx_iadd hx hb h dX6_state_28 (fun v7 h => ?_)
  refine lv_iload hx hb dX6_state_29 (lv_at hl 4 rfl) ?_
  refine fx_iast hx hb hK hP hD hS 1 0 rfl rfl h dX6_state_31 (fun g8 => [(a_o, .inr (5, [.ref a_o_phrases, .ref a_o_axioms, .int s_o_axiomCount, .ref a_o_triples, .int s_o_tripleCount, .ref a_o_rules, .ref a_o_instances, .ref a_o_counts, .ref a_o_premises, .int s_o_rows, .ref a_o_stated, .ref a_o_marks, .int s_o_broken, .ref a_o_text, .int s_o_size, .ref a_o_sizes, .ref a_o_places])), (a_o_stated, .inl (fx_cI X, 1204, .inl g8))]) (fun _ => rfl) (fun H locs g8 h hP hD hS => ?_)
  refine lv_aload_n hx hb dX6_state_32 rfl (lv_at hl 0 rfl) ?_
  refine va_get (D := fx_D X) (ci := 5) (v := .ref a_o_stated) (C := RX6) (T := TX6) (N := 17) hx hb hts im_X6_state_X6 hown hK hP 0 rfl rfl 10 (by decide) k140 (fun _ h9 => h9) rfl dX6_state_33 ?_
  refine lv_iconst (v := (nI 4)) hx hb dX6_state_36 (by decide) ?_
  refine lv_iload_n hx hb dX6_state_37 rfl (lv_at hl 1 rfl) ?_
  refine fx_imul hx hb h dX6_state_38 (fun v9 h => ?_)
  refine lv_iconst (v := (nI 3)) hx hb dX6_state_39 (by decide) ?_
  refine fx_iadd hx hb h dX6_state_40 (fun v10 h => ?_)
  refine lv_iload hx hb dX6_state_41 (lv_at hl 5 rfl) ?_
  refine fx_iast hx hb hK hP hD hS 1 0 rfl rfl h dX6_state_43 (fun g11 => [(a_o, .inr (5, [.ref a_o_phrases, .ref a_o_axioms, .int s_o_axiomCount, .ref a_o_triples, .int s_o_tripleCount, .ref a_o_rules, .ref a_o_instances, .ref a_o_counts, .ref a_o_premises, .int s_o_rows, .ref a_o_stated, .ref a_o_marks, .int s_o_broken, .ref a_o_text, .int s_o_size, .ref a_o_sizes, .ref a_o_places])), (a_o_stated, .inl (fx_cI X, 1204, .inl g11))]) (fun _ => rfl) (fun H locs g11 h hP hD hS => ?_)
  exact W.vret hx hb hr (fun t ht hW => ⟨⟨g11, rfl, h, by rw [ht]; exact hP, va_K.moved hW.alike hK, hD⟩, hS.F ht⟩) hS.2.2 dX6_state_44

/-- X6_copy_a: its walk -/
def wp_X6_copy_a (post : (Nat → Int32) → Prop) (f_o_axioms : Nat → Int32) (f_o_stated : Nat → Int32) (p2 : Int32) (p3 : Int32) : Prop :=
  fx_nm ((nI 4) * p2) (fun v1 => fx_ix v1 404 (fun k3 => fx_nm (f_o_axioms k3) (fun v2 => fx_nm ((nI 4) * p2) (fun v4 => fx_nm (v4 + (nI 1)) (fun v5 => fx_ix v5 404 (fun k7 => fx_nm (f_o_axioms k7) (fun v6 => fx_nm ((nI 4) * p2) (fun v8 => fx_nm (v8 + (nI 2)) (fun v9 => fx_ix v9 404 (fun k11 => fx_nm (f_o_axioms k11) (fun v10 => fx_nm ((nI 4) * p2) (fun v12 => fx_nm (v12 + (nI 3)) (fun v13 => fx_ix v13 404 (fun k15 => fx_nm (f_o_axioms k15) (fun v14 => wp_X6_state (fun y16 => post y16) f_o_stated p3 v2 v6 v10 v14)))))))))))))))
set_option maxHeartbeats 4000000 in
set_option maxRecDepth 100000 in
theorem cw_X6_copy_a (l : Launch) (X : fx_X) (a_o : Nat) (a_o_phrases : Nat) (a_o_axioms : Nat) (a_o_triples : Nat) (a_o_rules : Nat) (a_o_instances : Nat) (a_o_counts : Nat) (a_o_premises : Nat) (a_o_stated : Nat) (a_o_marks : Nat) (a_o_text : Nat) (a_o_sizes : Nat) (a_o_places : Nat) (s_o_axiomCount : Int32) (s_o_tripleCount : Int32) (s_o_rows : Int32) (s_o_broken : Int32) (s_o_size : Int32) (f_o_axioms : Nat → Int32) (f_o_stated : Nat → Int32) (sz : Nat) (p2 : Int32) (p3 : Int32) (post : (Nat → Int32) → Prop) (h : wp_X6_copy_a post f_o_axioms f_o_stated p2 p3) : Met l yX6_copy wsX6_copy ({ frames := 1, cells := 0, slots := 0, locals := 25 }) (va_Pc [.ref a_o, .ref a_o_axioms, .int p2, .int p3] (fx_PW X [(a_o, .inr (5, [.ref a_o_phrases, .ref a_o_axioms, .int s_o_axiomCount, .ref a_o_triples, .int s_o_tripleCount, .ref a_o_rules, .ref a_o_instances, .ref a_o_counts, .ref a_o_premises, .int s_o_rows, .ref a_o_stated, .ref a_o_marks, .int s_o_broken, .ref a_o_text, .int s_o_size, .ref a_o_sizes, .ref a_o_places])), (a_o_axioms, .inl (fx_cI X, 404, .inl f_o_axioms)), (a_o_stated, .inl (fx_cI X, 1204, .inl f_o_stated))] sz)) (va_Qv (fun (u : (Nat → Int32)) => post u) (fun (u : (Nat → Int32)) t => fx_EW X (va_A [(a_o, .inr (5, [.ref a_o_phrases, .ref a_o_axioms, .int s_o_axiomCount, .ref a_o_triples, .int s_o_tripleCount, .ref a_o_rules, .ref a_o_instances, .ref a_o_counts, .ref a_o_premises, .int s_o_rows, .ref a_o_stated, .ref a_o_marks, .int s_o_broken, .ref a_o_text, .int s_o_size, .ref a_o_sizes, .ref a_o_places])), (a_o_axioms, .inl (fx_cI X, 404, .inl f_o_axioms)), (a_o_stated, .inl (fx_cI X, 1204, .inl f_o_stated))] sz) [(a_o, .inr (5, [.ref a_o_phrases, .ref a_o_axioms, .int s_o_axiomCount, .ref a_o_triples, .int s_o_tripleCount, .ref a_o_rules, .ref a_o_instances, .ref a_o_counts, .ref a_o_premises, .int s_o_rows, .ref a_o_stated, .ref a_o_marks, .int s_o_broken, .ref a_o_text, .int s_o_size, .ref a_o_sizes, .ref a_o_places])), (a_o_axioms, .inl (fx_cI X, 404, .inl f_o_axioms)), (a_o_stated, .inl (fx_cI X, 1204, .inl u))] t) (va_A [(a_o, .inr (5, [.ref a_o_phrases, .ref a_o_axioms, .int s_o_axiomCount, .ref a_o_triples, .int s_o_tripleCount, .ref a_o_rules, .ref a_o_instances, .ref a_o_counts, .ref a_o_premises, .int s_o_rows, .ref a_o_stated, .ref a_o_marks, .int s_o_broken, .ref a_o_text, .int s_o_size, .ref a_o_sizes, .ref a_o_places])), (a_o_axioms, .inl (fx_cI X, 404, .inl f_o_axioms)), (a_o_stated, .inl (fx_cI X, 1204, .inl f_o_stated))] sz)) 0 0 (va_A [(a_o, .inr (5, [.ref a_o_phrases, .ref a_o_axioms, .int s_o_axiomCount, .ref a_o_triples, .int s_o_tripleCount, .ref a_o_rules, .ref a_o_instances, .ref a_o_counts, .ref a_o_premises, .int s_o_rows, .ref a_o_stated, .ref a_o_marks, .int s_o_broken, .ref a_o_text, .int s_o_size, .ref a_o_sizes, .ref a_o_places])), (a_o_axioms, .inl (fx_cI X, 404, .inl f_o_axioms)), (a_o_stated, .inl (fx_cI X, 1204, .inl f_o_stated))] sz) := by
  refine Met.ofW (cc := cX6_copy) (maxL := 4) (ret := none) (by decide) rfl ?_
  intro p e s m args below meth c s₁ B hml hv
  obtain ⟨rfl, hsz, hP, hK, hD0, hG⟩ := hv
  have hx := B.exec
  have hb := B.bytes
  have hr := B.returns
  have hts := atoms_spec (ws := wsX6_copy) B.pre
  have hown : s.vm.findClass RX6 = some m.cls := findClass_of_methodNamed B.named
  have hlocks := B.notSynchronized
  subst hsz
  have hD := hD0.self (sz := s.heap.size)
  generalize hAe : va_A [(a_o, .inr (5, [.ref a_o_phrases, .ref a_o_axioms, .int s_o_axiomCount, .ref a_o_triples, .int s_o_tripleCount, .ref a_o_rules, .ref a_o_instances, .ref a_o_counts, .ref a_o_premises, .int s_o_rows, .ref a_o_stated, .ref a_o_marks, .int s_o_broken, .ref a_o_text, .int s_o_size, .ref a_o_sizes, .ref a_o_places])), (a_o_axioms, .inl (fx_cI X, 404, .inl f_o_axioms)), (a_o_stated, .inl (fx_cI X, 1204, .inl f_o_stated))] s.heap.size = A at hD hG ⊢
  have hA : ∀ q : Nat, s.heap.size ≤ q → A q := fun q h => by rw [← hAe]; exact Or.inr h
  have hS : va_S A s.heap s.heap [] := va_S.rf
  have hl := lv_entry ([.ref a_o, .ref a_o_axioms, .int p2, .int p3]) (n := 4) (Nat.le_of_ble_eq_true rfl)
  rw [lg_entry_eq]
  generalize (lg_sl ([.ref a_o, .ref a_o_axioms, .int p2, .int p3]) ++ List.replicate (4 - (lg_sl ([.ref a_o, .ref a_o_axioms, .int p2, .int p3])).length) Slot.unset).toArray = ls at hl ⊢
  have hl : lv_has ls 4 [(0, .ref a_o), (1, .ref a_o_axioms), (2, .int p2), (3, .int p3)] := hl
  unfold wp_X6_copy_a at h
  refine lv_aload_n hx hb dX6_copy_0 rfl (lv_at hl 0 rfl) ?_
  refine lv_iload_n hx hb dX6_copy_1 rfl (lv_at hl 3 rfl) ?_
  refine lv_aload_n hx hb dX6_copy_2 rfl (lv_at hl 1 rfl) ?_
  refine lv_iconst (v := (nI 4)) hx hb dX6_copy_3 (by decide) ?_
  refine lv_iload_n hx hb dX6_copy_4 rfl (lv_at hl 2 rfl) ?_
  refine fx_imul hx hb h dX6_copy_5 (fun v1 h => ?_)
  refine fx_iald hx hb hK hP 1 0 rfl rfl h dX6_copy_6 (fun v2 h => ?_)
  refine lv_aload_n hx hb dX6_copy_7 rfl (lv_at hl 1 rfl) ?_
  refine lv_iconst (v := (nI 4)) hx hb dX6_copy_8 (by decide) ?_
  refine lv_iload_n hx hb dX6_copy_9 rfl (lv_at hl 2 rfl) ?_
  refine fx_imul hx hb h dX6_copy_10 (fun v4 h => ?_)
  refine lv_iconst (v := (nI 1)) hx hb dX6_copy_11 (by decide) ?_
  refine fx_iadd hx hb h dX6_copy_12 (fun v5 h => ?_)
  refine fx_iald hx hb hK hP 1 0 rfl rfl h dX6_copy_13 (fun v6 h => ?_)
  refine lv_aload_n hx hb dX6_copy_14 rfl (lv_at hl 1 rfl) ?_
  refine lv_iconst (v := (nI 4)) hx hb dX6_copy_15 (by decide) ?_
  refine lv_iload_n hx hb dX6_copy_16 rfl (lv_at hl 2 rfl) ?_
  refine fx_imul hx hb h dX6_copy_17 (fun v8 h => ?_)
  refine lv_iconst (v := (nI 2)) hx hb dX6_copy_18 (by decide) ?_
  refine fx_iadd hx hb h dX6_copy_19 (fun v9 h => ?_)
  refine fx_iald hx hb hK hP 1 0 rfl rfl h dX6_copy_20 (fun v10 h => ?_)
  refine lv_aload_n hx hb dX6_copy_21 rfl (lv_at hl 1 rfl) ?_
  refine lv_iconst (v := (nI 4)) hx hb dX6_copy_22 (by decide) ?_
  refine lv_iload_n hx hb dX6_copy_23 rfl (lv_at hl 2 rfl) ?_
  refine fx_imul hx hb h dX6_copy_24 (fun v12 h => ?_)
  refine lv_iconst (v := (nI 3)) hx hb dX6_copy_25 (by decide) ?_
  refine fx_iadd hx hb h dX6_copy_26 (fun v13 h => ?_)
  refine fx_iald hx hb hK hP 1 0 rfl rfl h dX6_copy_27 (fun v14 h => ?_)
  have hFc := va_free (wc := [(a_o, .inr (5, [.ref a_o_phrases, .ref a_o_axioms, .int s_o_axiomCount, .ref a_o_triples, .int s_o_tripleCount, .ref a_o_rules, .ref a_o_instances, .ref a_o_counts, .ref a_o_premises, .int s_o_rows, .ref a_o_stated, .ref a_o_marks, .int s_o_broken, .ref a_o_text, .int s_o_size, .ref a_o_sizes, .ref a_o_places])), (a_o_stated, .inl (fx_cI X, 1204, .inl f_o_stated))]) hD hS hA [0, 2] rfl
  refine va_callv (va_runV (As := [.int p3, .int v2, .int v6, .int v10, .int v14]) (rest := []) ⟨hx, hb, hml, hown, hts⟩ (cw_X6_state l X a_o a_o_phrases a_o_axioms a_o_triples a_o_rules a_o_instances a_o_counts a_o_premises a_o_stated a_o_marks a_o_text a_o_sizes a_o_places s_o_axiomCount s_o_tripleCount s_o_rows s_o_broken s_o_size f_o_stated _ p3 v2 v6 v10 v14 _ h) (cwV 5 hts gX6_copy_X6_state rfl rfl rfl (by decide +kernel) ⟨Nat.le_of_ble_eq_true rfl, Nat.le_of_ble_eq_true rfl⟩) (fx_pvW hP hD hK hG hS hFc (va_recv hK hP (ci := 5) (q0 := 0) rfl rfl) [0, 2] (by decide) rfl) rfl rfl hl.1 rfl (lv_room (Nat.le_of_ble_eq_true rfl)) dX6_copy_28 ⟨Nat.le_of_ble_eq_true rfl, Nat.le_of_ble_eq_true rfl⟩) hS (fun q _ h => hFc q h) hFc (fun u t H locs ht hvm h hB _ hk hS => ?_)
  obtain ⟨y16, rfl⟩ : ∃ z, z = u := ⟨_, rfl⟩
  obtain ⟨hP, hD⟩ := fx_back (wr := [(a_o_axioms, .inl (fx_cI X, 404, .inl f_o_axioms))]) (ws' := [(a_o, .inr (5, [.ref a_o_phrases, .ref a_o_axioms, .int s_o_axiomCount, .ref a_o_triples, .int s_o_tripleCount, .ref a_o_rules, .ref a_o_instances, .ref a_o_counts, .ref a_o_premises, .int s_o_rows, .ref a_o_stated, .ref a_o_marks, .int s_o_broken, .ref a_o_text, .int s_o_size, .ref a_o_sizes, .ref a_o_places])), (a_o_axioms, .inl (fx_cI X, 404, .inl f_o_axioms)), (a_o_stated, .inl (fx_cI X, 1204, .inl y16))]) hP hD [0, 2] [1] rfl rfl (by decide) (by decide) hk hFc hB ht [1, 0, 2] (by decide) rfl
  exact W.vret hx hb hr (fun t ht hW => ⟨⟨y16, rfl, h, by rw [ht]; exact hP, va_K.moved hW.alike hK, hD⟩, hS.F ht⟩) hS.2.2 dX6_copy_31

/-- X6_copy_t: its walk -/
def wp_X6_copy_t (post : (Nat → Int32) → Prop) (f_o_triples : Nat → Int32) (f_o_stated : Nat → Int32) (p2 : Int32) (p3 : Int32) : Prop :=
  fx_nm ((nI 4) * p2) (fun v1 => fx_ix v1 404 (fun k3 => fx_nm (f_o_triples k3) (fun v2 => fx_nm ((nI 4) * p2) (fun v4 => fx_nm (v4 + (nI 1)) (fun v5 => fx_ix v5 404 (fun k7 => fx_nm (f_o_triples k7) (fun v6 => fx_nm ((nI 4) * p2) (fun v8 => fx_nm (v8 + (nI 2)) (fun v9 => fx_ix v9 404 (fun k11 => fx_nm (f_o_triples k11) (fun v10 => fx_nm ((nI 4) * p2) (fun v12 => fx_nm (v12 + (nI 3)) (fun v13 => fx_ix v13 404 (fun k15 => fx_nm (f_o_triples k15) (fun v14 => wp_X6_state (fun y16 => post y16) f_o_stated p3 v2 v6 v10 v14)))))))))))))))
set_option maxHeartbeats 4000000 in
set_option maxRecDepth 100000 in
theorem cw_X6_copy_t (l : Launch) (X : fx_X) (a_o : Nat) (a_o_phrases : Nat) (a_o_axioms : Nat) (a_o_triples : Nat) (a_o_rules : Nat) (a_o_instances : Nat) (a_o_counts : Nat) (a_o_premises : Nat) (a_o_stated : Nat) (a_o_marks : Nat) (a_o_text : Nat) (a_o_sizes : Nat) (a_o_places : Nat) (s_o_axiomCount : Int32) (s_o_tripleCount : Int32) (s_o_rows : Int32) (s_o_broken : Int32) (s_o_size : Int32) (f_o_triples : Nat → Int32) (f_o_stated : Nat → Int32) (sz : Nat) (p2 : Int32) (p3 : Int32) (post : (Nat → Int32) → Prop) (h : wp_X6_copy_t post f_o_triples f_o_stated p2 p3) : Met l yX6_copy wsX6_copy ({ frames := 1, cells := 0, slots := 0, locals := 25 }) (va_Pc [.ref a_o, .ref a_o_triples, .int p2, .int p3] (fx_PW X [(a_o, .inr (5, [.ref a_o_phrases, .ref a_o_axioms, .int s_o_axiomCount, .ref a_o_triples, .int s_o_tripleCount, .ref a_o_rules, .ref a_o_instances, .ref a_o_counts, .ref a_o_premises, .int s_o_rows, .ref a_o_stated, .ref a_o_marks, .int s_o_broken, .ref a_o_text, .int s_o_size, .ref a_o_sizes, .ref a_o_places])), (a_o_triples, .inl (fx_cI X, 404, .inl f_o_triples)), (a_o_stated, .inl (fx_cI X, 1204, .inl f_o_stated))] sz)) (va_Qv (fun (u : (Nat → Int32)) => post u) (fun (u : (Nat → Int32)) t => fx_EW X (va_A [(a_o, .inr (5, [.ref a_o_phrases, .ref a_o_axioms, .int s_o_axiomCount, .ref a_o_triples, .int s_o_tripleCount, .ref a_o_rules, .ref a_o_instances, .ref a_o_counts, .ref a_o_premises, .int s_o_rows, .ref a_o_stated, .ref a_o_marks, .int s_o_broken, .ref a_o_text, .int s_o_size, .ref a_o_sizes, .ref a_o_places])), (a_o_triples, .inl (fx_cI X, 404, .inl f_o_triples)), (a_o_stated, .inl (fx_cI X, 1204, .inl f_o_stated))] sz) [(a_o, .inr (5, [.ref a_o_phrases, .ref a_o_axioms, .int s_o_axiomCount, .ref a_o_triples, .int s_o_tripleCount, .ref a_o_rules, .ref a_o_instances, .ref a_o_counts, .ref a_o_premises, .int s_o_rows, .ref a_o_stated, .ref a_o_marks, .int s_o_broken, .ref a_o_text, .int s_o_size, .ref a_o_sizes, .ref a_o_places])), (a_o_triples, .inl (fx_cI X, 404, .inl f_o_triples)), (a_o_stated, .inl (fx_cI X, 1204, .inl u))] t) (va_A [(a_o, .inr (5, [.ref a_o_phrases, .ref a_o_axioms, .int s_o_axiomCount, .ref a_o_triples, .int s_o_tripleCount, .ref a_o_rules, .ref a_o_instances, .ref a_o_counts, .ref a_o_premises, .int s_o_rows, .ref a_o_stated, .ref a_o_marks, .int s_o_broken, .ref a_o_text, .int s_o_size, .ref a_o_sizes, .ref a_o_places])), (a_o_triples, .inl (fx_cI X, 404, .inl f_o_triples)), (a_o_stated, .inl (fx_cI X, 1204, .inl f_o_stated))] sz)) 0 0 (va_A [(a_o, .inr (5, [.ref a_o_phrases, .ref a_o_axioms, .int s_o_axiomCount, .ref a_o_triples, .int s_o_tripleCount, .ref a_o_rules, .ref a_o_instances, .ref a_o_counts, .ref a_o_premises, .int s_o_rows, .ref a_o_stated, .ref a_o_marks, .int s_o_broken, .ref a_o_text, .int s_o_size, .ref a_o_sizes, .ref a_o_places])), (a_o_triples, .inl (fx_cI X, 404, .inl f_o_triples)), (a_o_stated, .inl (fx_cI X, 1204, .inl f_o_stated))] sz) := by
  refine Met.ofW (cc := cX6_copy) (maxL := 4) (ret := none) (by decide) rfl ?_
  intro p e s m args below meth c s₁ B hml hv
  obtain ⟨rfl, hsz, hP, hK, hD0, hG⟩ := hv
  have hx := B.exec
  have hb := B.bytes
  have hr := B.returns
  have hts := atoms_spec (ws := wsX6_copy) B.pre
  have hown : s.vm.findClass RX6 = some m.cls := findClass_of_methodNamed B.named
  have hlocks := B.notSynchronized
  subst hsz
  have hD := hD0.self (sz := s.heap.size)
  generalize hAe : va_A [(a_o, .inr (5, [.ref a_o_phrases, .ref a_o_axioms, .int s_o_axiomCount, .ref a_o_triples, .int s_o_tripleCount, .ref a_o_rules, .ref a_o_instances, .ref a_o_counts, .ref a_o_premises, .int s_o_rows, .ref a_o_stated, .ref a_o_marks, .int s_o_broken, .ref a_o_text, .int s_o_size, .ref a_o_sizes, .ref a_o_places])), (a_o_triples, .inl (fx_cI X, 404, .inl f_o_triples)), (a_o_stated, .inl (fx_cI X, 1204, .inl f_o_stated))] s.heap.size = A at hD hG ⊢
  have hA : ∀ q : Nat, s.heap.size ≤ q → A q := fun q h => by rw [← hAe]; exact Or.inr h
  have hS : va_S A s.heap s.heap [] := va_S.rf
  have hl := lv_entry ([.ref a_o, .ref a_o_triples, .int p2, .int p3]) (n := 4) (Nat.le_of_ble_eq_true rfl)
  rw [lg_entry_eq]
  generalize (lg_sl ([.ref a_o, .ref a_o_triples, .int p2, .int p3]) ++ List.replicate (4 - (lg_sl ([.ref a_o, .ref a_o_triples, .int p2, .int p3])).length) Slot.unset).toArray = ls at hl ⊢
  have hl : lv_has ls 4 [(0, .ref a_o), (1, .ref a_o_triples), (2, .int p2), (3, .int p3)] := hl
  unfold wp_X6_copy_t at h
  refine lv_aload_n hx hb dX6_copy_0 rfl (lv_at hl 0 rfl) ?_
  refine lv_iload_n hx hb dX6_copy_1 rfl (lv_at hl 3 rfl) ?_
  refine lv_aload_n hx hb dX6_copy_2 rfl (lv_at hl 1 rfl) ?_
  refine lv_iconst (v := (nI 4)) hx hb dX6_copy_3 (by decide) ?_
  refine lv_iload_n hx hb dX6_copy_4 rfl (lv_at hl 2 rfl) ?_
  refine fx_imul hx hb h dX6_copy_5 (fun v1 h => ?_)
  refine fx_iald hx hb hK hP 1 0 rfl rfl h dX6_copy_6 (fun v2 h => ?_)
  refine lv_aload_n hx hb dX6_copy_7 rfl (lv_at hl 1 rfl) ?_
  refine lv_iconst (v := (nI 4)) hx hb dX6_copy_8 (by decide) ?_
  refine lv_iload_n hx hb dX6_copy_9 rfl (lv_at hl 2 rfl) ?_
  refine fx_imul hx hb h dX6_copy_10 (fun v4 h => ?_)
  refine lv_iconst (v := (nI 1)) hx hb dX6_copy_11 (by decide) ?_
  refine fx_iadd hx hb h dX6_copy_12 (fun v5 h => ?_)
  refine fx_iald hx hb hK hP 1 0 rfl rfl h dX6_copy_13 (fun v6 h => ?_)
  refine lv_aload_n hx hb dX6_copy_14 rfl (lv_at hl 1 rfl) ?_
  refine lv_iconst (v := (nI 4)) hx hb dX6_copy_15 (by decide) ?_
  refine lv_iload_n hx hb dX6_copy_16 rfl (lv_at hl 2 rfl) ?_
  refine fx_imul hx hb h dX6_copy_17 (fun v8 h => ?_)
  refine lv_iconst (v := (nI 2)) hx hb dX6_copy_18 (by decide) ?_
  refine fx_iadd hx hb h dX6_copy_19 (fun v9 h => ?_)
  refine fx_iald hx hb hK hP 1 0 rfl rfl h dX6_copy_20 (fun v10 h => ?_)
  refine lv_aload_n hx hb dX6_copy_21 rfl (lv_at hl 1 rfl) ?_
  refine lv_iconst (v := (nI 4)) hx hb dX6_copy_22 (by decide) ?_
  refine lv_iload_n hx hb dX6_copy_23 rfl (lv_at hl 2 rfl) ?_
  refine fx_imul hx hb h dX6_copy_24 (fun v12 h => ?_)
  refine lv_iconst (v := (nI 3)) hx hb dX6_copy_25 (by decide) ?_
  refine fx_iadd hx hb h dX6_copy_26 (fun v13 h => ?_)
  refine fx_iald hx hb hK hP 1 0 rfl rfl h dX6_copy_27 (fun v14 h => ?_)
  have hFc := va_free (wc := [(a_o, .inr (5, [.ref a_o_phrases, .ref a_o_axioms, .int s_o_axiomCount, .ref a_o_triples, .int s_o_tripleCount, .ref a_o_rules, .ref a_o_instances, .ref a_o_counts, .ref a_o_premises, .int s_o_rows, .ref a_o_stated, .ref a_o_marks, .int s_o_broken, .ref a_o_text, .int s_o_size, .ref a_o_sizes, .ref a_o_places])), (a_o_stated, .inl (fx_cI X, 1204, .inl f_o_stated))]) hD hS hA [0, 2] rfl
  refine va_callv (va_runV (As := [.int p3, .int v2, .int v6, .int v10, .int v14]) (rest := []) ⟨hx, hb, hml, hown, hts⟩ (cw_X6_state l X a_o a_o_phrases a_o_axioms a_o_triples a_o_rules a_o_instances a_o_counts a_o_premises a_o_stated a_o_marks a_o_text a_o_sizes a_o_places s_o_axiomCount s_o_tripleCount s_o_rows s_o_broken s_o_size f_o_stated _ p3 v2 v6 v10 v14 _ h) (cwV 5 hts gX6_copy_X6_state rfl rfl rfl (by decide +kernel) ⟨Nat.le_of_ble_eq_true rfl, Nat.le_of_ble_eq_true rfl⟩) (fx_pvW hP hD hK hG hS hFc (va_recv hK hP (ci := 5) (q0 := 0) rfl rfl) [0, 2] (by decide) rfl) rfl rfl hl.1 rfl (lv_room (Nat.le_of_ble_eq_true rfl)) dX6_copy_28 ⟨Nat.le_of_ble_eq_true rfl, Nat.le_of_ble_eq_true rfl⟩) hS (fun q _ h => hFc q h) hFc (fun u t H locs ht hvm h hB _ hk hS => ?_)
  obtain ⟨y16, rfl⟩ : ∃ z, z = u := ⟨_, rfl⟩
  obtain ⟨hP, hD⟩ := fx_back (wr := [(a_o_triples, .inl (fx_cI X, 404, .inl f_o_triples))]) (ws' := [(a_o, .inr (5, [.ref a_o_phrases, .ref a_o_axioms, .int s_o_axiomCount, .ref a_o_triples, .int s_o_tripleCount, .ref a_o_rules, .ref a_o_instances, .ref a_o_counts, .ref a_o_premises, .int s_o_rows, .ref a_o_stated, .ref a_o_marks, .int s_o_broken, .ref a_o_text, .int s_o_size, .ref a_o_sizes, .ref a_o_places])), (a_o_triples, .inl (fx_cI X, 404, .inl f_o_triples)), (a_o_stated, .inl (fx_cI X, 1204, .inl y16))]) hP hD [0, 2] [1] rfl rfl (by decide) (by decide) hk hFc hB ht [1, 0, 2] (by decide) rfl
  exact W.vret hx hb hr (fun t ht hW => ⟨⟨y16, rfl, h, by rw [ht]; exact hP, va_K.moved hW.alike hK, hD⟩, hS.F ht⟩) hS.2.2 dX6_copy_31

/-- X6_three: its walk -/
def wp_X6_three (post : (Nat → Int32) → Prop) (f_o_rules : Nat → Int32) (f_o_premises : Nat → Int32) (f_o_stated : Nat → Int32) (p1 : Int32) (p2 : Int32) (p3 : Int32) (p4 : Int32) : Prop :=
  wp_X6_of (fun r1 => wp_X6_of (fun r2 => wp_X6_of (fun r3 => wp_X6_of (fun r4 => fx_ix p1 301 (fun k6 => fx_nm (f_o_rules k6) (fun v5 => fx_jn1 (fun (y7 : Nat → Int32) => fx_ix p1 301 (fun k10 => fx_nm (f_o_rules k10) (fun v9 => fx_jn1 (fun (y11 : Nat → Int32) => fx_ix p1 301 (fun k14 => fx_nm (f_o_rules k14) (fun v13 => fx_br (v13 = (nI 15)) (wp_X6_is (fun r15 => fx_br (r15 = 0) (post y11) (fx_br (p3 = 0) (fx_br (r3 = 0) (fx_br (p4 = r1) (wp_X6_of (fun r16 => fx_br (r4 = r16) (fx_br (p2 = r2) (wp_X6_state (fun y17 => post y17) y11 p1 (nI 12) (nI 0) (nI 0) (nI 0)) (post y11)) (post y11)) f_o_premises y11 p1 (nI 0) (nI 2)) (post y11)) (post y11)) (post y11))) f_o_premises y11 p1 (nI 0) (nI 5)) (post y11)))) (fun K12 => fx_br (v9 = (nI 14)) (wp_X6_is (fun r18 => fx_br (r18 = 0) (K12 y7) (fx_br (p3 = r1) (fx_br (r3 = r1) (fx_br (p2 = r2) (wp_X6_state (fun y19 => K12 y19) y7 p1 (nI 11) p4 (nI 1) r4) (K12 y7)) (K12 y7)) (K12 y7))) f_o_premises y7 p1 (nI 0) (nI 9)) (K12 y7))))) (fun K8 => fx_br (v5 = (nI 10)) (wp_X6_is (fun r20 => fx_br (r20 = 0) (K8 f_o_stated) (fx_br (p3 = r1) (fx_br (r3 = r1) (fx_br (p4 = r2) (wp_X6_state (fun y21 => K8 y21) f_o_stated p1 (nI 11) p2 p3 r4) (K8 f_o_stated)) (K8 f_o_stated)) (K8 f_o_stated))) f_o_premises f_o_stated p1 (nI 0) (nI 6)) (K8 f_o_stated))))) f_o_premises f_o_stated p1 (nI 2) (nI 3)) f_o_premises f_o_stated p1 (nI 2) (nI 2)) f_o_premises f_o_stated p1 (nI 2) (nI 1)) f_o_premises f_o_stated p1 (nI 0) (nI 1)
theorem im_X6_three_X6 : ∀ w ∈ u_ws RX6 TX6 17, w ∈ wsX6_three := by decide +kernel
set_option maxHeartbeats 4000000 in
set_option maxRecDepth 100000 in
theorem cw_X6_three (l : Launch) (X : fx_X) (a_o : Nat) (a_o_phrases : Nat) (a_o_axioms : Nat) (a_o_triples : Nat) (a_o_rules : Nat) (a_o_instances : Nat) (a_o_counts : Nat) (a_o_premises : Nat) (a_o_stated : Nat) (a_o_marks : Nat) (a_o_text : Nat) (a_o_sizes : Nat) (a_o_places : Nat) (s_o_axiomCount : Int32) (s_o_tripleCount : Int32) (s_o_rows : Int32) (s_o_broken : Int32) (s_o_size : Int32) (f_o_rules : Nat → Int32) (f_o_premises : Nat → Int32) (f_o_stated : Nat → Int32) (sz : Nat) (p1 : Int32) (p2 : Int32) (p3 : Int32) (p4 : Int32) (post : (Nat → Int32) → Prop) (h : wp_X6_three post f_o_rules f_o_premises f_o_stated p1 p2 p3 p4) : Met l yX6_three wsX6_three ({ frames := 2, cells := 0, slots := 0, locals := 46 }) (va_Pc [.ref a_o, .int p1, .int p2, .int p3, .int p4] (fx_PW X [(a_o, .inr (5, [.ref a_o_phrases, .ref a_o_axioms, .int s_o_axiomCount, .ref a_o_triples, .int s_o_tripleCount, .ref a_o_rules, .ref a_o_instances, .ref a_o_counts, .ref a_o_premises, .int s_o_rows, .ref a_o_stated, .ref a_o_marks, .int s_o_broken, .ref a_o_text, .int s_o_size, .ref a_o_sizes, .ref a_o_places])), (a_o_rules, .inl (fx_cI X, 301, .inl f_o_rules)), (a_o_premises, .inl (fx_cI X, 903, .inl f_o_premises)), (a_o_stated, .inl (fx_cI X, 1204, .inl f_o_stated))] sz)) (va_Qv (fun (u : (Nat → Int32)) => post u) (fun (u : (Nat → Int32)) t => fx_EW X (va_A [(a_o, .inr (5, [.ref a_o_phrases, .ref a_o_axioms, .int s_o_axiomCount, .ref a_o_triples, .int s_o_tripleCount, .ref a_o_rules, .ref a_o_instances, .ref a_o_counts, .ref a_o_premises, .int s_o_rows, .ref a_o_stated, .ref a_o_marks, .int s_o_broken, .ref a_o_text, .int s_o_size, .ref a_o_sizes, .ref a_o_places])), (a_o_rules, .inl (fx_cI X, 301, .inl f_o_rules)), (a_o_premises, .inl (fx_cI X, 903, .inl f_o_premises)), (a_o_stated, .inl (fx_cI X, 1204, .inl f_o_stated))] sz) [(a_o, .inr (5, [.ref a_o_phrases, .ref a_o_axioms, .int s_o_axiomCount, .ref a_o_triples, .int s_o_tripleCount, .ref a_o_rules, .ref a_o_instances, .ref a_o_counts, .ref a_o_premises, .int s_o_rows, .ref a_o_stated, .ref a_o_marks, .int s_o_broken, .ref a_o_text, .int s_o_size, .ref a_o_sizes, .ref a_o_places])), (a_o_rules, .inl (fx_cI X, 301, .inl f_o_rules)), (a_o_premises, .inl (fx_cI X, 903, .inl f_o_premises)), (a_o_stated, .inl (fx_cI X, 1204, .inl u))] t) (va_A [(a_o, .inr (5, [.ref a_o_phrases, .ref a_o_axioms, .int s_o_axiomCount, .ref a_o_triples, .int s_o_tripleCount, .ref a_o_rules, .ref a_o_instances, .ref a_o_counts, .ref a_o_premises, .int s_o_rows, .ref a_o_stated, .ref a_o_marks, .int s_o_broken, .ref a_o_text, .int s_o_size, .ref a_o_sizes, .ref a_o_places])), (a_o_rules, .inl (fx_cI X, 301, .inl f_o_rules)), (a_o_premises, .inl (fx_cI X, 903, .inl f_o_premises)), (a_o_stated, .inl (fx_cI X, 1204, .inl f_o_stated))] sz)) 0 0 (va_A [(a_o, .inr (5, [.ref a_o_phrases, .ref a_o_axioms, .int s_o_axiomCount, .ref a_o_triples, .int s_o_tripleCount, .ref a_o_rules, .ref a_o_instances, .ref a_o_counts, .ref a_o_premises, .int s_o_rows, .ref a_o_stated, .ref a_o_marks, .int s_o_broken, .ref a_o_text, .int s_o_size, .ref a_o_sizes, .ref a_o_places])), (a_o_rules, .inl (fx_cI X, 301, .inl f_o_rules)), (a_o_premises, .inl (fx_cI X, 903, .inl f_o_premises)), (a_o_stated, .inl (fx_cI X, 1204, .inl f_o_stated))] sz) := by
  refine Met.ofW (cc := cX6_three) (maxL := 9) (ret := none) (by decide) rfl ?_
  intro p e s m args below meth c s₁ B hml hv
  obtain ⟨rfl, hsz, hP, hK, hD0, hG⟩ := hv
  have hx := B.exec
  have hb := B.bytes
  have hr := B.returns
  have hts := atoms_spec (ws := wsX6_three) B.pre
  have hown : s.vm.findClass RX6 = some m.cls := findClass_of_methodNamed B.named
  have hlocks := B.notSynchronized
  subst hsz
  have hD := hD0.self (sz := s.heap.size)
  generalize hAe : va_A [(a_o, .inr (5, [.ref a_o_phrases, .ref a_o_axioms, .int s_o_axiomCount, .ref a_o_triples, .int s_o_tripleCount, .ref a_o_rules, .ref a_o_instances, .ref a_o_counts, .ref a_o_premises, .int s_o_rows, .ref a_o_stated, .ref a_o_marks, .int s_o_broken, .ref a_o_text, .int s_o_size, .ref a_o_sizes, .ref a_o_places])), (a_o_rules, .inl (fx_cI X, 301, .inl f_o_rules)), (a_o_premises, .inl (fx_cI X, 903, .inl f_o_premises)), (a_o_stated, .inl (fx_cI X, 1204, .inl f_o_stated))] s.heap.size = A at hD hG ⊢
  have hA : ∀ q : Nat, s.heap.size ≤ q → A q := fun q h => by rw [← hAe]; exact Or.inr h
  have hS : va_S A s.heap s.heap [] := va_S.rf
  have k128 := hts (.fieldLink RX6 128 "ProofCheckerModel" "rules" "[I") (by decide +kernel)
  have hl := lv_entry ([.ref a_o, .int p1, .int p2, .int p3, .int p4]) (n := 9) (Nat.le_of_ble_eq_true rfl)
  rw [lg_entry_eq]
  generalize (lg_sl ([.ref a_o, .int p1, .int p2, .int p3, .int p4]) ++ List.replicate (9 - (lg_sl ([.ref a_o, .int p1, .int p2, .int p3, .int p4])).length) Slot.unset).toArray = ls at hl ⊢
  have hl : lv_has ls 9 [(0, .ref a_o), (1, .int p1), (2, .int p2), (3, .int p3), (4, .int p4)] := hl
  unfold wp_X6_three at h
  refine lv_aload_n hx hb dX6_three_0 rfl (lv_at hl 0 rfl) ?_
  refine lv_iload_n hx hb dX6_three_1 rfl (lv_at hl 1 rfl) ?_
  refine lv_iconst (v := (nI 0)) hx hb dX6_three_2 (by decide) ?_
  refine lv_iconst (v := (nI 1)) hx hb dX6_three_3 (by decide) ?_
  refine vp_callSi (W.runV (As := [.int p1, .int (nI 0), .int (nI 1)]) (rest := []) ⟨hx, hb, hml, hown, hts⟩ (cw_X6_of l X a_o a_o_phrases a_o_axioms a_o_triples a_o_rules a_o_instances a_o_counts a_o_premises a_o_stated a_o_marks a_o_text a_o_sizes a_o_places s_o_axiomCount s_o_tripleCount s_o_rows s_o_broken s_o_size f_o_premises f_o_stated p1 (nI 0) (nI 1) _ h) (cwV 3 hts gX6_three_X6_of rfl rfl rfl (by decide +kernel) ⟨Nat.le_of_ble_eq_true rfl, Nat.le_of_ble_eq_true rfl⟩) (fx_pv hP hK hG hS (va_recv hK hP (ci := 5) (q0 := 0) rfl rfl) [0, 2, 3] rfl) rfl rfl hl.1 rfl (lv_room (Nat.le_of_ble_eq_true rfl)) dX6_three_4 ⟨Nat.le_of_ble_eq_true rfl, Nat.le_of_ble_eq_true rfl⟩) (fun r1 h => ?_)
  refine lv_istore (lv' := [(5, .int r1), (0, .ref a_o), (1, .int p1), (2, .int p2), (3, .int p3), (4, .int p4)]) hx hb dX6_three_7 hl (by decide) rfl (fun ls hl => ?_)
  refine lv_aload_n hx hb dX6_three_9 rfl (lv_at hl 1 rfl) ?_
  refine lv_iload_n hx hb dX6_three_10 rfl (lv_at hl 2 rfl) ?_
  refine lv_iconst (v := (nI 2)) hx hb dX6_three_11 (by decide) ?_
  refine lv_iconst (v := (nI 1)) hx hb dX6_three_12 (by decide) ?_
  refine vp_callSi (W.runV (As := [.int p1, .int (nI 2), .int (nI 1)]) (rest := []) ⟨hx, hb, hml, hown, hts⟩ (cw_X6_of l X a_o a_o_phrases a_o_axioms a_o_triples a_o_rules a_o_instances a_o_counts a_o_premises a_o_stated a_o_marks a_o_text a_o_sizes a_o_places s_o_axiomCount s_o_tripleCount s_o_rows s_o_broken s_o_size f_o_premises f_o_stated p1 (nI 2) (nI 1) _ h) (cwV 3 hts gX6_three_X6_of rfl rfl rfl (by decide +kernel) ⟨Nat.le_of_ble_eq_true rfl, Nat.le_of_ble_eq_true rfl⟩) (fx_pv hP hK hG hS (va_recv hK hP (ci := 5) (q0 := 0) rfl rfl) [0, 2, 3] rfl) rfl rfl hl.1 rfl (lv_room (Nat.le_of_ble_eq_true rfl)) dX6_three_13 ⟨Nat.le_of_ble_eq_true rfl, Nat.le_of_ble_eq_true rfl⟩) (fun r2 h => ?_)
  refine lv_istore (lv' := [(6, .int r2), (5, .int r1), (0, .ref a_o), (1, .int p1), (2, .int p2), (3, .int p3), (4, .int p4)]) hx hb dX6_three_16 hl (by decide) rfl (fun ls hl => ?_)
  refine lv_aload_n hx hb dX6_three_18 rfl (lv_at hl 2 rfl) ?_
  refine lv_iload_n hx hb dX6_three_19 rfl (lv_at hl 3 rfl) ?_
  refine lv_iconst (v := (nI 2)) hx hb dX6_three_20 (by decide) ?_
  refine lv_iconst (v := (nI 2)) hx hb dX6_three_21 (by decide) ?_
  refine vp_callSi (W.runV (As := [.int p1, .int (nI 2), .int (nI 2)]) (rest := []) ⟨hx, hb, hml, hown, hts⟩ (cw_X6_of l X a_o a_o_phrases a_o_axioms a_o_triples a_o_rules a_o_instances a_o_counts a_o_premises a_o_stated a_o_marks a_o_text a_o_sizes a_o_places s_o_axiomCount s_o_tripleCount s_o_rows s_o_broken s_o_size f_o_premises f_o_stated p1 (nI 2) (nI 2) _ h) (cwV 3 hts gX6_three_X6_of rfl rfl rfl (by decide +kernel) ⟨Nat.le_of_ble_eq_true rfl, Nat.le_of_ble_eq_true rfl⟩) (fx_pv hP hK hG hS (va_recv hK hP (ci := 5) (q0 := 0) rfl rfl) [0, 2, 3] rfl) rfl rfl hl.1 rfl (lv_room (Nat.le_of_ble_eq_true rfl)) dX6_three_22 ⟨Nat.le_of_ble_eq_true rfl, Nat.le_of_ble_eq_true rfl⟩) (fun r3 h => ?_)
  refine lv_istore (lv' := [(7, .int r3), (6, .int r2), (5, .int r1), (0, .ref a_o), (1, .int p1), (2, .int p2), (3, .int p3), (4, .int p4)]) hx hb dX6_three_25 hl (by decide) rfl (fun ls hl => ?_)
  refine lv_aload_n hx hb dX6_three_27 rfl (lv_at hl 3 rfl) ?_
  refine lv_iload_n hx hb dX6_three_28 rfl (lv_at hl 4 rfl) ?_
  refine lv_iconst (v := (nI 2)) hx hb dX6_three_29 (by decide) ?_
  refine lv_iconst (v := (nI 3)) hx hb dX6_three_30 (by decide) ?_
  refine vp_callSi (W.runV (As := [.int p1, .int (nI 2), .int (nI 3)]) (rest := []) ⟨hx, hb, hml, hown, hts⟩ (cw_X6_of l X a_o a_o_phrases a_o_axioms a_o_triples a_o_rules a_o_instances a_o_counts a_o_premises a_o_stated a_o_marks a_o_text a_o_sizes a_o_places s_o_axiomCount s_o_tripleCount s_o_rows s_o_broken s_o_size f_o_premises f_o_stated p1 (nI 2) (nI 3) _ h) (cwV 3 hts gX6_three_X6_of rfl rfl rfl (by decide +kernel) ⟨Nat.le_of_ble_eq_true rfl, Nat.le_of_ble_eq_true rfl⟩) (fx_pv hP hK hG hS (va_recv hK hP (ci := 5) (q0 := 0) rfl rfl) [0, 2, 3] rfl) rfl rfl hl.1 rfl (lv_room (Nat.le_of_ble_eq_true rfl)) dX6_three_31 ⟨Nat.le_of_ble_eq_true rfl, Nat.le_of_ble_eq_true rfl⟩) (fun r4 h => ?_)
  refine lv_istore (lv' := [(8, .int r4), (7, .int r3), (6, .int r2), (5, .int r1), (0, .ref a_o), (1, .int p1), (2, .int p2), (3, .int p3), (4, .int p4)]) hx hb dX6_three_34 hl (by decide) rfl (fun ls hl => ?_)
  refine lv_aload_n hx hb dX6_three_36 rfl (lv_at hl 4 rfl) ?_
  refine va_get (D := fx_D X) (ci := 5) (v := .ref a_o_rules) (C := RX6) (T := TX6) (N := 17) hx hb hts im_X6_three_X6 hown hK hP 0 rfl rfl 5 (by decide) k128 (fun _ h9 => h9) rfl dX6_three_37 ?_
  refine lv_iload_n hx hb dX6_three_40 rfl (lv_at hl 5 rfl) ?_
  refine fx_iald hx hb hK hP 1 0 rfl rfl h dX6_three_41 (fun v5 h => ?_)
  refine lv_bipush (v := (nI 10)) hx hb dX6_three_42 (by decide) ?_
  refine fx_join1 (G := fun (y7 : Nat → Int32) (R : Room) (av : Array Value) (Q : State → Prop) => ∀ (H : Heap) (locs : List Loc) (ls : Array Slot), va_P (fx_D X) vwCl [(a_o, .inr (5, [.ref a_o_phrases, .ref a_o_axioms, .int s_o_axiomCount, .ref a_o_triples, .int s_o_tripleCount, .ref a_o_rules, .ref a_o_instances, .ref a_o_counts, .ref a_o_premises, .int s_o_rows, .ref a_o_stated, .ref a_o_marks, .int s_o_broken, .ref a_o_text, .int s_o_size, .ref a_o_sizes, .ref a_o_places])), (a_o_rules, .inl (fx_cI X, 301, .inl f_o_rules)), (a_o_premises, .inl (fx_cI X, 903, .inl f_o_premises)), (a_o_stated, .inl (fx_cI X, 1204, .inl y7))] H → va_D A [(a_o, .inr (5, [.ref a_o_phrases, .ref a_o_axioms, .int s_o_axiomCount, .ref a_o_triples, .int s_o_tripleCount, .ref a_o_rules, .ref a_o_instances, .ref a_o_counts, .ref a_o_premises, .int s_o_rows, .ref a_o_stated, .ref a_o_marks, .int s_o_broken, .ref a_o_text, .int s_o_size, .ref a_o_sizes, .ref a_o_places])), (a_o_rules, .inl (fx_cI X, 301, .inl f_o_rules)), (a_o_premises, .inl (fx_cI X, 903, .inl f_o_premises)), (a_o_stated, .inl (fx_cI X, 1204, .inl y7))] → va_S A s.heap H locs → lv_has ls 9 [(8, .int r4), (7, .int r3), (6, .int r2), (5, .int r1), (0, .ref a_o), (1, .int p1), (2, .int p2), (3, .int p3), (4, .int p4)] → W p l e R s m av below meth c H locs 0 0 Q (F0 m 89 ls [])) h (fun y7 h => ?_) (fun K8 hK8 h => ?_)
  · intro H locs ls hP hD hS hl
    refine lv_aload_n hx hb dX6_three_89 rfl (lv_at hl 4 rfl) ?_
    refine va_get (D := fx_D X) (ci := 5) (v := .ref a_o_rules) (C := RX6) (T := TX6) (N := 17) hx hb hts im_X6_three_X6 hown hK hP 0 rfl rfl 5 (by decide) k128 (fun _ h9 => h9) rfl dX6_three_90 ?_
    refine lv_iload_n hx hb dX6_three_93 rfl (lv_at hl 5 rfl) ?_
    refine fx_iald hx hb hK hP 1 0 rfl rfl h dX6_three_94 (fun v9 h => ?_)
    refine lv_bipush (v := (nI 14)) hx hb dX6_three_95 (by decide) ?_
    refine fx_join1 (G := fun (y11 : Nat → Int32) (R : Room) (av : Array Value) (Q : State → Prop) => ∀ (H : Heap) (locs : List Loc) (ls : Array Slot), va_P (fx_D X) vwCl [(a_o, .inr (5, [.ref a_o_phrases, .ref a_o_axioms, .int s_o_axiomCount, .ref a_o_triples, .int s_o_tripleCount, .ref a_o_rules, .ref a_o_instances, .ref a_o_counts, .ref a_o_premises, .int s_o_rows, .ref a_o_stated, .ref a_o_marks, .int s_o_broken, .ref a_o_text, .int s_o_size, .ref a_o_sizes, .ref a_o_places])), (a_o_rules, .inl (fx_cI X, 301, .inl f_o_rules)), (a_o_premises, .inl (fx_cI X, 903, .inl f_o_premises)), (a_o_stated, .inl (fx_cI X, 1204, .inl y11))] H → va_D A [(a_o, .inr (5, [.ref a_o_phrases, .ref a_o_axioms, .int s_o_axiomCount, .ref a_o_triples, .int s_o_tripleCount, .ref a_o_rules, .ref a_o_instances, .ref a_o_counts, .ref a_o_premises, .int s_o_rows, .ref a_o_stated, .ref a_o_marks, .int s_o_broken, .ref a_o_text, .int s_o_size, .ref a_o_sizes, .ref a_o_places])), (a_o_rules, .inl (fx_cI X, 301, .inl f_o_rules)), (a_o_premises, .inl (fx_cI X, 903, .inl f_o_premises)), (a_o_stated, .inl (fx_cI X, 1204, .inl y11))] → va_S A s.heap H locs → lv_has ls 9 [(8, .int r4), (7, .int r3), (6, .int r2), (5, .int r1), (0, .ref a_o), (1, .int p1), (2, .int p2), (3, .int p3), (4, .int p4)] → W p l e R s m av below meth c H locs 0 0 Q (F0 m 142 ls [])) h (fun y11 h => ?_) (fun K12 hK12 h => ?_)
    · intro H locs ls hP hD hS hl
      refine lv_aload_n hx hb dX6_three_142 rfl (lv_at hl 4 rfl) ?_
      refine va_get (D := fx_D X) (ci := 5) (v := .ref a_o_rules) (C := RX6) (T := TX6) (N := 17) hx hb hts im_X6_three_X6 hown hK hP 0 rfl rfl 5 (by decide) k128 (fun _ h9 => h9) rfl dX6_three_143 ?_
      refine lv_iload_n hx hb dX6_three_146 rfl (lv_at hl 5 rfl) ?_
      refine fx_iald hx hb hK hP 1 0 rfl rfl h dX6_three_147 (fun v13 h => ?_)
      refine lv_bipush (v := (nI 15)) hx hb dX6_three_148 (by decide) ?_
      refine fx_icmp_ne (tgt := 207) hx hb h dX6_three_150 (by decide) (fun h => ?_) (fun h => ?_)
      · exact W.vret hx hb hr (fun t ht hW => ⟨⟨y11, rfl, h, by rw [ht]; exact hP, va_K.moved hW.alike hK, hD⟩, hS.F ht⟩) hS.2.2 dX6_three_207
      refine lv_aload_n hx hb dX6_three_153 rfl (lv_at hl 4 rfl) ?_
      refine lv_iload_n hx hb dX6_three_154 rfl (lv_at hl 5 rfl) ?_
      refine lv_iconst (v := (nI 0)) hx hb dX6_three_155 (by decide) ?_
      refine lv_iconst (v := (nI 5)) hx hb dX6_three_156 (by decide) ?_
      refine vp_callSi (W.runV (As := [.int p1, .int (nI 0), .int (nI 5)]) (rest := []) ⟨hx, hb, hml, hown, hts⟩ (cw_X6_is l X a_o a_o_phrases a_o_axioms a_o_triples a_o_rules a_o_instances a_o_counts a_o_premises a_o_stated a_o_marks a_o_text a_o_sizes a_o_places s_o_axiomCount s_o_tripleCount s_o_rows s_o_broken s_o_size f_o_premises y11 p1 (nI 0) (nI 5) _ h) (cwV 3 hts gX6_three_X6_is rfl rfl rfl (by decide +kernel) ⟨Nat.le_of_ble_eq_true rfl, Nat.le_of_ble_eq_true rfl⟩) (fx_pv hP hK hG hS (va_recv hK hP (ci := 5) (q0 := 0) rfl rfl) [0, 2, 3] rfl) rfl rfl hl.1 rfl (lv_room (Nat.le_of_ble_eq_true rfl)) dX6_three_157 ⟨Nat.le_of_ble_eq_true rfl, Nat.le_of_ble_eq_true rfl⟩) (fun r15 h => ?_)
      refine fx_if_eq (tgt := 207) hx hb h dX6_three_160 (by decide) (fun h => ?_) (fun h => ?_)
      · exact W.vret hx hb hr (fun t ht hW => ⟨⟨y11, rfl, h, by rw [ht]; exact hP, va_K.moved hW.alike hK, hD⟩, hS.F ht⟩) hS.2.2 dX6_three_207
      refine lv_iload_n hx hb dX6_three_163 rfl (lv_at hl 7 rfl) ?_
      refine fx_if_ne (tgt := 207) hx hb h dX6_three_164 (by decide) (fun h => ?_) (fun h => ?_)
      · exact W.vret hx hb hr (fun t ht hW => ⟨⟨y11, rfl, h, by rw [ht]; exact hP, va_K.moved hW.alike hK, hD⟩, hS.F ht⟩) hS.2.2 dX6_three_207
      refine lv_iload hx hb dX6_three_167 (lv_at hl 1 rfl) ?_
      refine fx_if_ne (tgt := 207) hx hb h dX6_three_169 (by decide) (fun h => ?_) (fun h => ?_)
      · exact W.vret hx hb hr (fun t ht hW => ⟨⟨y11, rfl, h, by rw [ht]; exact hP, va_K.moved hW.alike hK, hD⟩, hS.F ht⟩) hS.2.2 dX6_three_207
      refine lv_iload hx hb dX6_three_172 (lv_at hl 8 rfl) ?_
      refine lv_iload hx hb dX6_three_174 (lv_at hl 3 rfl) ?_
      refine fx_icmp_ne (tgt := 207) hx hb h dX6_three_176 (by decide) (fun h => ?_) (fun h => ?_)
      · exact W.vret hx hb hr (fun t ht hW => ⟨⟨y11, rfl, h, by rw [ht]; exact hP, va_K.moved hW.alike hK, hD⟩, hS.F ht⟩) hS.2.2 dX6_three_207
      refine lv_iload hx hb dX6_three_179 (lv_at hl 0 rfl) ?_
      refine lv_aload_n hx hb dX6_three_181 rfl (lv_at hl 4 rfl) ?_
      refine lv_iload_n hx hb dX6_three_182 rfl (lv_at hl 5 rfl) ?_
      refine lv_iconst (v := (nI 0)) hx hb dX6_three_183 (by decide) ?_
      refine lv_iconst (v := (nI 2)) hx hb dX6_three_184 (by decide) ?_
      refine vp_callSi (W.runV (As := [.int p1, .int (nI 0), .int (nI 2)]) (rest := [.int r4]) ⟨hx, hb, hml, hown, hts⟩ (cw_X6_of l X a_o a_o_phrases a_o_axioms a_o_triples a_o_rules a_o_instances a_o_counts a_o_premises a_o_stated a_o_marks a_o_text a_o_sizes a_o_places s_o_axiomCount s_o_tripleCount s_o_rows s_o_broken s_o_size f_o_premises y11 p1 (nI 0) (nI 2) _ h) (cwV 3 hts gX6_three_X6_of rfl rfl rfl (by decide +kernel) ⟨Nat.le_of_ble_eq_true rfl, Nat.le_of_ble_eq_true rfl⟩) (fx_pv hP hK hG hS (va_recv hK hP (ci := 5) (q0 := 0) rfl rfl) [0, 2, 3] rfl) rfl rfl hl.1 rfl (lv_room (Nat.le_of_ble_eq_true rfl)) dX6_three_185 ⟨Nat.le_of_ble_eq_true rfl, Nat.le_of_ble_eq_true rfl⟩) (fun r16 h => ?_)
      refine fx_icmp_ne (tgt := 207) hx hb h dX6_three_188 (by decide) (fun h => ?_) (fun h => ?_)
      · exact W.vret hx hb hr (fun t ht hW => ⟨⟨y11, rfl, h, by rw [ht]; exact hP, va_K.moved hW.alike hK, hD⟩, hS.F ht⟩) hS.2.2 dX6_three_207
      refine lv_iload_n hx hb dX6_three_191 rfl (lv_at hl 6 rfl) ?_
      refine lv_iload hx hb dX6_three_192 (lv_at hl 2 rfl) ?_
      refine fx_icmp_ne (tgt := 207) hx hb h dX6_three_194 (by decide) (fun h => ?_) (fun h => ?_)
      · exact W.vret hx hb hr (fun t ht hW => ⟨⟨y11, rfl, h, by rw [ht]; exact hP, va_K.moved hW.alike hK, hD⟩, hS.F ht⟩) hS.2.2 dX6_three_207
      refine lv_aload_n hx hb dX6_three_197 rfl (lv_at hl 4 rfl) ?_
      refine lv_iload_n hx hb dX6_three_198 rfl (lv_at hl 5 rfl) ?_
      refine lv_bipush (v := (nI 12)) hx hb dX6_three_199 (by decide) ?_
      refine lv_iconst (v := (nI 0)) hx hb dX6_three_201 (by decide) ?_
      refine lv_iconst (v := (nI 0)) hx hb dX6_three_202 (by decide) ?_
      refine lv_iconst (v := (nI 0)) hx hb dX6_three_203 (by decide) ?_
      have hFc := va_free (wc := [(a_o, .inr (5, [.ref a_o_phrases, .ref a_o_axioms, .int s_o_axiomCount, .ref a_o_triples, .int s_o_tripleCount, .ref a_o_rules, .ref a_o_instances, .ref a_o_counts, .ref a_o_premises, .int s_o_rows, .ref a_o_stated, .ref a_o_marks, .int s_o_broken, .ref a_o_text, .int s_o_size, .ref a_o_sizes, .ref a_o_places])), (a_o_stated, .inl (fx_cI X, 1204, .inl y11))]) hD hS hA [0, 3] rfl
      refine va_callv (va_runV (As := [.int p1, .int (nI 12), .int (nI 0), .int (nI 0), .int (nI 0)]) (rest := []) ⟨hx, hb, hml, hown, hts⟩ (cw_X6_state l X a_o a_o_phrases a_o_axioms a_o_triples a_o_rules a_o_instances a_o_counts a_o_premises a_o_stated a_o_marks a_o_text a_o_sizes a_o_places s_o_axiomCount s_o_tripleCount s_o_rows s_o_broken s_o_size y11 _ p1 (nI 12) (nI 0) (nI 0) (nI 0) _ h) (cwV 5 hts gX6_three_X6_state rfl rfl rfl (by decide +kernel) ⟨Nat.le_of_ble_eq_true rfl, Nat.le_of_ble_eq_true rfl⟩) (fx_pvW hP hD hK hG hS hFc (va_recv hK hP (ci := 5) (q0 := 0) rfl rfl) [0, 3] (by decide) rfl) rfl rfl hl.1 rfl (lv_room (Nat.le_of_ble_eq_true rfl)) dX6_three_204 ⟨Nat.le_of_ble_eq_true rfl, Nat.le_of_ble_eq_true rfl⟩) hS (fun q _ h => hFc q h) hFc (fun u t H locs ht hvm h hB _ hk hS => ?_)
      obtain ⟨y17, rfl⟩ : ∃ z, z = u := ⟨_, rfl⟩
      obtain ⟨hP, hD⟩ := fx_back (wr := [(a_o_rules, .inl (fx_cI X, 301, .inl f_o_rules)), (a_o_premises, .inl (fx_cI X, 903, .inl f_o_premises))]) (ws' := [(a_o, .inr (5, [.ref a_o_phrases, .ref a_o_axioms, .int s_o_axiomCount, .ref a_o_triples, .int s_o_tripleCount, .ref a_o_rules, .ref a_o_instances, .ref a_o_counts, .ref a_o_premises, .int s_o_rows, .ref a_o_stated, .ref a_o_marks, .int s_o_broken, .ref a_o_text, .int s_o_size, .ref a_o_sizes, .ref a_o_places])), (a_o_rules, .inl (fx_cI X, 301, .inl f_o_rules)), (a_o_premises, .inl (fx_cI X, 903, .inl f_o_premises)), (a_o_stated, .inl (fx_cI X, 1204, .inl y17))]) hP hD [0, 3] [1, 2] rfl rfl (by decide) (by decide) hk hFc hB ht [2, 0, 1, 3] (by decide) rfl
      exact W.vret hx hb hr (fun t ht hW => ⟨⟨y17, rfl, h, by rw [ht]; exact hP, va_K.moved hW.alike hK, hD⟩, hS.F ht⟩) hS.2.2 dX6_three_207
    refine fx_icmp_ne (tgt := 142) hx hb h dX6_three_97 (by decide) (fun h => ?_) (fun h => ?_)
    · exact hK12 _ h _ _ _ hP hD hS (lv_sub hl [0, 1, 2, 3, 4, 5, 6, 7, 8] rfl)
    refine lv_aload_n hx hb dX6_three_100 rfl (lv_at hl 4 rfl) ?_
    refine lv_iload_n hx hb dX6_three_101 rfl (lv_at hl 5 rfl) ?_
    refine lv_iconst (v := (nI 0)) hx hb dX6_three_102 (by decide) ?_
    refine lv_bipush (v := (nI 9)) hx hb dX6_three_103 (by decide) ?_
    refine vp_callSi (W.runV (As := [.int p1, .int (nI 0), .int (nI 9)]) (rest := []) ⟨hx, hb, hml, hown, hts⟩ (cw_X6_is l X a_o a_o_phrases a_o_axioms a_o_triples a_o_rules a_o_instances a_o_counts a_o_premises a_o_stated a_o_marks a_o_text a_o_sizes a_o_places s_o_axiomCount s_o_tripleCount s_o_rows s_o_broken s_o_size f_o_premises y7 p1 (nI 0) (nI 9) _ h) (cwV 3 hts gX6_three_X6_is rfl rfl rfl (by decide +kernel) ⟨Nat.le_of_ble_eq_true rfl, Nat.le_of_ble_eq_true rfl⟩) (fx_pv hP hK hG hS (va_recv hK hP (ci := 5) (q0 := 0) rfl rfl) [0, 2, 3] rfl) rfl rfl hl.1 rfl (lv_room (Nat.le_of_ble_eq_true rfl)) dX6_three_105 ⟨Nat.le_of_ble_eq_true rfl, Nat.le_of_ble_eq_true rfl⟩) (fun r18 h => ?_)
    refine fx_if_eq (tgt := 142) hx hb h dX6_three_108 (by decide) (fun h => ?_) (fun h => ?_)
    · exact hK12 _ h _ _ _ hP hD hS (lv_sub hl [0, 1, 2, 3, 4, 5, 6, 7, 8] rfl)
    refine lv_iload_n hx hb dX6_three_111 rfl (lv_at hl 7 rfl) ?_
    refine lv_iload hx hb dX6_three_112 (lv_at hl 3 rfl) ?_
    refine fx_icmp_ne (tgt := 142) hx hb h dX6_three_114 (by decide) (fun h => ?_) (fun h => ?_)
    · exact hK12 _ h _ _ _ hP hD hS (lv_sub hl [0, 1, 2, 3, 4, 5, 6, 7, 8] rfl)
    refine lv_iload hx hb dX6_three_117 (lv_at hl 1 rfl) ?_
    refine lv_iload hx hb dX6_three_119 (lv_at hl 3 rfl) ?_
    refine fx_icmp_ne (tgt := 142) hx hb h dX6_three_121 (by decide) (fun h => ?_) (fun h => ?_)
    · exact hK12 _ h _ _ _ hP hD hS (lv_sub hl [0, 1, 2, 3, 4, 5, 6, 7, 8] rfl)
    refine lv_iload_n hx hb dX6_three_124 rfl (lv_at hl 6 rfl) ?_
    refine lv_iload hx hb dX6_three_125 (lv_at hl 2 rfl) ?_
    refine fx_icmp_ne (tgt := 142) hx hb h dX6_three_127 (by decide) (fun h => ?_) (fun h => ?_)
    · exact hK12 _ h _ _ _ hP hD hS (lv_sub hl [0, 1, 2, 3, 4, 5, 6, 7, 8] rfl)
    refine lv_aload_n hx hb dX6_three_130 rfl (lv_at hl 4 rfl) ?_
    refine lv_iload_n hx hb dX6_three_131 rfl (lv_at hl 5 rfl) ?_
    refine lv_bipush (v := (nI 11)) hx hb dX6_three_132 (by decide) ?_
    refine lv_iload hx hb dX6_three_134 (lv_at hl 8 rfl) ?_
    refine lv_iconst (v := (nI 1)) hx hb dX6_three_136 (by decide) ?_
    refine lv_iload hx hb dX6_three_137 (lv_at hl 0 rfl) ?_
    have hFc := va_free (wc := [(a_o, .inr (5, [.ref a_o_phrases, .ref a_o_axioms, .int s_o_axiomCount, .ref a_o_triples, .int s_o_tripleCount, .ref a_o_rules, .ref a_o_instances, .ref a_o_counts, .ref a_o_premises, .int s_o_rows, .ref a_o_stated, .ref a_o_marks, .int s_o_broken, .ref a_o_text, .int s_o_size, .ref a_o_sizes, .ref a_o_places])), (a_o_stated, .inl (fx_cI X, 1204, .inl y7))]) hD hS hA [0, 3] rfl
    refine va_callv (va_runV (As := [.int p1, .int (nI 11), .int p4, .int (nI 1), .int r4]) (rest := []) ⟨hx, hb, hml, hown, hts⟩ (cw_X6_state l X a_o a_o_phrases a_o_axioms a_o_triples a_o_rules a_o_instances a_o_counts a_o_premises a_o_stated a_o_marks a_o_text a_o_sizes a_o_places s_o_axiomCount s_o_tripleCount s_o_rows s_o_broken s_o_size y7 _ p1 (nI 11) p4 (nI 1) r4 _ h) (cwV 5 hts gX6_three_X6_state rfl rfl rfl (by decide +kernel) ⟨Nat.le_of_ble_eq_true rfl, Nat.le_of_ble_eq_true rfl⟩) (fx_pvW hP hD hK hG hS hFc (va_recv hK hP (ci := 5) (q0 := 0) rfl rfl) [0, 3] (by decide) rfl) rfl rfl hl.1 rfl (lv_room (Nat.le_of_ble_eq_true rfl)) dX6_three_139 ⟨Nat.le_of_ble_eq_true rfl, Nat.le_of_ble_eq_true rfl⟩) hS (fun q _ h => hFc q h) hFc (fun u t H locs ht hvm h hB _ hk hS => ?_)
    obtain ⟨y19, rfl⟩ : ∃ z, z = u := ⟨_, rfl⟩
    obtain ⟨hP, hD⟩ := fx_back (wr := [(a_o_rules, .inl (fx_cI X, 301, .inl f_o_rules)), (a_o_premises, .inl (fx_cI X, 903, .inl f_o_premises))]) (ws' := [(a_o, .inr (5, [.ref a_o_phrases, .ref a_o_axioms, .int s_o_axiomCount, .ref a_o_triples, .int s_o_tripleCount, .ref a_o_rules, .ref a_o_instances, .ref a_o_counts, .ref a_o_premises, .int s_o_rows, .ref a_o_stated, .ref a_o_marks, .int s_o_broken, .ref a_o_text, .int s_o_size, .ref a_o_sizes, .ref a_o_places])), (a_o_rules, .inl (fx_cI X, 301, .inl f_o_rules)), (a_o_premises, .inl (fx_cI X, 903, .inl f_o_premises)), (a_o_stated, .inl (fx_cI X, 1204, .inl y19))]) hP hD [0, 3] [1, 2] rfl rfl (by decide) (by decide) hk hFc hB ht [2, 0, 1, 3] (by decide) rfl
    exact hK12 _ h _ _ _ hP hD hS (lv_sub hl [0, 1, 2, 3, 4, 5, 6, 7, 8] rfl)
  refine fx_icmp_ne (tgt := 89) hx hb h dX6_three_44 (by decide) (fun h => ?_) (fun h => ?_)
  · exact hK8 _ h _ _ _ hP hD hS (lv_sub hl [0, 1, 2, 3, 4, 5, 6, 7, 8] rfl)
  refine lv_aload_n hx hb dX6_three_47 rfl (lv_at hl 4 rfl) ?_
  refine lv_iload_n hx hb dX6_three_48 rfl (lv_at hl 5 rfl) ?_
  refine lv_iconst (v := (nI 0)) hx hb dX6_three_49 (by decide) ?_
  refine lv_bipush (v := (nI 6)) hx hb dX6_three_50 (by decide) ?_
  refine vp_callSi (W.runV (As := [.int p1, .int (nI 0), .int (nI 6)]) (rest := []) ⟨hx, hb, hml, hown, hts⟩ (cw_X6_is l X a_o a_o_phrases a_o_axioms a_o_triples a_o_rules a_o_instances a_o_counts a_o_premises a_o_stated a_o_marks a_o_text a_o_sizes a_o_places s_o_axiomCount s_o_tripleCount s_o_rows s_o_broken s_o_size f_o_premises f_o_stated p1 (nI 0) (nI 6) _ h) (cwV 3 hts gX6_three_X6_is rfl rfl rfl (by decide +kernel) ⟨Nat.le_of_ble_eq_true rfl, Nat.le_of_ble_eq_true rfl⟩) (fx_pv hP hK hG hS (va_recv hK hP (ci := 5) (q0 := 0) rfl rfl) [0, 2, 3] rfl) rfl rfl hl.1 rfl (lv_room (Nat.le_of_ble_eq_true rfl)) dX6_three_52 ⟨Nat.le_of_ble_eq_true rfl, Nat.le_of_ble_eq_true rfl⟩) (fun r20 h => ?_)
  refine fx_if_eq (tgt := 89) hx hb h dX6_three_55 (by decide) (fun h => ?_) (fun h => ?_)
  · exact hK8 _ h _ _ _ hP hD hS (lv_sub hl [0, 1, 2, 3, 4, 5, 6, 7, 8] rfl)
  refine lv_iload_n hx hb dX6_three_58 rfl (lv_at hl 7 rfl) ?_
  refine lv_iload hx hb dX6_three_59 (lv_at hl 3 rfl) ?_
  refine fx_icmp_ne (tgt := 89) hx hb h dX6_three_61 (by decide) (fun h => ?_) (fun h => ?_)
  · exact hK8 _ h _ _ _ hP hD hS (lv_sub hl [0, 1, 2, 3, 4, 5, 6, 7, 8] rfl)
  refine lv_iload hx hb dX6_three_64 (lv_at hl 1 rfl) ?_
  refine lv_iload hx hb dX6_three_66 (lv_at hl 3 rfl) ?_
  refine fx_icmp_ne (tgt := 89) hx hb h dX6_three_68 (by decide) (fun h => ?_) (fun h => ?_)
  · exact hK8 _ h _ _ _ hP hD hS (lv_sub hl [0, 1, 2, 3, 4, 5, 6, 7, 8] rfl)
  refine lv_iload hx hb dX6_three_71 (lv_at hl 8 rfl) ?_
  refine lv_iload hx hb dX6_three_73 (lv_at hl 2 rfl) ?_
  refine fx_icmp_ne (tgt := 89) hx hb h dX6_three_75 (by decide) (fun h => ?_) (fun h => ?_)
  · exact hK8 _ h _ _ _ hP hD hS (lv_sub hl [0, 1, 2, 3, 4, 5, 6, 7, 8] rfl)
  refine lv_aload_n hx hb dX6_three_78 rfl (lv_at hl 4 rfl) ?_
  refine lv_iload_n hx hb dX6_three_79 rfl (lv_at hl 5 rfl) ?_
  refine lv_bipush (v := (nI 11)) hx hb dX6_three_80 (by decide) ?_
  refine lv_iload_n hx hb dX6_three_82 rfl (lv_at hl 6 rfl) ?_
  refine lv_iload_n hx hb dX6_three_83 rfl (lv_at hl 7 rfl) ?_
  refine lv_iload hx hb dX6_three_84 (lv_at hl 0 rfl) ?_
  have hFc := va_free (wc := [(a_o, .inr (5, [.ref a_o_phrases, .ref a_o_axioms, .int s_o_axiomCount, .ref a_o_triples, .int s_o_tripleCount, .ref a_o_rules, .ref a_o_instances, .ref a_o_counts, .ref a_o_premises, .int s_o_rows, .ref a_o_stated, .ref a_o_marks, .int s_o_broken, .ref a_o_text, .int s_o_size, .ref a_o_sizes, .ref a_o_places])), (a_o_stated, .inl (fx_cI X, 1204, .inl f_o_stated))]) hD hS hA [0, 3] rfl
  refine va_callv (va_runV (As := [.int p1, .int (nI 11), .int p2, .int p3, .int r4]) (rest := []) ⟨hx, hb, hml, hown, hts⟩ (cw_X6_state l X a_o a_o_phrases a_o_axioms a_o_triples a_o_rules a_o_instances a_o_counts a_o_premises a_o_stated a_o_marks a_o_text a_o_sizes a_o_places s_o_axiomCount s_o_tripleCount s_o_rows s_o_broken s_o_size f_o_stated _ p1 (nI 11) p2 p3 r4 _ h) (cwV 5 hts gX6_three_X6_state rfl rfl rfl (by decide +kernel) ⟨Nat.le_of_ble_eq_true rfl, Nat.le_of_ble_eq_true rfl⟩) (fx_pvW hP hD hK hG hS hFc (va_recv hK hP (ci := 5) (q0 := 0) rfl rfl) [0, 3] (by decide) rfl) rfl rfl hl.1 rfl (lv_room (Nat.le_of_ble_eq_true rfl)) dX6_three_86 ⟨Nat.le_of_ble_eq_true rfl, Nat.le_of_ble_eq_true rfl⟩) hS (fun q _ h => hFc q h) hFc (fun u t H locs ht hvm h hB _ hk hS => ?_)
  obtain ⟨y21, rfl⟩ : ∃ z, z = u := ⟨_, rfl⟩
  obtain ⟨hP, hD⟩ := fx_back (wr := [(a_o_rules, .inl (fx_cI X, 301, .inl f_o_rules)), (a_o_premises, .inl (fx_cI X, 903, .inl f_o_premises))]) (ws' := [(a_o, .inr (5, [.ref a_o_phrases, .ref a_o_axioms, .int s_o_axiomCount, .ref a_o_triples, .int s_o_tripleCount, .ref a_o_rules, .ref a_o_instances, .ref a_o_counts, .ref a_o_premises, .int s_o_rows, .ref a_o_stated, .ref a_o_marks, .int s_o_broken, .ref a_o_text, .int s_o_size, .ref a_o_sizes, .ref a_o_places])), (a_o_rules, .inl (fx_cI X, 301, .inl f_o_rules)), (a_o_premises, .inl (fx_cI X, 903, .inl f_o_premises)), (a_o_stated, .inl (fx_cI X, 1204, .inl y21))]) hP hD [0, 3] [1, 2] rfl rfl (by decide) (by decide) hk hFc hB ht [2, 0, 1, 3] (by decide) rfl
  exact hK8 _ h _ _ _ hP hD hS (lv_sub hl [0, 1, 2, 3, 4, 5, 6, 7, 8] rfl)

/-- X6_chain: its walk -/
def wp_X6_chain (post : (Nat → Int32) → Prop) (f_o_triples : Nat → Int32) (f_o_rules : Nat → Int32) (f_o_instances : Nat → Int32) (f_o_counts : Nat → Int32) (f_o_premises : Nat → Int32) (f_o_stated : Nat → Int32) (p1 : Int32) : Prop :=
  fx_ix p1 301 (fun k2 => fx_nm (f_o_counts k2) (fun v1 => fx_jn1 (fun (x3 : Int32) => fx_ix p1 301 (fun k6 => fx_nm (f_o_counts k6) (fun v5 => fx_jn1 (fun (x7 : Int32) => fx_ix p1 301 (fun k10 => fx_nm (f_o_counts k10) (fun v9 => fx_jn1 (fun (x11 : Int32) => fx_ix p1 301 (fun k14 => fx_nm (f_o_counts k14) (fun v13 => fx_jn1 (fun (x15 : Int32) => wp_X6_of (fun r17 => wp_X6_of (fun r18 => fx_ix p1 301 (fun k20 => fx_nm (f_o_rules k20) (fun v19 => fx_br (v19 = (nI 3)) (fx_ix p1 301 (fun k22 => fx_nm (f_o_rules k22) (fun v21 => fx_nm (v21 - (nI 2)) (fun v23 => wp_X6_is (fun r24 => fx_br (r24 = 0) (post f_o_stated) (wp_X6_is (fun r25 => fx_br (r25 = 0) (post f_o_stated) (fx_br (r18 = x7) (wp_X6_state (fun y26 => post y26) f_o_stated p1 v23 r17 x11 (nI 0)) (post f_o_stated))) f_o_premises f_o_stated p1 (nI 1) v23)) f_o_premises f_o_stated p1 (nI 0) v23)))) (fx_br (v19 = (nI 4)) (fx_ix p1 301 (fun k28 => fx_nm (f_o_rules k28) (fun v27 => fx_nm (v27 - (nI 2)) (fun v29 => wp_X6_is (fun r30 => fx_br (r30 = 0) (post f_o_stated) (wp_X6_is (fun r31 => fx_br (r31 = 0) (post f_o_stated) (fx_br (r18 = x7) (wp_X6_state (fun y32 => post y32) f_o_stated p1 v29 r17 x11 (nI 0)) (post f_o_stated))) f_o_premises f_o_stated p1 (nI 1) v29)) f_o_premises f_o_stated p1 (nI 0) v29)))) (fx_br (v19 = (nI 5)) (wp_X6_is (fun r33 => fx_br (r33 = 0) (post f_o_stated) (fx_br (x3 = 0) (post f_o_stated) (fx_br (x11 = 0) (fx_br (x15 = r17) (wp_X6_state (fun y34 => post y34) f_o_stated p1 (nI 11) x7 (nI 0) r18) (post f_o_stated)) (post f_o_stated)))) f_o_premises f_o_stated p1 (nI 0) (nI 1)) (fx_br (v19 = (nI 6)) (wp_X6_is (fun r35 => fx_br (r35 = 0) (post f_o_stated) (fx_br (x3 = 0) (post f_o_stated) (fx_br (x11 = r17) (wp_X6_state (fun y36 => post y36) f_o_stated p1 (nI 11) x7 r18 x15) (post f_o_stated)))) f_o_premises f_o_stated p1 (nI 0) (nI 2)) (fx_br (v19 = (nI 7)) (wp_X6_is (fun r37 => fx_br (r37 = 0) (post f_o_stated) (fx_br (x3 = 0) (post f_o_stated) (fx_br (x11 = r17) (wp_X6_state (fun y38 => post y38) f_o_stated p1 (nI 11) x7 (nI 0) r18) (post f_o_stated)))) f_o_premises f_o_stated p1 (nI 0) (nI 3)) (fx_br (v19 = (nI 8)) (wp_X6_is (fun r39 => fx_br (r39 = 0) (post f_o_stated) (fx_br (x3 = 0) (post f_o_stated) (fx_br (x11 = r17) (wp_X6_state (fun y40 => post y40) f_o_stated p1 (nI 11) x15 (nI 0) r18) (post f_o_stated)))) f_o_premises f_o_stated p1 (nI 0) (nI 4)) (fx_br (v19 = (nI 9)) (wp_X6_is (fun r41 => fx_br (r41 = 0) (post f_o_stated) (fx_br (x3 = 0) (post f_o_stated) (fx_br (x11 = r17) (wp_X6_state (fun y42 => post y42) f_o_stated p1 (nI 11) x15 x11 x7) (post f_o_stated)))) f_o_premises f_o_stated p1 (nI 0) (nI 7)) (fx_br (v19 = (nI 10)) (fx_br (x3 = 0) (post f_o_stated) (wp_X6_is (fun r43 => fx_br (r43 = 0) (post f_o_stated) (wp_X6_three (fun y44 => post y44) f_o_rules f_o_premises f_o_stated p1 x7 x11 x15)) f_o_premises f_o_stated p1 (nI 2) (nI 11))) (fx_br (v19 = (nI 11)) (wp_X6_is (fun r45 => fx_br (r45 = 0) (post f_o_stated) (fx_br (x3 = 0) (post f_o_stated) (fx_br (x11 = r17) (wp_X6_state (fun y46 => post y46) f_o_stated p1 (nI 11) x15 r18 x7) (post f_o_stated)))) f_o_premises f_o_stated p1 (nI 0) (nI 8)) (fx_br (v19 = (nI 12)) (wp_X6_is (fun r47 => fx_br (r47 = 0) (post f_o_stated) (fx_br (r18 = (nI 1)) (wp_X6_of (fun r48 => wp_X6_state (fun y49 => post y49) f_o_stated p1 (nI 11) r48 (nI 1) r17) f_o_premises f_o_stated p1 (nI 0) (nI 3)) (post f_o_stated))) f_o_premises f_o_stated p1 (nI 0) (nI 11)) (fx_br (v19 = (nI 13)) (wp_X6_is (fun r50 => fx_br (r50 = 0) (post f_o_stated) (fx_br (r18 = (nI 1)) (fx_br (x3 = 0) (post f_o_stated) (fx_br (x7 = r17) (wp_X6_of (fun r51 => wp_X6_state (fun y52 => post y52) f_o_stated p1 (nI 11) r51 x11 x15) f_o_premises f_o_stated p1 (nI 0) (nI 3)) (post f_o_stated))) (post f_o_stated))) f_o_premises f_o_stated p1 (nI 0) (nI 11)) (fx_br (v19 = (nI 14)) (fx_br (x3 = 0) (post f_o_stated) (wp_X6_is (fun r53 => fx_br (r53 = 0) (post f_o_stated) (wp_X6_three (fun y54 => post y54) f_o_rules f_o_premises f_o_stated p1 x7 x11 x15)) f_o_premises f_o_stated p1 (nI 2) (nI 11))) (fx_br (v19 = (nI 15)) (fx_br (x3 = 0) (post f_o_stated) (wp_X6_is (fun r55 => fx_br (r55 = 0) (post f_o_stated) (wp_X6_three (fun y56 => post y56) f_o_rules f_o_premises f_o_stated p1 x7 x11 x15)) f_o_premises f_o_stated p1 (nI 2) (nI 11))) (fx_br (v19 = (nI 16)) (wp_X6_is (fun r57 => fx_br (r57 = 0) (post f_o_stated) (fx_br (x3 = 0) (post f_o_stated) (fx_br (x11 = (nI 1)) (fx_br (x7 = r17) (fx_br (x15 = r18) (wp_X6_state (fun y58 => post y58) f_o_stated p1 (nI 12) (nI 0) (nI 0) (nI 0)) (post f_o_stated)) (post f_o_stated)) (post f_o_stated)))) f_o_premises f_o_stated p1 (nI 0) (nI 10)) (fx_br (v19 = (nI 17)) (wp_X6_is (fun r59 => fx_br (r59 = 0) (post f_o_stated) (fx_ix p1 301 (fun k61 => fx_nm (f_o_instances k61) (fun v60 => wp_X6_copy_t (fun y62 => post y62) f_o_triples f_o_stated v60 p1)))) f_o_premises f_o_stated p1 (nI 0) (nI 12)) (fx_br (x3 = 0) (post f_o_stated) (wp_X6_is (fun r63 => fx_br (r63 = 0) (post f_o_stated) (wp_X6_three (fun y64 => post y64) f_o_rules f_o_premises f_o_stated p1 x7 x11 x15)) f_o_premises f_o_stated p1 (nI 2) (nI 11)))))))))))))))))))) f_o_premises f_o_stated p1 (nI 0) (nI 2)) f_o_premises f_o_stated p1 (nI 0) (nI 1)) (fun K16 => fx_br (v13 ≤ (nI 1)) (K16 (nI 0)) (wp_X6_of (fun r65 => K16 r65) f_o_premises f_o_stated p1 (nI 1) (nI 3)))))) (fun K12 => fx_br (v9 ≤ (nI 1)) (K12 (nI 0)) (wp_X6_of (fun r66 => K12 r66) f_o_premises f_o_stated p1 (nI 1) (nI 2)))))) (fun K8 => fx_br (v5 ≤ (nI 1)) (K8 (nI 0)) (wp_X6_of (fun r67 => K8 r67) f_o_premises f_o_stated p1 (nI 1) (nI 1)))))) (fun K4 => fx_br (v1 ≤ (nI 1)) (K4 (nI 0)) (wp_X6_is (fun r68 => fx_br (r68 = 0) (K4 (nI 0)) (K4 (nI 1))) f_o_premises f_o_stated p1 (nI 1) (nI 11)))))
theorem im_X6_chain_X6 : ∀ w ∈ u_ws RX6 TX6 17, w ∈ wsX6_chain := by decide +kernel
set_option maxHeartbeats 4000000 in
set_option maxRecDepth 100000 in
theorem cw_X6_chain (l : Launch) (X : fx_X) (a_o : Nat) (a_o_phrases : Nat) (a_o_axioms : Nat) (a_o_triples : Nat) (a_o_rules : Nat) (a_o_instances : Nat) (a_o_counts : Nat) (a_o_premises : Nat) (a_o_stated : Nat) (a_o_marks : Nat) (a_o_text : Nat) (a_o_sizes : Nat) (a_o_places : Nat) (s_o_axiomCount : Int32) (s_o_tripleCount : Int32) (s_o_rows : Int32) (s_o_broken : Int32) (s_o_size : Int32) (f_o_triples : Nat → Int32) (f_o_rules : Nat → Int32) (f_o_instances : Nat → Int32) (f_o_counts : Nat → Int32) (f_o_premises : Nat → Int32) (f_o_stated : Nat → Int32) (sz : Nat) (p1 : Int32) (post : (Nat → Int32) → Prop) (h : wp_X6_chain post f_o_triples f_o_rules f_o_instances f_o_counts f_o_premises f_o_stated p1) : Met l yX6_chain wsX6_chain ({ frames := 3, cells := 0, slots := 0, locals := 74 }) (va_Pc [.ref a_o, .int p1] (fx_PW X [(a_o, .inr (5, [.ref a_o_phrases, .ref a_o_axioms, .int s_o_axiomCount, .ref a_o_triples, .int s_o_tripleCount, .ref a_o_rules, .ref a_o_instances, .ref a_o_counts, .ref a_o_premises, .int s_o_rows, .ref a_o_stated, .ref a_o_marks, .int s_o_broken, .ref a_o_text, .int s_o_size, .ref a_o_sizes, .ref a_o_places])), (a_o_triples, .inl (fx_cI X, 404, .inl f_o_triples)), (a_o_rules, .inl (fx_cI X, 301, .inl f_o_rules)), (a_o_instances, .inl (fx_cI X, 301, .inl f_o_instances)), (a_o_counts, .inl (fx_cI X, 301, .inl f_o_counts)), (a_o_premises, .inl (fx_cI X, 903, .inl f_o_premises)), (a_o_stated, .inl (fx_cI X, 1204, .inl f_o_stated))] sz)) (va_Qv (fun (u : (Nat → Int32)) => post u) (fun (u : (Nat → Int32)) t => fx_EW X (va_A [(a_o, .inr (5, [.ref a_o_phrases, .ref a_o_axioms, .int s_o_axiomCount, .ref a_o_triples, .int s_o_tripleCount, .ref a_o_rules, .ref a_o_instances, .ref a_o_counts, .ref a_o_premises, .int s_o_rows, .ref a_o_stated, .ref a_o_marks, .int s_o_broken, .ref a_o_text, .int s_o_size, .ref a_o_sizes, .ref a_o_places])), (a_o_triples, .inl (fx_cI X, 404, .inl f_o_triples)), (a_o_rules, .inl (fx_cI X, 301, .inl f_o_rules)), (a_o_instances, .inl (fx_cI X, 301, .inl f_o_instances)), (a_o_counts, .inl (fx_cI X, 301, .inl f_o_counts)), (a_o_premises, .inl (fx_cI X, 903, .inl f_o_premises)), (a_o_stated, .inl (fx_cI X, 1204, .inl f_o_stated))] sz) [(a_o, .inr (5, [.ref a_o_phrases, .ref a_o_axioms, .int s_o_axiomCount, .ref a_o_triples, .int s_o_tripleCount, .ref a_o_rules, .ref a_o_instances, .ref a_o_counts, .ref a_o_premises, .int s_o_rows, .ref a_o_stated, .ref a_o_marks, .int s_o_broken, .ref a_o_text, .int s_o_size, .ref a_o_sizes, .ref a_o_places])), (a_o_triples, .inl (fx_cI X, 404, .inl f_o_triples)), (a_o_rules, .inl (fx_cI X, 301, .inl f_o_rules)), (a_o_instances, .inl (fx_cI X, 301, .inl f_o_instances)), (a_o_counts, .inl (fx_cI X, 301, .inl f_o_counts)), (a_o_premises, .inl (fx_cI X, 903, .inl f_o_premises)), (a_o_stated, .inl (fx_cI X, 1204, .inl u))] t) (va_A [(a_o, .inr (5, [.ref a_o_phrases, .ref a_o_axioms, .int s_o_axiomCount, .ref a_o_triples, .int s_o_tripleCount, .ref a_o_rules, .ref a_o_instances, .ref a_o_counts, .ref a_o_premises, .int s_o_rows, .ref a_o_stated, .ref a_o_marks, .int s_o_broken, .ref a_o_text, .int s_o_size, .ref a_o_sizes, .ref a_o_places])), (a_o_triples, .inl (fx_cI X, 404, .inl f_o_triples)), (a_o_rules, .inl (fx_cI X, 301, .inl f_o_rules)), (a_o_instances, .inl (fx_cI X, 301, .inl f_o_instances)), (a_o_counts, .inl (fx_cI X, 301, .inl f_o_counts)), (a_o_premises, .inl (fx_cI X, 903, .inl f_o_premises)), (a_o_stated, .inl (fx_cI X, 1204, .inl f_o_stated))] sz)) 0 0 (va_A [(a_o, .inr (5, [.ref a_o_phrases, .ref a_o_axioms, .int s_o_axiomCount, .ref a_o_triples, .int s_o_tripleCount, .ref a_o_rules, .ref a_o_instances, .ref a_o_counts, .ref a_o_premises, .int s_o_rows, .ref a_o_stated, .ref a_o_marks, .int s_o_broken, .ref a_o_text, .int s_o_size, .ref a_o_sizes, .ref a_o_places])), (a_o_triples, .inl (fx_cI X, 404, .inl f_o_triples)), (a_o_rules, .inl (fx_cI X, 301, .inl f_o_rules)), (a_o_instances, .inl (fx_cI X, 301, .inl f_o_instances)), (a_o_counts, .inl (fx_cI X, 301, .inl f_o_counts)), (a_o_premises, .inl (fx_cI X, 903, .inl f_o_premises)), (a_o_stated, .inl (fx_cI X, 1204, .inl f_o_stated))] sz) := by
  refine Met.ofW (cc := cX6_chain) (maxL := 9) (ret := none) (by decide) rfl ?_
  intro p e s m args below meth c s₁ B hml hv
  obtain ⟨rfl, hsz, hP, hK, hD0, hG⟩ := hv
  have hx := B.exec
  have hb := B.bytes
  have hr := B.returns
  have hts := atoms_spec (ws := wsX6_chain) B.pre
  have hown : s.vm.findClass RX6 = some m.cls := findClass_of_methodNamed B.named
  have hlocks := B.notSynchronized
  subst hsz
  have hD := hD0.self (sz := s.heap.size)
  generalize hAe : va_A [(a_o, .inr (5, [.ref a_o_phrases, .ref a_o_axioms, .int s_o_axiomCount, .ref a_o_triples, .int s_o_tripleCount, .ref a_o_rules, .ref a_o_instances, .ref a_o_counts, .ref a_o_premises, .int s_o_rows, .ref a_o_stated, .ref a_o_marks, .int s_o_broken, .ref a_o_text, .int s_o_size, .ref a_o_sizes, .ref a_o_places])), (a_o_triples, .inl (fx_cI X, 404, .inl f_o_triples)), (a_o_rules, .inl (fx_cI X, 301, .inl f_o_rules)), (a_o_instances, .inl (fx_cI X, 301, .inl f_o_instances)), (a_o_counts, .inl (fx_cI X, 301, .inl f_o_counts)), (a_o_premises, .inl (fx_cI X, 903, .inl f_o_premises)), (a_o_stated, .inl (fx_cI X, 1204, .inl f_o_stated))] s.heap.size = A at hD hG ⊢
  have hA : ∀ q : Nat, s.heap.size ≤ q → A q := fun q h => by rw [← hAe]; exact Or.inr h
  have hS : va_S A s.heap s.heap [] := va_S.rf
  have k128 := hts (.fieldLink RX6 128 "ProofCheckerModel" "rules" "[I") (by decide +kernel)
  have k131 := hts (.fieldLink RX6 131 "ProofCheckerModel" "instances" "[I") (by decide +kernel)
  have k125 := hts (.fieldLink RX6 125 "ProofCheckerModel" "triples" "[I") (by decide +kernel)
  have k134 := hts (.fieldLink RX6 134 "ProofCheckerModel" "counts" "[I") (by decide +kernel)
  have hl := lv_entry ([.ref a_o, .int p1]) (n := 9) (Nat.le_of_ble_eq_true rfl)
  rw [lg_entry_eq]
  generalize (lg_sl ([.ref a_o, .int p1]) ++ List.replicate (9 - (lg_sl ([.ref a_o, .int p1])).length) Slot.unset).toArray = ls at hl ⊢
  have hl : lv_has ls 9 [(0, .ref a_o), (1, .int p1)] := hl
  unfold wp_X6_chain at h
  refine lv_aload_n hx hb dX6_chain_0 rfl (lv_at hl 0 rfl) ?_
  refine va_get (D := fx_D X) (ci := 5) (v := .ref a_o_counts) (C := RX6) (T := TX6) (N := 17) hx hb hts im_X6_chain_X6 hown hK hP 0 rfl rfl 7 (by decide) k134 (fun _ h9 => h9) rfl dX6_chain_1 ?_
  refine lv_iload_n hx hb dX6_chain_4 rfl (lv_at hl 1 rfl) ?_
  refine fx_iald hx hb hK hP 4 0 rfl rfl h dX6_chain_5 (fun v1 h => ?_)
  refine lv_iconst (v := (nI 1)) hx hb dX6_chain_6 (by decide) ?_
  refine fx_join1 (G := fun (x3 : Int32) (R : Room) (av : Array Value) (Q : State → Prop) => ∀ (H : Heap) (locs : List Loc) (ls : Array Slot), va_P (fx_D X) vwCl [(a_o, .inr (5, [.ref a_o_phrases, .ref a_o_axioms, .int s_o_axiomCount, .ref a_o_triples, .int s_o_tripleCount, .ref a_o_rules, .ref a_o_instances, .ref a_o_counts, .ref a_o_premises, .int s_o_rows, .ref a_o_stated, .ref a_o_marks, .int s_o_broken, .ref a_o_text, .int s_o_size, .ref a_o_sizes, .ref a_o_places])), (a_o_triples, .inl (fx_cI X, 404, .inl f_o_triples)), (a_o_rules, .inl (fx_cI X, 301, .inl f_o_rules)), (a_o_instances, .inl (fx_cI X, 301, .inl f_o_instances)), (a_o_counts, .inl (fx_cI X, 301, .inl f_o_counts)), (a_o_premises, .inl (fx_cI X, 903, .inl f_o_premises)), (a_o_stated, .inl (fx_cI X, 1204, .inl f_o_stated))] H → va_D A [(a_o, .inr (5, [.ref a_o_phrases, .ref a_o_axioms, .int s_o_axiomCount, .ref a_o_triples, .int s_o_tripleCount, .ref a_o_rules, .ref a_o_instances, .ref a_o_counts, .ref a_o_premises, .int s_o_rows, .ref a_o_stated, .ref a_o_marks, .int s_o_broken, .ref a_o_text, .int s_o_size, .ref a_o_sizes, .ref a_o_places])), (a_o_triples, .inl (fx_cI X, 404, .inl f_o_triples)), (a_o_rules, .inl (fx_cI X, 301, .inl f_o_rules)), (a_o_instances, .inl (fx_cI X, 301, .inl f_o_instances)), (a_o_counts, .inl (fx_cI X, 301, .inl f_o_counts)), (a_o_premises, .inl (fx_cI X, 903, .inl f_o_premises)), (a_o_stated, .inl (fx_cI X, 1204, .inl f_o_stated))] → va_S A s.heap H locs → lv_has ls 9 [(0, .ref a_o), (1, .int p1)] → W p l e R s m av below meth c H locs 0 0 Q (F0 m 26 ls [.int x3])) h (fun x3 h => ?_) (fun K4 hK4 h => ?_)
  · intro H locs ls hP hD hS hl
    refine lv_istore_n (lv' := [(2, .int x3), (0, .ref a_o), (1, .int p1)]) hx hb dX6_chain_26 rfl hl (by decide) rfl (fun ls hl => ?_)
    refine lv_aload_n hx hb dX6_chain_27 rfl (lv_at hl 1 rfl) ?_
    refine va_get (D := fx_D X) (ci := 5) (v := .ref a_o_counts) (C := RX6) (T := TX6) (N := 17) hx hb hts im_X6_chain_X6 hown hK hP 0 rfl rfl 7 (by decide) k134 (fun _ h9 => h9) rfl dX6_chain_28 ?_
    refine lv_iload_n hx hb dX6_chain_31 rfl (lv_at hl 2 rfl) ?_
    refine fx_iald hx hb hK hP 4 0 rfl rfl h dX6_chain_32 (fun v5 h => ?_)
    refine lv_iconst (v := (nI 1)) hx hb dX6_chain_33 (by decide) ?_
    refine fx_join1 (G := fun (x7 : Int32) (R : Room) (av : Array Value) (Q : State → Prop) => ∀ (H : Heap) (locs : List Loc) (ls : Array Slot), va_P (fx_D X) vwCl [(a_o, .inr (5, [.ref a_o_phrases, .ref a_o_axioms, .int s_o_axiomCount, .ref a_o_triples, .int s_o_tripleCount, .ref a_o_rules, .ref a_o_instances, .ref a_o_counts, .ref a_o_premises, .int s_o_rows, .ref a_o_stated, .ref a_o_marks, .int s_o_broken, .ref a_o_text, .int s_o_size, .ref a_o_sizes, .ref a_o_places])), (a_o_triples, .inl (fx_cI X, 404, .inl f_o_triples)), (a_o_rules, .inl (fx_cI X, 301, .inl f_o_rules)), (a_o_instances, .inl (fx_cI X, 301, .inl f_o_instances)), (a_o_counts, .inl (fx_cI X, 301, .inl f_o_counts)), (a_o_premises, .inl (fx_cI X, 903, .inl f_o_premises)), (a_o_stated, .inl (fx_cI X, 1204, .inl f_o_stated))] H → va_D A [(a_o, .inr (5, [.ref a_o_phrases, .ref a_o_axioms, .int s_o_axiomCount, .ref a_o_triples, .int s_o_tripleCount, .ref a_o_rules, .ref a_o_instances, .ref a_o_counts, .ref a_o_premises, .int s_o_rows, .ref a_o_stated, .ref a_o_marks, .int s_o_broken, .ref a_o_text, .int s_o_size, .ref a_o_sizes, .ref a_o_places])), (a_o_triples, .inl (fx_cI X, 404, .inl f_o_triples)), (a_o_rules, .inl (fx_cI X, 301, .inl f_o_rules)), (a_o_instances, .inl (fx_cI X, 301, .inl f_o_instances)), (a_o_counts, .inl (fx_cI X, 301, .inl f_o_counts)), (a_o_premises, .inl (fx_cI X, 903, .inl f_o_premises)), (a_o_stated, .inl (fx_cI X, 1204, .inl f_o_stated))] → va_S A s.heap H locs → lv_has ls 9 [(2, .int x3), (0, .ref a_o), (1, .int p1)] → W p l e R s m av below meth c H locs 0 0 Q (F0 m 48 ls [.int x7])) h (fun x7 h => ?_) (fun K8 hK8 h => ?_)
    · intro H locs ls hP hD hS hl
      refine lv_istore_n (lv' := [(3, .int x7), (2, .int x3), (0, .ref a_o), (1, .int p1)]) hx hb dX6_chain_48 rfl hl (by decide) rfl (fun ls hl => ?_)
      refine lv_aload_n hx hb dX6_chain_49 rfl (lv_at hl 2 rfl) ?_
      refine va_get (D := fx_D X) (ci := 5) (v := .ref a_o_counts) (C := RX6) (T := TX6) (N := 17) hx hb hts im_X6_chain_X6 hown hK hP 0 rfl rfl 7 (by decide) k134 (fun _ h9 => h9) rfl dX6_chain_50 ?_
      refine lv_iload_n hx hb dX6_chain_53 rfl (lv_at hl 3 rfl) ?_
      refine fx_iald hx hb hK hP 4 0 rfl rfl h dX6_chain_54 (fun v9 h => ?_)
      refine lv_iconst (v := (nI 1)) hx hb dX6_chain_55 (by decide) ?_
      refine fx_join1 (G := fun (x11 : Int32) (R : Room) (av : Array Value) (Q : State → Prop) => ∀ (H : Heap) (locs : List Loc) (ls : Array Slot), va_P (fx_D X) vwCl [(a_o, .inr (5, [.ref a_o_phrases, .ref a_o_axioms, .int s_o_axiomCount, .ref a_o_triples, .int s_o_tripleCount, .ref a_o_rules, .ref a_o_instances, .ref a_o_counts, .ref a_o_premises, .int s_o_rows, .ref a_o_stated, .ref a_o_marks, .int s_o_broken, .ref a_o_text, .int s_o_size, .ref a_o_sizes, .ref a_o_places])), (a_o_triples, .inl (fx_cI X, 404, .inl f_o_triples)), (a_o_rules, .inl (fx_cI X, 301, .inl f_o_rules)), (a_o_instances, .inl (fx_cI X, 301, .inl f_o_instances)), (a_o_counts, .inl (fx_cI X, 301, .inl f_o_counts)), (a_o_premises, .inl (fx_cI X, 903, .inl f_o_premises)), (a_o_stated, .inl (fx_cI X, 1204, .inl f_o_stated))] H → va_D A [(a_o, .inr (5, [.ref a_o_phrases, .ref a_o_axioms, .int s_o_axiomCount, .ref a_o_triples, .int s_o_tripleCount, .ref a_o_rules, .ref a_o_instances, .ref a_o_counts, .ref a_o_premises, .int s_o_rows, .ref a_o_stated, .ref a_o_marks, .int s_o_broken, .ref a_o_text, .int s_o_size, .ref a_o_sizes, .ref a_o_places])), (a_o_triples, .inl (fx_cI X, 404, .inl f_o_triples)), (a_o_rules, .inl (fx_cI X, 301, .inl f_o_rules)), (a_o_instances, .inl (fx_cI X, 301, .inl f_o_instances)), (a_o_counts, .inl (fx_cI X, 301, .inl f_o_counts)), (a_o_premises, .inl (fx_cI X, 903, .inl f_o_premises)), (a_o_stated, .inl (fx_cI X, 1204, .inl f_o_stated))] → va_S A s.heap H locs → lv_has ls 9 [(3, .int x7), (2, .int x3), (0, .ref a_o), (1, .int p1)] → W p l e R s m av below meth c H locs 0 0 Q (F0 m 70 ls [.int x11])) h (fun x11 h => ?_) (fun K12 hK12 h => ?_)
      · intro H locs ls hP hD hS hl
        refine lv_istore (lv' := [(4, .int x11), (3, .int x7), (2, .int x3), (0, .ref a_o), (1, .int p1)]) hx hb dX6_chain_70 hl (by decide) rfl (fun ls hl => ?_)
        refine lv_aload_n hx hb dX6_chain_72 rfl (lv_at hl 3 rfl) ?_
        refine va_get (D := fx_D X) (ci := 5) (v := .ref a_o_counts) (C := RX6) (T := TX6) (N := 17) hx hb hts im_X6_chain_X6 hown hK hP 0 rfl rfl 7 (by decide) k134 (fun _ h9 => h9) rfl dX6_chain_73 ?_
        refine lv_iload_n hx hb dX6_chain_76 rfl (lv_at hl 4 rfl) ?_
        refine fx_iald hx hb hK hP 4 0 rfl rfl h dX6_chain_77 (fun v13 h => ?_)
        refine lv_iconst (v := (nI 1)) hx hb dX6_chain_78 (by decide) ?_
        refine fx_join1 (G := fun (x15 : Int32) (R : Room) (av : Array Value) (Q : State → Prop) => ∀ (H : Heap) (locs : List Loc) (ls : Array Slot), va_P (fx_D X) vwCl [(a_o, .inr (5, [.ref a_o_phrases, .ref a_o_axioms, .int s_o_axiomCount, .ref a_o_triples, .int s_o_tripleCount, .ref a_o_rules, .ref a_o_instances, .ref a_o_counts, .ref a_o_premises, .int s_o_rows, .ref a_o_stated, .ref a_o_marks, .int s_o_broken, .ref a_o_text, .int s_o_size, .ref a_o_sizes, .ref a_o_places])), (a_o_triples, .inl (fx_cI X, 404, .inl f_o_triples)), (a_o_rules, .inl (fx_cI X, 301, .inl f_o_rules)), (a_o_instances, .inl (fx_cI X, 301, .inl f_o_instances)), (a_o_counts, .inl (fx_cI X, 301, .inl f_o_counts)), (a_o_premises, .inl (fx_cI X, 903, .inl f_o_premises)), (a_o_stated, .inl (fx_cI X, 1204, .inl f_o_stated))] H → va_D A [(a_o, .inr (5, [.ref a_o_phrases, .ref a_o_axioms, .int s_o_axiomCount, .ref a_o_triples, .int s_o_tripleCount, .ref a_o_rules, .ref a_o_instances, .ref a_o_counts, .ref a_o_premises, .int s_o_rows, .ref a_o_stated, .ref a_o_marks, .int s_o_broken, .ref a_o_text, .int s_o_size, .ref a_o_sizes, .ref a_o_places])), (a_o_triples, .inl (fx_cI X, 404, .inl f_o_triples)), (a_o_rules, .inl (fx_cI X, 301, .inl f_o_rules)), (a_o_instances, .inl (fx_cI X, 301, .inl f_o_instances)), (a_o_counts, .inl (fx_cI X, 301, .inl f_o_counts)), (a_o_premises, .inl (fx_cI X, 903, .inl f_o_premises)), (a_o_stated, .inl (fx_cI X, 1204, .inl f_o_stated))] → va_S A s.heap H locs → lv_has ls 9 [(4, .int x11), (3, .int x7), (2, .int x3), (0, .ref a_o), (1, .int p1)] → W p l e R s m av below meth c H locs 0 0 Q (F0 m 93 ls [.int x15])) h (fun x15 h => ?_) (fun K16 hK16 h => ?_)
        · intro H locs ls hP hD hS hl
          refine lv_istore (lv' := [(5, .int x15), (4, .int x11), (3, .int x7), (2, .int x3), (0, .ref a_o), (1, .int p1)]) hx hb dX6_chain_93 hl (by decide) rfl (fun ls hl => ?_)
          refine lv_aload_n hx hb dX6_chain_95 rfl (lv_at hl 4 rfl) ?_
          refine lv_iload_n hx hb dX6_chain_96 rfl (lv_at hl 5 rfl) ?_
          refine lv_iconst (v := (nI 0)) hx hb dX6_chain_97 (by decide) ?_
          refine lv_iconst (v := (nI 1)) hx hb dX6_chain_98 (by decide) ?_
          refine vp_callSi (W.runV (As := [.int p1, .int (nI 0), .int (nI 1)]) (rest := []) ⟨hx, hb, hml, hown, hts⟩ (cw_X6_of l X a_o a_o_phrases a_o_axioms a_o_triples a_o_rules a_o_instances a_o_counts a_o_premises a_o_stated a_o_marks a_o_text a_o_sizes a_o_places s_o_axiomCount s_o_tripleCount s_o_rows s_o_broken s_o_size f_o_premises f_o_stated p1 (nI 0) (nI 1) _ h) (cwV 3 hts gX6_chain_X6_of rfl rfl rfl (by decide +kernel) ⟨Nat.le_of_ble_eq_true rfl, Nat.le_of_ble_eq_true rfl⟩) (fx_pv hP hK hG hS (va_recv hK hP (ci := 5) (q0 := 0) rfl rfl) [0, 5, 6] rfl) rfl rfl hl.1 rfl (lv_room (Nat.le_of_ble_eq_true rfl)) dX6_chain_99 ⟨Nat.le_of_ble_eq_true rfl, Nat.le_of_ble_eq_true rfl⟩) (fun r17 h => ?_)
          refine lv_istore (lv' := [(6, .int r17), (5, .int x15), (4, .int x11), (3, .int x7), (2, .int x3), (0, .ref a_o), (1, .int p1)]) hx hb dX6_chain_102 hl (by decide) rfl (fun ls hl => ?_)
          refine lv_aload_n hx hb dX6_chain_104 rfl (lv_at hl 5 rfl) ?_
          refine lv_iload_n hx hb dX6_chain_105 rfl (lv_at hl 6 rfl) ?_
          refine lv_iconst (v := (nI 0)) hx hb dX6_chain_106 (by decide) ?_
          refine lv_iconst (v := (nI 2)) hx hb dX6_chain_107 (by decide) ?_
          refine vp_callSi (W.runV (As := [.int p1, .int (nI 0), .int (nI 2)]) (rest := []) ⟨hx, hb, hml, hown, hts⟩ (cw_X6_of l X a_o a_o_phrases a_o_axioms a_o_triples a_o_rules a_o_instances a_o_counts a_o_premises a_o_stated a_o_marks a_o_text a_o_sizes a_o_places s_o_axiomCount s_o_tripleCount s_o_rows s_o_broken s_o_size f_o_premises f_o_stated p1 (nI 0) (nI 2) _ h) (cwV 3 hts gX6_chain_X6_of rfl rfl rfl (by decide +kernel) ⟨Nat.le_of_ble_eq_true rfl, Nat.le_of_ble_eq_true rfl⟩) (fx_pv hP hK hG hS (va_recv hK hP (ci := 5) (q0 := 0) rfl rfl) [0, 5, 6] rfl) rfl rfl hl.1 rfl (lv_room (Nat.le_of_ble_eq_true rfl)) dX6_chain_108 ⟨Nat.le_of_ble_eq_true rfl, Nat.le_of_ble_eq_true rfl⟩) (fun r18 h => ?_)
          refine lv_istore (lv' := [(7, .int r18), (6, .int r17), (5, .int x15), (4, .int x11), (3, .int x7), (2, .int x3), (0, .ref a_o), (1, .int p1)]) hx hb dX6_chain_111 hl (by decide) rfl (fun ls hl => ?_)
          refine lv_aload_n hx hb dX6_chain_113 rfl (lv_at hl 6 rfl) ?_
          refine va_get (D := fx_D X) (ci := 5) (v := .ref a_o_rules) (C := RX6) (T := TX6) (N := 17) hx hb hts im_X6_chain_X6 hown hK hP 0 rfl rfl 5 (by decide) k128 (fun _ h9 => h9) rfl dX6_chain_114 ?_
          refine lv_iload_n hx hb dX6_chain_117 rfl (lv_at hl 7 rfl) ?_
          refine fx_iald hx hb hK hP 2 0 rfl rfl h dX6_chain_118 (fun v19 h => ?_)
          by_cases z0 : v19 = (nI 3)
          · have h := h.1 z0
            refine lv_tableIn (tgt := 192) hx hb dX6_chain_119 (by rw [z0]; decide) (by rw [z0]; decide) (by rw [z0]; rfl) (by decide) ?_
            refine lv_aload_n hx hb dX6_chain_192 rfl (lv_at hl 6 rfl) ?_
            refine va_get (D := fx_D X) (ci := 5) (v := .ref a_o_rules) (C := RX6) (T := TX6) (N := 17) hx hb hts im_X6_chain_X6 hown hK hP 0 rfl rfl 5 (by decide) k128 (fun _ h9 => h9) rfl dX6_chain_193 ?_
            refine lv_iload_n hx hb dX6_chain_196 rfl (lv_at hl 7 rfl) ?_
            refine fx_iald hx hb hK hP 2 0 rfl rfl h dX6_chain_197 (fun v21 h => ?_)
            refine lv_iconst (v := (nI 2)) hx hb dX6_chain_198 (by decide) ?_
            refine fx_isub hx hb h dX6_chain_199 (fun v23 h => ?_)
            refine lv_istore (lv' := [(8, .int v23), (7, .int r18), (6, .int r17), (5, .int x15), (4, .int x11), (3, .int x7), (2, .int x3), (0, .ref a_o), (1, .int p1)]) hx hb dX6_chain_200 hl (by decide) rfl (fun ls hl => ?_)
            refine lv_aload_n hx hb dX6_chain_202 rfl (lv_at hl 7 rfl) ?_
            refine lv_iload_n hx hb dX6_chain_203 rfl (lv_at hl 8 rfl) ?_
            refine lv_iconst (v := (nI 0)) hx hb dX6_chain_204 (by decide) ?_
            refine lv_iload hx hb dX6_chain_205 (lv_at hl 0 rfl) ?_
            refine vp_callSi (W.runV (As := [.int p1, .int (nI 0), .int v23]) (rest := []) ⟨hx, hb, hml, hown, hts⟩ (cw_X6_is l X a_o a_o_phrases a_o_axioms a_o_triples a_o_rules a_o_instances a_o_counts a_o_premises a_o_stated a_o_marks a_o_text a_o_sizes a_o_places s_o_axiomCount s_o_tripleCount s_o_rows s_o_broken s_o_size f_o_premises f_o_stated p1 (nI 0) v23 _ h) (cwV 3 hts gX6_chain_X6_is rfl rfl rfl (by decide +kernel) ⟨Nat.le_of_ble_eq_true rfl, Nat.le_of_ble_eq_true rfl⟩) (fx_pv hP hK hG hS (va_recv hK hP (ci := 5) (q0 := 0) rfl rfl) [0, 5, 6] rfl) rfl rfl hl.1 rfl (lv_room (Nat.le_of_ble_eq_true rfl)) dX6_chain_207 ⟨Nat.le_of_ble_eq_true rfl, Nat.le_of_ble_eq_true rfl⟩) (fun r24 h => ?_)
            refine fx_if_eq (tgt := 652) hx hb h dX6_chain_210 (by decide) (fun h => ?_) (fun h => ?_)
            · exact W.vret hx hb hr (fun t ht hW => ⟨⟨f_o_stated, rfl, h, by rw [ht]; exact hP, va_K.moved hW.alike hK, hD⟩, hS.F ht⟩) hS.2.2 dX6_chain_652
            refine lv_aload_n hx hb dX6_chain_213 rfl (lv_at hl 7 rfl) ?_
            refine lv_iload_n hx hb dX6_chain_214 rfl (lv_at hl 8 rfl) ?_
            refine lv_iconst (v := (nI 1)) hx hb dX6_chain_215 (by decide) ?_
            refine lv_iload hx hb dX6_chain_216 (lv_at hl 0 rfl) ?_
            refine vp_callSi (W.runV (As := [.int p1, .int (nI 1), .int v23]) (rest := []) ⟨hx, hb, hml, hown, hts⟩ (cw_X6_is l X a_o a_o_phrases a_o_axioms a_o_triples a_o_rules a_o_instances a_o_counts a_o_premises a_o_stated a_o_marks a_o_text a_o_sizes a_o_places s_o_axiomCount s_o_tripleCount s_o_rows s_o_broken s_o_size f_o_premises f_o_stated p1 (nI 1) v23 _ h) (cwV 3 hts gX6_chain_X6_is rfl rfl rfl (by decide +kernel) ⟨Nat.le_of_ble_eq_true rfl, Nat.le_of_ble_eq_true rfl⟩) (fx_pv hP hK hG hS (va_recv hK hP (ci := 5) (q0 := 0) rfl rfl) [0, 5, 6] rfl) rfl rfl hl.1 rfl (lv_room (Nat.le_of_ble_eq_true rfl)) dX6_chain_218 ⟨Nat.le_of_ble_eq_true rfl, Nat.le_of_ble_eq_true rfl⟩) (fun r25 h => ?_)
            refine fx_if_eq (tgt := 652) hx hb h dX6_chain_221 (by decide) (fun h => ?_) (fun h => ?_)
            · exact W.vret hx hb hr (fun t ht hW => ⟨⟨f_o_stated, rfl, h, by rw [ht]; exact hP, va_K.moved hW.alike hK, hD⟩, hS.F ht⟩) hS.2.2 dX6_chain_652
            refine lv_iload hx hb dX6_chain_224 (lv_at hl 1 rfl) ?_
            refine lv_iload_n hx hb dX6_chain_226 rfl (lv_at hl 5 rfl) ?_
            refine fx_icmp_ne (tgt := 652) hx hb h dX6_chain_227 (by decide) (fun h => ?_) (fun h => ?_)
            · exact W.vret hx hb hr (fun t ht hW => ⟨⟨f_o_stated, rfl, h, by rw [ht]; exact hP, va_K.moved hW.alike hK, hD⟩, hS.F ht⟩) hS.2.2 dX6_chain_652
            refine lv_aload_n hx hb dX6_chain_230 rfl (lv_at hl 7 rfl) ?_
            refine lv_iload_n hx hb dX6_chain_231 rfl (lv_at hl 8 rfl) ?_
            refine lv_iload hx hb dX6_chain_232 (lv_at hl 0 rfl) ?_
            refine lv_iload hx hb dX6_chain_234 (lv_at hl 2 rfl) ?_
            refine lv_iload hx hb dX6_chain_236 (lv_at hl 4 rfl) ?_
            refine lv_iconst (v := (nI 0)) hx hb dX6_chain_238 (by decide) ?_
            have hFc := va_free (wc := [(a_o, .inr (5, [.ref a_o_phrases, .ref a_o_axioms, .int s_o_axiomCount, .ref a_o_triples, .int s_o_tripleCount, .ref a_o_rules, .ref a_o_instances, .ref a_o_counts, .ref a_o_premises, .int s_o_rows, .ref a_o_stated, .ref a_o_marks, .int s_o_broken, .ref a_o_text, .int s_o_size, .ref a_o_sizes, .ref a_o_places])), (a_o_stated, .inl (fx_cI X, 1204, .inl f_o_stated))]) hD hS hA [0, 6] rfl
            refine va_callv (va_runV (As := [.int p1, .int v23, .int r17, .int x11, .int (nI 0)]) (rest := []) ⟨hx, hb, hml, hown, hts⟩ (cw_X6_state l X a_o a_o_phrases a_o_axioms a_o_triples a_o_rules a_o_instances a_o_counts a_o_premises a_o_stated a_o_marks a_o_text a_o_sizes a_o_places s_o_axiomCount s_o_tripleCount s_o_rows s_o_broken s_o_size f_o_stated _ p1 v23 r17 x11 (nI 0) _ h) (cwV 5 hts gX6_chain_X6_state rfl rfl rfl (by decide +kernel) ⟨Nat.le_of_ble_eq_true rfl, Nat.le_of_ble_eq_true rfl⟩) (fx_pvW hP hD hK hG hS hFc (va_recv hK hP (ci := 5) (q0 := 0) rfl rfl) [0, 6] (by decide) rfl) rfl rfl hl.1 rfl (lv_room (Nat.le_of_ble_eq_true rfl)) dX6_chain_239 ⟨Nat.le_of_ble_eq_true rfl, Nat.le_of_ble_eq_true rfl⟩) hS (fun q _ h => hFc q h) hFc (fun u t H locs ht hvm h hB _ hk hS => ?_)
            obtain ⟨y26, rfl⟩ : ∃ z, z = u := ⟨_, rfl⟩
            obtain ⟨hP, hD⟩ := fx_back (wr := [(a_o_triples, .inl (fx_cI X, 404, .inl f_o_triples)), (a_o_rules, .inl (fx_cI X, 301, .inl f_o_rules)), (a_o_instances, .inl (fx_cI X, 301, .inl f_o_instances)), (a_o_counts, .inl (fx_cI X, 301, .inl f_o_counts)), (a_o_premises, .inl (fx_cI X, 903, .inl f_o_premises))]) (ws' := [(a_o, .inr (5, [.ref a_o_phrases, .ref a_o_axioms, .int s_o_axiomCount, .ref a_o_triples, .int s_o_tripleCount, .ref a_o_rules, .ref a_o_instances, .ref a_o_counts, .ref a_o_premises, .int s_o_rows, .ref a_o_stated, .ref a_o_marks, .int s_o_broken, .ref a_o_text, .int s_o_size, .ref a_o_sizes, .ref a_o_places])), (a_o_triples, .inl (fx_cI X, 404, .inl f_o_triples)), (a_o_rules, .inl (fx_cI X, 301, .inl f_o_rules)), (a_o_instances, .inl (fx_cI X, 301, .inl f_o_instances)), (a_o_counts, .inl (fx_cI X, 301, .inl f_o_counts)), (a_o_premises, .inl (fx_cI X, 903, .inl f_o_premises)), (a_o_stated, .inl (fx_cI X, 1204, .inl y26))]) hP hD [0, 6] [1, 2, 3, 4, 5] rfl rfl (by decide) (by decide) hk hFc hB ht [5, 0, 1, 2, 3, 4, 6] (by decide) rfl
            refine lv_goto (tgt := 652) hx hb dX6_chain_242 (by decide) ?_
            exact W.vret hx hb hr (fun t ht hW => ⟨⟨y26, rfl, h, by rw [ht]; exact hP, va_K.moved hW.alike hK, hD⟩, hS.F ht⟩) hS.2.2 dX6_chain_652
          have h := h.2 z0
          by_cases z1 : v19 = (nI 4)
          · have h := h.1 z1
            refine lv_tableIn (tgt := 192) hx hb dX6_chain_119 (by rw [z1]; decide) (by rw [z1]; decide) (by rw [z1]; rfl) (by decide) ?_
            refine lv_aload_n hx hb dX6_chain_192 rfl (lv_at hl 6 rfl) ?_
            refine va_get (D := fx_D X) (ci := 5) (v := .ref a_o_rules) (C := RX6) (T := TX6) (N := 17) hx hb hts im_X6_chain_X6 hown hK hP 0 rfl rfl 5 (by decide) k128 (fun _ h9 => h9) rfl dX6_chain_193 ?_
            refine lv_iload_n hx hb dX6_chain_196 rfl (lv_at hl 7 rfl) ?_
            refine fx_iald hx hb hK hP 2 0 rfl rfl h dX6_chain_197 (fun v27 h => ?_)
            refine lv_iconst (v := (nI 2)) hx hb dX6_chain_198 (by decide) ?_
            refine fx_isub hx hb h dX6_chain_199 (fun v29 h => ?_)
            refine lv_istore (lv' := [(8, .int v29), (7, .int r18), (6, .int r17), (5, .int x15), (4, .int x11), (3, .int x7), (2, .int x3), (0, .ref a_o), (1, .int p1)]) hx hb dX6_chain_200 hl (by decide) rfl (fun ls hl => ?_)
            refine lv_aload_n hx hb dX6_chain_202 rfl (lv_at hl 7 rfl) ?_
            refine lv_iload_n hx hb dX6_chain_203 rfl (lv_at hl 8 rfl) ?_
            refine lv_iconst (v := (nI 0)) hx hb dX6_chain_204 (by decide) ?_
            refine lv_iload hx hb dX6_chain_205 (lv_at hl 0 rfl) ?_
            refine vp_callSi (W.runV (As := [.int p1, .int (nI 0), .int v29]) (rest := []) ⟨hx, hb, hml, hown, hts⟩ (cw_X6_is l X a_o a_o_phrases a_o_axioms a_o_triples a_o_rules a_o_instances a_o_counts a_o_premises a_o_stated a_o_marks a_o_text a_o_sizes a_o_places s_o_axiomCount s_o_tripleCount s_o_rows s_o_broken s_o_size f_o_premises f_o_stated p1 (nI 0) v29 _ h) (cwV 3 hts gX6_chain_X6_is rfl rfl rfl (by decide +kernel) ⟨Nat.le_of_ble_eq_true rfl, Nat.le_of_ble_eq_true rfl⟩) (fx_pv hP hK hG hS (va_recv hK hP (ci := 5) (q0 := 0) rfl rfl) [0, 5, 6] rfl) rfl rfl hl.1 rfl (lv_room (Nat.le_of_ble_eq_true rfl)) dX6_chain_207 ⟨Nat.le_of_ble_eq_true rfl, Nat.le_of_ble_eq_true rfl⟩) (fun r30 h => ?_)
            refine fx_if_eq (tgt := 652) hx hb h dX6_chain_210 (by decide) (fun h => ?_) (fun h => ?_)
            · exact W.vret hx hb hr (fun t ht hW => ⟨⟨f_o_stated, rfl, h, by rw [ht]; exact hP, va_K.moved hW.alike hK, hD⟩, hS.F ht⟩) hS.2.2 dX6_chain_652
            refine lv_aload_n hx hb dX6_chain_213 rfl (lv_at hl 7 rfl) ?_
            refine lv_iload_n hx hb dX6_chain_214 rfl (lv_at hl 8 rfl) ?_
            refine lv_iconst (v := (nI 1)) hx hb dX6_chain_215 (by decide) ?_
            refine lv_iload hx hb dX6_chain_216 (lv_at hl 0 rfl) ?_
            refine vp_callSi (W.runV (As := [.int p1, .int (nI 1), .int v29]) (rest := []) ⟨hx, hb, hml, hown, hts⟩ (cw_X6_is l X a_o a_o_phrases a_o_axioms a_o_triples a_o_rules a_o_instances a_o_counts a_o_premises a_o_stated a_o_marks a_o_text a_o_sizes a_o_places s_o_axiomCount s_o_tripleCount s_o_rows s_o_broken s_o_size f_o_premises f_o_stated p1 (nI 1) v29 _ h) (cwV 3 hts gX6_chain_X6_is rfl rfl rfl (by decide +kernel) ⟨Nat.le_of_ble_eq_true rfl, Nat.le_of_ble_eq_true rfl⟩) (fx_pv hP hK hG hS (va_recv hK hP (ci := 5) (q0 := 0) rfl rfl) [0, 5, 6] rfl) rfl rfl hl.1 rfl (lv_room (Nat.le_of_ble_eq_true rfl)) dX6_chain_218 ⟨Nat.le_of_ble_eq_true rfl, Nat.le_of_ble_eq_true rfl⟩) (fun r31 h => ?_)
            refine fx_if_eq (tgt := 652) hx hb h dX6_chain_221 (by decide) (fun h => ?_) (fun h => ?_)
            · exact W.vret hx hb hr (fun t ht hW => ⟨⟨f_o_stated, rfl, h, by rw [ht]; exact hP, va_K.moved hW.alike hK, hD⟩, hS.F ht⟩) hS.2.2 dX6_chain_652
            refine lv_iload hx hb dX6_chain_224 (lv_at hl 1 rfl) ?_
            refine lv_iload_n hx hb dX6_chain_226 rfl (lv_at hl 5 rfl) ?_
            refine fx_icmp_ne (tgt := 652) hx hb h dX6_chain_227 (by decide) (fun h => ?_) (fun h => ?_)
            · exact W.vret hx hb hr (fun t ht hW => ⟨⟨f_o_stated, rfl, h, by rw [ht]; exact hP, va_K.moved hW.alike hK, hD⟩, hS.F ht⟩) hS.2.2 dX6_chain_652
            refine lv_aload_n hx hb dX6_chain_230 rfl (lv_at hl 7 rfl) ?_
            refine lv_iload_n hx hb dX6_chain_231 rfl (lv_at hl 8 rfl) ?_
            refine lv_iload hx hb dX6_chain_232 (lv_at hl 0 rfl) ?_
            refine lv_iload hx hb dX6_chain_234 (lv_at hl 2 rfl) ?_
            refine lv_iload hx hb dX6_chain_236 (lv_at hl 4 rfl) ?_
            refine lv_iconst (v := (nI 0)) hx hb dX6_chain_238 (by decide) ?_
            have hFc := va_free (wc := [(a_o, .inr (5, [.ref a_o_phrases, .ref a_o_axioms, .int s_o_axiomCount, .ref a_o_triples, .int s_o_tripleCount, .ref a_o_rules, .ref a_o_instances, .ref a_o_counts, .ref a_o_premises, .int s_o_rows, .ref a_o_stated, .ref a_o_marks, .int s_o_broken, .ref a_o_text, .int s_o_size, .ref a_o_sizes, .ref a_o_places])), (a_o_stated, .inl (fx_cI X, 1204, .inl f_o_stated))]) hD hS hA [0, 6] rfl
            refine va_callv (va_runV (As := [.int p1, .int v29, .int r17, .int x11, .int (nI 0)]) (rest := []) ⟨hx, hb, hml, hown, hts⟩ (cw_X6_state l X a_o a_o_phrases a_o_axioms a_o_triples a_o_rules a_o_instances a_o_counts a_o_premises a_o_stated a_o_marks a_o_text a_o_sizes a_o_places s_o_axiomCount s_o_tripleCount s_o_rows s_o_broken s_o_size f_o_stated _ p1 v29 r17 x11 (nI 0) _ h) (cwV 5 hts gX6_chain_X6_state rfl rfl rfl (by decide +kernel) ⟨Nat.le_of_ble_eq_true rfl, Nat.le_of_ble_eq_true rfl⟩) (fx_pvW hP hD hK hG hS hFc (va_recv hK hP (ci := 5) (q0 := 0) rfl rfl) [0, 6] (by decide) rfl) rfl rfl hl.1 rfl (lv_room (Nat.le_of_ble_eq_true rfl)) dX6_chain_239 ⟨Nat.le_of_ble_eq_true rfl, Nat.le_of_ble_eq_true rfl⟩) hS (fun q _ h => hFc q h) hFc (fun u t H locs ht hvm h hB _ hk hS => ?_)
            obtain ⟨y32, rfl⟩ : ∃ z, z = u := ⟨_, rfl⟩
            obtain ⟨hP, hD⟩ := fx_back (wr := [(a_o_triples, .inl (fx_cI X, 404, .inl f_o_triples)), (a_o_rules, .inl (fx_cI X, 301, .inl f_o_rules)), (a_o_instances, .inl (fx_cI X, 301, .inl f_o_instances)), (a_o_counts, .inl (fx_cI X, 301, .inl f_o_counts)), (a_o_premises, .inl (fx_cI X, 903, .inl f_o_premises))]) (ws' := [(a_o, .inr (5, [.ref a_o_phrases, .ref a_o_axioms, .int s_o_axiomCount, .ref a_o_triples, .int s_o_tripleCount, .ref a_o_rules, .ref a_o_instances, .ref a_o_counts, .ref a_o_premises, .int s_o_rows, .ref a_o_stated, .ref a_o_marks, .int s_o_broken, .ref a_o_text, .int s_o_size, .ref a_o_sizes, .ref a_o_places])), (a_o_triples, .inl (fx_cI X, 404, .inl f_o_triples)), (a_o_rules, .inl (fx_cI X, 301, .inl f_o_rules)), (a_o_instances, .inl (fx_cI X, 301, .inl f_o_instances)), (a_o_counts, .inl (fx_cI X, 301, .inl f_o_counts)), (a_o_premises, .inl (fx_cI X, 903, .inl f_o_premises)), (a_o_stated, .inl (fx_cI X, 1204, .inl y32))]) hP hD [0, 6] [1, 2, 3, 4, 5] rfl rfl (by decide) (by decide) hk hFc hB ht [5, 0, 1, 2, 3, 4, 6] (by decide) rfl
            refine lv_goto (tgt := 652) hx hb dX6_chain_242 (by decide) ?_
            exact W.vret hx hb hr (fun t ht hW => ⟨⟨y32, rfl, h, by rw [ht]; exact hP, va_K.moved hW.alike hK, hD⟩, hS.F ht⟩) hS.2.2 dX6_chain_652
          have h := h.2 z1
          by_cases z2 : v19 = (nI 5)
          · have h := h.1 z2
            refine lv_tableIn (tgt := 245) hx hb dX6_chain_119 (by rw [z2]; decide) (by rw [z2]; decide) (by rw [z2]; rfl) (by decide) ?_
            refine lv_aload_n hx hb dX6_chain_245 rfl (lv_at hl 6 rfl) ?_
            refine lv_iload_n hx hb dX6_chain_246 rfl (lv_at hl 7 rfl) ?_
            refine lv_iconst (v := (nI 0)) hx hb dX6_chain_247 (by decide) ?_
            refine lv_iconst (v := (nI 1)) hx hb dX6_chain_248 (by decide) ?_
            refine vp_callSi (W.runV (As := [.int p1, .int (nI 0), .int (nI 1)]) (rest := []) ⟨hx, hb, hml, hown, hts⟩ (cw_X6_is l X a_o a_o_phrases a_o_axioms a_o_triples a_o_rules a_o_instances a_o_counts a_o_premises a_o_stated a_o_marks a_o_text a_o_sizes a_o_places s_o_axiomCount s_o_tripleCount s_o_rows s_o_broken s_o_size f_o_premises f_o_stated p1 (nI 0) (nI 1) _ h) (cwV 3 hts gX6_chain_X6_is rfl rfl rfl (by decide +kernel) ⟨Nat.le_of_ble_eq_true rfl, Nat.le_of_ble_eq_true rfl⟩) (fx_pv hP hK hG hS (va_recv hK hP (ci := 5) (q0 := 0) rfl rfl) [0, 5, 6] rfl) rfl rfl hl.1 rfl (lv_room (Nat.le_of_ble_eq_true rfl)) dX6_chain_249 ⟨Nat.le_of_ble_eq_true rfl, Nat.le_of_ble_eq_true rfl⟩) (fun r33 h => ?_)
            refine fx_if_eq (tgt := 652) hx hb h dX6_chain_252 (by decide) (fun h => ?_) (fun h => ?_)
            · exact W.vret hx hb hr (fun t ht hW => ⟨⟨f_o_stated, rfl, h, by rw [ht]; exact hP, va_K.moved hW.alike hK, hD⟩, hS.F ht⟩) hS.2.2 dX6_chain_652
            refine lv_iload_n hx hb dX6_chain_255 rfl (lv_at hl 5 rfl) ?_
            refine fx_if_eq (tgt := 652) hx hb h dX6_chain_256 (by decide) (fun h => ?_) (fun h => ?_)
            · exact W.vret hx hb hr (fun t ht hW => ⟨⟨f_o_stated, rfl, h, by rw [ht]; exact hP, va_K.moved hW.alike hK, hD⟩, hS.F ht⟩) hS.2.2 dX6_chain_652
            refine lv_iload hx hb dX6_chain_259 (lv_at hl 3 rfl) ?_
            refine fx_if_ne (tgt := 652) hx hb h dX6_chain_261 (by decide) (fun h => ?_) (fun h => ?_)
            · exact W.vret hx hb hr (fun t ht hW => ⟨⟨f_o_stated, rfl, h, by rw [ht]; exact hP, va_K.moved hW.alike hK, hD⟩, hS.F ht⟩) hS.2.2 dX6_chain_652
            refine lv_iload hx hb dX6_chain_264 (lv_at hl 2 rfl) ?_
            refine lv_iload hx hb dX6_chain_266 (lv_at hl 1 rfl) ?_
            refine fx_icmp_ne (tgt := 652) hx hb h dX6_chain_268 (by decide) (fun h => ?_) (fun h => ?_)
            · exact W.vret hx hb hr (fun t ht hW => ⟨⟨f_o_stated, rfl, h, by rw [ht]; exact hP, va_K.moved hW.alike hK, hD⟩, hS.F ht⟩) hS.2.2 dX6_chain_652
            refine lv_aload_n hx hb dX6_chain_271 rfl (lv_at hl 6 rfl) ?_
            refine lv_iload_n hx hb dX6_chain_272 rfl (lv_at hl 7 rfl) ?_
            refine lv_bipush (v := (nI 11)) hx hb dX6_chain_273 (by decide) ?_
            refine lv_iload_n hx hb dX6_chain_275 rfl (lv_at hl 4 rfl) ?_
            refine lv_iconst (v := (nI 0)) hx hb dX6_chain_276 (by decide) ?_
            refine lv_iload hx hb dX6_chain_277 (lv_at hl 0 rfl) ?_
            have hFc := va_free (wc := [(a_o, .inr (5, [.ref a_o_phrases, .ref a_o_axioms, .int s_o_axiomCount, .ref a_o_triples, .int s_o_tripleCount, .ref a_o_rules, .ref a_o_instances, .ref a_o_counts, .ref a_o_premises, .int s_o_rows, .ref a_o_stated, .ref a_o_marks, .int s_o_broken, .ref a_o_text, .int s_o_size, .ref a_o_sizes, .ref a_o_places])), (a_o_stated, .inl (fx_cI X, 1204, .inl f_o_stated))]) hD hS hA [0, 6] rfl
            refine va_callv (va_runV (As := [.int p1, .int (nI 11), .int x7, .int (nI 0), .int r18]) (rest := []) ⟨hx, hb, hml, hown, hts⟩ (cw_X6_state l X a_o a_o_phrases a_o_axioms a_o_triples a_o_rules a_o_instances a_o_counts a_o_premises a_o_stated a_o_marks a_o_text a_o_sizes a_o_places s_o_axiomCount s_o_tripleCount s_o_rows s_o_broken s_o_size f_o_stated _ p1 (nI 11) x7 (nI 0) r18 _ h) (cwV 5 hts gX6_chain_X6_state rfl rfl rfl (by decide +kernel) ⟨Nat.le_of_ble_eq_true rfl, Nat.le_of_ble_eq_true rfl⟩) (fx_pvW hP hD hK hG hS hFc (va_recv hK hP (ci := 5) (q0 := 0) rfl rfl) [0, 6] (by decide) rfl) rfl rfl hl.1 rfl (lv_room (Nat.le_of_ble_eq_true rfl)) dX6_chain_279 ⟨Nat.le_of_ble_eq_true rfl, Nat.le_of_ble_eq_true rfl⟩) hS (fun q _ h => hFc q h) hFc (fun u t H locs ht hvm h hB _ hk hS => ?_)
            obtain ⟨y34, rfl⟩ : ∃ z, z = u := ⟨_, rfl⟩
            obtain ⟨hP, hD⟩ := fx_back (wr := [(a_o_triples, .inl (fx_cI X, 404, .inl f_o_triples)), (a_o_rules, .inl (fx_cI X, 301, .inl f_o_rules)), (a_o_instances, .inl (fx_cI X, 301, .inl f_o_instances)), (a_o_counts, .inl (fx_cI X, 301, .inl f_o_counts)), (a_o_premises, .inl (fx_cI X, 903, .inl f_o_premises))]) (ws' := [(a_o, .inr (5, [.ref a_o_phrases, .ref a_o_axioms, .int s_o_axiomCount, .ref a_o_triples, .int s_o_tripleCount, .ref a_o_rules, .ref a_o_instances, .ref a_o_counts, .ref a_o_premises, .int s_o_rows, .ref a_o_stated, .ref a_o_marks, .int s_o_broken, .ref a_o_text, .int s_o_size, .ref a_o_sizes, .ref a_o_places])), (a_o_triples, .inl (fx_cI X, 404, .inl f_o_triples)), (a_o_rules, .inl (fx_cI X, 301, .inl f_o_rules)), (a_o_instances, .inl (fx_cI X, 301, .inl f_o_instances)), (a_o_counts, .inl (fx_cI X, 301, .inl f_o_counts)), (a_o_premises, .inl (fx_cI X, 903, .inl f_o_premises)), (a_o_stated, .inl (fx_cI X, 1204, .inl y34))]) hP hD [0, 6] [1, 2, 3, 4, 5] rfl rfl (by decide) (by decide) hk hFc hB ht [5, 0, 1, 2, 3, 4, 6] (by decide) rfl
            refine lv_goto (tgt := 652) hx hb dX6_chain_282 (by decide) ?_
            exact W.vret hx hb hr (fun t ht hW => ⟨⟨y34, rfl, h, by rw [ht]; exact hP, va_K.moved hW.alike hK, hD⟩, hS.F ht⟩) hS.2.2 dX6_chain_652
          have h := h.2 z2
          by_cases z3 : v19 = (nI 6)
          · have h := h.1 z3
            refine lv_tableIn (tgt := 285) hx hb dX6_chain_119 (by rw [z3]; decide) (by rw [z3]; decide) (by rw [z3]; rfl) (by decide) ?_
            refine lv_aload_n hx hb dX6_chain_285 rfl (lv_at hl 6 rfl) ?_
            refine lv_iload_n hx hb dX6_chain_286 rfl (lv_at hl 7 rfl) ?_
            refine lv_iconst (v := (nI 0)) hx hb dX6_chain_287 (by decide) ?_
            refine lv_iconst (v := (nI 2)) hx hb dX6_chain_288 (by decide) ?_
            refine vp_callSi (W.runV (As := [.int p1, .int (nI 0), .int (nI 2)]) (rest := []) ⟨hx, hb, hml, hown, hts⟩ (cw_X6_is l X a_o a_o_phrases a_o_axioms a_o_triples a_o_rules a_o_instances a_o_counts a_o_premises a_o_stated a_o_marks a_o_text a_o_sizes a_o_places s_o_axiomCount s_o_tripleCount s_o_rows s_o_broken s_o_size f_o_premises f_o_stated p1 (nI 0) (nI 2) _ h) (cwV 3 hts gX6_chain_X6_is rfl rfl rfl (by decide +kernel) ⟨Nat.le_of_ble_eq_true rfl, Nat.le_of_ble_eq_true rfl⟩) (fx_pv hP hK hG hS (va_recv hK hP (ci := 5) (q0 := 0) rfl rfl) [0, 5, 6] rfl) rfl rfl hl.1 rfl (lv_room (Nat.le_of_ble_eq_true rfl)) dX6_chain_289 ⟨Nat.le_of_ble_eq_true rfl, Nat.le_of_ble_eq_true rfl⟩) (fun r35 h => ?_)
            refine fx_if_eq (tgt := 652) hx hb h dX6_chain_292 (by decide) (fun h => ?_) (fun h => ?_)
            · exact W.vret hx hb hr (fun t ht hW => ⟨⟨f_o_stated, rfl, h, by rw [ht]; exact hP, va_K.moved hW.alike hK, hD⟩, hS.F ht⟩) hS.2.2 dX6_chain_652
            refine lv_iload_n hx hb dX6_chain_295 rfl (lv_at hl 5 rfl) ?_
            refine fx_if_eq (tgt := 652) hx hb h dX6_chain_296 (by decide) (fun h => ?_) (fun h => ?_)
            · exact W.vret hx hb hr (fun t ht hW => ⟨⟨f_o_stated, rfl, h, by rw [ht]; exact hP, va_K.moved hW.alike hK, hD⟩, hS.F ht⟩) hS.2.2 dX6_chain_652
            refine lv_iload hx hb dX6_chain_299 (lv_at hl 3 rfl) ?_
            refine lv_iload hx hb dX6_chain_301 (lv_at hl 1 rfl) ?_
            refine fx_icmp_ne (tgt := 652) hx hb h dX6_chain_303 (by decide) (fun h => ?_) (fun h => ?_)
            · exact W.vret hx hb hr (fun t ht hW => ⟨⟨f_o_stated, rfl, h, by rw [ht]; exact hP, va_K.moved hW.alike hK, hD⟩, hS.F ht⟩) hS.2.2 dX6_chain_652
            refine lv_aload_n hx hb dX6_chain_306 rfl (lv_at hl 6 rfl) ?_
            refine lv_iload_n hx hb dX6_chain_307 rfl (lv_at hl 7 rfl) ?_
            refine lv_bipush (v := (nI 11)) hx hb dX6_chain_308 (by decide) ?_
            refine lv_iload_n hx hb dX6_chain_310 rfl (lv_at hl 4 rfl) ?_
            refine lv_iload hx hb dX6_chain_311 (lv_at hl 0 rfl) ?_
            refine lv_iload hx hb dX6_chain_313 (lv_at hl 2 rfl) ?_
            have hFc := va_free (wc := [(a_o, .inr (5, [.ref a_o_phrases, .ref a_o_axioms, .int s_o_axiomCount, .ref a_o_triples, .int s_o_tripleCount, .ref a_o_rules, .ref a_o_instances, .ref a_o_counts, .ref a_o_premises, .int s_o_rows, .ref a_o_stated, .ref a_o_marks, .int s_o_broken, .ref a_o_text, .int s_o_size, .ref a_o_sizes, .ref a_o_places])), (a_o_stated, .inl (fx_cI X, 1204, .inl f_o_stated))]) hD hS hA [0, 6] rfl
            refine va_callv (va_runV (As := [.int p1, .int (nI 11), .int x7, .int r18, .int x15]) (rest := []) ⟨hx, hb, hml, hown, hts⟩ (cw_X6_state l X a_o a_o_phrases a_o_axioms a_o_triples a_o_rules a_o_instances a_o_counts a_o_premises a_o_stated a_o_marks a_o_text a_o_sizes a_o_places s_o_axiomCount s_o_tripleCount s_o_rows s_o_broken s_o_size f_o_stated _ p1 (nI 11) x7 r18 x15 _ h) (cwV 5 hts gX6_chain_X6_state rfl rfl rfl (by decide +kernel) ⟨Nat.le_of_ble_eq_true rfl, Nat.le_of_ble_eq_true rfl⟩) (fx_pvW hP hD hK hG hS hFc (va_recv hK hP (ci := 5) (q0 := 0) rfl rfl) [0, 6] (by decide) rfl) rfl rfl hl.1 rfl (lv_room (Nat.le_of_ble_eq_true rfl)) dX6_chain_315 ⟨Nat.le_of_ble_eq_true rfl, Nat.le_of_ble_eq_true rfl⟩) hS (fun q _ h => hFc q h) hFc (fun u t H locs ht hvm h hB _ hk hS => ?_)
            obtain ⟨y36, rfl⟩ : ∃ z, z = u := ⟨_, rfl⟩
            obtain ⟨hP, hD⟩ := fx_back (wr := [(a_o_triples, .inl (fx_cI X, 404, .inl f_o_triples)), (a_o_rules, .inl (fx_cI X, 301, .inl f_o_rules)), (a_o_instances, .inl (fx_cI X, 301, .inl f_o_instances)), (a_o_counts, .inl (fx_cI X, 301, .inl f_o_counts)), (a_o_premises, .inl (fx_cI X, 903, .inl f_o_premises))]) (ws' := [(a_o, .inr (5, [.ref a_o_phrases, .ref a_o_axioms, .int s_o_axiomCount, .ref a_o_triples, .int s_o_tripleCount, .ref a_o_rules, .ref a_o_instances, .ref a_o_counts, .ref a_o_premises, .int s_o_rows, .ref a_o_stated, .ref a_o_marks, .int s_o_broken, .ref a_o_text, .int s_o_size, .ref a_o_sizes, .ref a_o_places])), (a_o_triples, .inl (fx_cI X, 404, .inl f_o_triples)), (a_o_rules, .inl (fx_cI X, 301, .inl f_o_rules)), (a_o_instances, .inl (fx_cI X, 301, .inl f_o_instances)), (a_o_counts, .inl (fx_cI X, 301, .inl f_o_counts)), (a_o_premises, .inl (fx_cI X, 903, .inl f_o_premises)), (a_o_stated, .inl (fx_cI X, 1204, .inl y36))]) hP hD [0, 6] [1, 2, 3, 4, 5] rfl rfl (by decide) (by decide) hk hFc hB ht [5, 0, 1, 2, 3, 4, 6] (by decide) rfl
            refine lv_goto (tgt := 652) hx hb dX6_chain_318 (by decide) ?_
            exact W.vret hx hb hr (fun t ht hW => ⟨⟨y36, rfl, h, by rw [ht]; exact hP, va_K.moved hW.alike hK, hD⟩, hS.F ht⟩) hS.2.2 dX6_chain_652
          have h := h.2 z3
          by_cases z4 : v19 = (nI 7)
          · have h := h.1 z4
            refine lv_tableIn (tgt := 321) hx hb dX6_chain_119 (by rw [z4]; decide) (by rw [z4]; decide) (by rw [z4]; rfl) (by decide) ?_
            refine lv_aload_n hx hb dX6_chain_321 rfl (lv_at hl 6 rfl) ?_
            refine lv_iload_n hx hb dX6_chain_322 rfl (lv_at hl 7 rfl) ?_
            refine lv_iconst (v := (nI 0)) hx hb dX6_chain_323 (by decide) ?_
            refine lv_iconst (v := (nI 3)) hx hb dX6_chain_324 (by decide) ?_
            refine vp_callSi (W.runV (As := [.int p1, .int (nI 0), .int (nI 3)]) (rest := []) ⟨hx, hb, hml, hown, hts⟩ (cw_X6_is l X a_o a_o_phrases a_o_axioms a_o_triples a_o_rules a_o_instances a_o_counts a_o_premises a_o_stated a_o_marks a_o_text a_o_sizes a_o_places s_o_axiomCount s_o_tripleCount s_o_rows s_o_broken s_o_size f_o_premises f_o_stated p1 (nI 0) (nI 3) _ h) (cwV 3 hts gX6_chain_X6_is rfl rfl rfl (by decide +kernel) ⟨Nat.le_of_ble_eq_true rfl, Nat.le_of_ble_eq_true rfl⟩) (fx_pv hP hK hG hS (va_recv hK hP (ci := 5) (q0 := 0) rfl rfl) [0, 5, 6] rfl) rfl rfl hl.1 rfl (lv_room (Nat.le_of_ble_eq_true rfl)) dX6_chain_325 ⟨Nat.le_of_ble_eq_true rfl, Nat.le_of_ble_eq_true rfl⟩) (fun r37 h => ?_)
            refine fx_if_eq (tgt := 652) hx hb h dX6_chain_328 (by decide) (fun h => ?_) (fun h => ?_)
            · exact W.vret hx hb hr (fun t ht hW => ⟨⟨f_o_stated, rfl, h, by rw [ht]; exact hP, va_K.moved hW.alike hK, hD⟩, hS.F ht⟩) hS.2.2 dX6_chain_652
            refine lv_iload_n hx hb dX6_chain_331 rfl (lv_at hl 5 rfl) ?_
            refine fx_if_eq (tgt := 652) hx hb h dX6_chain_332 (by decide) (fun h => ?_) (fun h => ?_)
            · exact W.vret hx hb hr (fun t ht hW => ⟨⟨f_o_stated, rfl, h, by rw [ht]; exact hP, va_K.moved hW.alike hK, hD⟩, hS.F ht⟩) hS.2.2 dX6_chain_652
            refine lv_iload hx hb dX6_chain_335 (lv_at hl 3 rfl) ?_
            refine lv_iload hx hb dX6_chain_337 (lv_at hl 1 rfl) ?_
            refine fx_icmp_ne (tgt := 652) hx hb h dX6_chain_339 (by decide) (fun h => ?_) (fun h => ?_)
            · exact W.vret hx hb hr (fun t ht hW => ⟨⟨f_o_stated, rfl, h, by rw [ht]; exact hP, va_K.moved hW.alike hK, hD⟩, hS.F ht⟩) hS.2.2 dX6_chain_652
            refine lv_aload_n hx hb dX6_chain_342 rfl (lv_at hl 6 rfl) ?_
            refine lv_iload_n hx hb dX6_chain_343 rfl (lv_at hl 7 rfl) ?_
            refine lv_bipush (v := (nI 11)) hx hb dX6_chain_344 (by decide) ?_
            refine lv_iload_n hx hb dX6_chain_346 rfl (lv_at hl 4 rfl) ?_
            refine lv_iconst (v := (nI 0)) hx hb dX6_chain_347 (by decide) ?_
            refine lv_iload hx hb dX6_chain_348 (lv_at hl 0 rfl) ?_
            have hFc := va_free (wc := [(a_o, .inr (5, [.ref a_o_phrases, .ref a_o_axioms, .int s_o_axiomCount, .ref a_o_triples, .int s_o_tripleCount, .ref a_o_rules, .ref a_o_instances, .ref a_o_counts, .ref a_o_premises, .int s_o_rows, .ref a_o_stated, .ref a_o_marks, .int s_o_broken, .ref a_o_text, .int s_o_size, .ref a_o_sizes, .ref a_o_places])), (a_o_stated, .inl (fx_cI X, 1204, .inl f_o_stated))]) hD hS hA [0, 6] rfl
            refine va_callv (va_runV (As := [.int p1, .int (nI 11), .int x7, .int (nI 0), .int r18]) (rest := []) ⟨hx, hb, hml, hown, hts⟩ (cw_X6_state l X a_o a_o_phrases a_o_axioms a_o_triples a_o_rules a_o_instances a_o_counts a_o_premises a_o_stated a_o_marks a_o_text a_o_sizes a_o_places s_o_axiomCount s_o_tripleCount s_o_rows s_o_broken s_o_size f_o_stated _ p1 (nI 11) x7 (nI 0) r18 _ h) (cwV 5 hts gX6_chain_X6_state rfl rfl rfl (by decide +kernel) ⟨Nat.le_of_ble_eq_true rfl, Nat.le_of_ble_eq_true rfl⟩) (fx_pvW hP hD hK hG hS hFc (va_recv hK hP (ci := 5) (q0 := 0) rfl rfl) [0, 6] (by decide) rfl) rfl rfl hl.1 rfl (lv_room (Nat.le_of_ble_eq_true rfl)) dX6_chain_350 ⟨Nat.le_of_ble_eq_true rfl, Nat.le_of_ble_eq_true rfl⟩) hS (fun q _ h => hFc q h) hFc (fun u t H locs ht hvm h hB _ hk hS => ?_)
            obtain ⟨y38, rfl⟩ : ∃ z, z = u := ⟨_, rfl⟩
            obtain ⟨hP, hD⟩ := fx_back (wr := [(a_o_triples, .inl (fx_cI X, 404, .inl f_o_triples)), (a_o_rules, .inl (fx_cI X, 301, .inl f_o_rules)), (a_o_instances, .inl (fx_cI X, 301, .inl f_o_instances)), (a_o_counts, .inl (fx_cI X, 301, .inl f_o_counts)), (a_o_premises, .inl (fx_cI X, 903, .inl f_o_premises))]) (ws' := [(a_o, .inr (5, [.ref a_o_phrases, .ref a_o_axioms, .int s_o_axiomCount, .ref a_o_triples, .int s_o_tripleCount, .ref a_o_rules, .ref a_o_instances, .ref a_o_counts, .ref a_o_premises, .int s_o_rows, .ref a_o_stated, .ref a_o_marks, .int s_o_broken, .ref a_o_text, .int s_o_size, .ref a_o_sizes, .ref a_o_places])), (a_o_triples, .inl (fx_cI X, 404, .inl f_o_triples)), (a_o_rules, .inl (fx_cI X, 301, .inl f_o_rules)), (a_o_instances, .inl (fx_cI X, 301, .inl f_o_instances)), (a_o_counts, .inl (fx_cI X, 301, .inl f_o_counts)), (a_o_premises, .inl (fx_cI X, 903, .inl f_o_premises)), (a_o_stated, .inl (fx_cI X, 1204, .inl y38))]) hP hD [0, 6] [1, 2, 3, 4, 5] rfl rfl (by decide) (by decide) hk hFc hB ht [5, 0, 1, 2, 3, 4, 6] (by decide) rfl
            refine lv_goto (tgt := 652) hx hb dX6_chain_353 (by decide) ?_
            exact W.vret hx hb hr (fun t ht hW => ⟨⟨y38, rfl, h, by rw [ht]; exact hP, va_K.moved hW.alike hK, hD⟩, hS.F ht⟩) hS.2.2 dX6_chain_652
          have h := h.2 z4
          by_cases z5 : v19 = (nI 8)
          · have h := h.1 z5
            refine lv_tableIn (tgt := 356) hx hb dX6_chain_119 (by rw [z5]; decide) (by rw [z5]; decide) (by rw [z5]; rfl) (by decide) ?_
            refine lv_aload_n hx hb dX6_chain_356 rfl (lv_at hl 6 rfl) ?_
            refine lv_iload_n hx hb dX6_chain_357 rfl (lv_at hl 7 rfl) ?_
            refine lv_iconst (v := (nI 0)) hx hb dX6_chain_358 (by decide) ?_
            refine lv_iconst (v := (nI 4)) hx hb dX6_chain_359 (by decide) ?_
            refine vp_callSi (W.runV (As := [.int p1, .int (nI 0), .int (nI 4)]) (rest := []) ⟨hx, hb, hml, hown, hts⟩ (cw_X6_is l X a_o a_o_phrases a_o_axioms a_o_triples a_o_rules a_o_instances a_o_counts a_o_premises a_o_stated a_o_marks a_o_text a_o_sizes a_o_places s_o_axiomCount s_o_tripleCount s_o_rows s_o_broken s_o_size f_o_premises f_o_stated p1 (nI 0) (nI 4) _ h) (cwV 3 hts gX6_chain_X6_is rfl rfl rfl (by decide +kernel) ⟨Nat.le_of_ble_eq_true rfl, Nat.le_of_ble_eq_true rfl⟩) (fx_pv hP hK hG hS (va_recv hK hP (ci := 5) (q0 := 0) rfl rfl) [0, 5, 6] rfl) rfl rfl hl.1 rfl (lv_room (Nat.le_of_ble_eq_true rfl)) dX6_chain_360 ⟨Nat.le_of_ble_eq_true rfl, Nat.le_of_ble_eq_true rfl⟩) (fun r39 h => ?_)
            refine fx_if_eq (tgt := 652) hx hb h dX6_chain_363 (by decide) (fun h => ?_) (fun h => ?_)
            · exact W.vret hx hb hr (fun t ht hW => ⟨⟨f_o_stated, rfl, h, by rw [ht]; exact hP, va_K.moved hW.alike hK, hD⟩, hS.F ht⟩) hS.2.2 dX6_chain_652
            refine lv_iload_n hx hb dX6_chain_366 rfl (lv_at hl 5 rfl) ?_
            refine fx_if_eq (tgt := 652) hx hb h dX6_chain_367 (by decide) (fun h => ?_) (fun h => ?_)
            · exact W.vret hx hb hr (fun t ht hW => ⟨⟨f_o_stated, rfl, h, by rw [ht]; exact hP, va_K.moved hW.alike hK, hD⟩, hS.F ht⟩) hS.2.2 dX6_chain_652
            refine lv_iload hx hb dX6_chain_370 (lv_at hl 3 rfl) ?_
            refine lv_iload hx hb dX6_chain_372 (lv_at hl 1 rfl) ?_
            refine fx_icmp_ne (tgt := 652) hx hb h dX6_chain_374 (by decide) (fun h => ?_) (fun h => ?_)
            · exact W.vret hx hb hr (fun t ht hW => ⟨⟨f_o_stated, rfl, h, by rw [ht]; exact hP, va_K.moved hW.alike hK, hD⟩, hS.F ht⟩) hS.2.2 dX6_chain_652
            refine lv_aload_n hx hb dX6_chain_377 rfl (lv_at hl 6 rfl) ?_
            refine lv_iload_n hx hb dX6_chain_378 rfl (lv_at hl 7 rfl) ?_
            refine lv_bipush (v := (nI 11)) hx hb dX6_chain_379 (by decide) ?_
            refine lv_iload hx hb dX6_chain_381 (lv_at hl 2 rfl) ?_
            refine lv_iconst (v := (nI 0)) hx hb dX6_chain_383 (by decide) ?_
            refine lv_iload hx hb dX6_chain_384 (lv_at hl 0 rfl) ?_
            have hFc := va_free (wc := [(a_o, .inr (5, [.ref a_o_phrases, .ref a_o_axioms, .int s_o_axiomCount, .ref a_o_triples, .int s_o_tripleCount, .ref a_o_rules, .ref a_o_instances, .ref a_o_counts, .ref a_o_premises, .int s_o_rows, .ref a_o_stated, .ref a_o_marks, .int s_o_broken, .ref a_o_text, .int s_o_size, .ref a_o_sizes, .ref a_o_places])), (a_o_stated, .inl (fx_cI X, 1204, .inl f_o_stated))]) hD hS hA [0, 6] rfl
            refine va_callv (va_runV (As := [.int p1, .int (nI 11), .int x15, .int (nI 0), .int r18]) (rest := []) ⟨hx, hb, hml, hown, hts⟩ (cw_X6_state l X a_o a_o_phrases a_o_axioms a_o_triples a_o_rules a_o_instances a_o_counts a_o_premises a_o_stated a_o_marks a_o_text a_o_sizes a_o_places s_o_axiomCount s_o_tripleCount s_o_rows s_o_broken s_o_size f_o_stated _ p1 (nI 11) x15 (nI 0) r18 _ h) (cwV 5 hts gX6_chain_X6_state rfl rfl rfl (by decide +kernel) ⟨Nat.le_of_ble_eq_true rfl, Nat.le_of_ble_eq_true rfl⟩) (fx_pvW hP hD hK hG hS hFc (va_recv hK hP (ci := 5) (q0 := 0) rfl rfl) [0, 6] (by decide) rfl) rfl rfl hl.1 rfl (lv_room (Nat.le_of_ble_eq_true rfl)) dX6_chain_386 ⟨Nat.le_of_ble_eq_true rfl, Nat.le_of_ble_eq_true rfl⟩) hS (fun q _ h => hFc q h) hFc (fun u t H locs ht hvm h hB _ hk hS => ?_)
            obtain ⟨y40, rfl⟩ : ∃ z, z = u := ⟨_, rfl⟩
            obtain ⟨hP, hD⟩ := fx_back (wr := [(a_o_triples, .inl (fx_cI X, 404, .inl f_o_triples)), (a_o_rules, .inl (fx_cI X, 301, .inl f_o_rules)), (a_o_instances, .inl (fx_cI X, 301, .inl f_o_instances)), (a_o_counts, .inl (fx_cI X, 301, .inl f_o_counts)), (a_o_premises, .inl (fx_cI X, 903, .inl f_o_premises))]) (ws' := [(a_o, .inr (5, [.ref a_o_phrases, .ref a_o_axioms, .int s_o_axiomCount, .ref a_o_triples, .int s_o_tripleCount, .ref a_o_rules, .ref a_o_instances, .ref a_o_counts, .ref a_o_premises, .int s_o_rows, .ref a_o_stated, .ref a_o_marks, .int s_o_broken, .ref a_o_text, .int s_o_size, .ref a_o_sizes, .ref a_o_places])), (a_o_triples, .inl (fx_cI X, 404, .inl f_o_triples)), (a_o_rules, .inl (fx_cI X, 301, .inl f_o_rules)), (a_o_instances, .inl (fx_cI X, 301, .inl f_o_instances)), (a_o_counts, .inl (fx_cI X, 301, .inl f_o_counts)), (a_o_premises, .inl (fx_cI X, 903, .inl f_o_premises)), (a_o_stated, .inl (fx_cI X, 1204, .inl y40))]) hP hD [0, 6] [1, 2, 3, 4, 5] rfl rfl (by decide) (by decide) hk hFc hB ht [5, 0, 1, 2, 3, 4, 6] (by decide) rfl
            refine lv_goto (tgt := 652) hx hb dX6_chain_389 (by decide) ?_
            exact W.vret hx hb hr (fun t ht hW => ⟨⟨y40, rfl, h, by rw [ht]; exact hP, va_K.moved hW.alike hK, hD⟩, hS.F ht⟩) hS.2.2 dX6_chain_652
          have h := h.2 z5
          by_cases z6 : v19 = (nI 9)
          · have h := h.1 z6
            refine lv_tableIn (tgt := 392) hx hb dX6_chain_119 (by rw [z6]; decide) (by rw [z6]; decide) (by rw [z6]; rfl) (by decide) ?_
            refine lv_aload_n hx hb dX6_chain_392 rfl (lv_at hl 6 rfl) ?_
            refine lv_iload_n hx hb dX6_chain_393 rfl (lv_at hl 7 rfl) ?_
            refine lv_iconst (v := (nI 0)) hx hb dX6_chain_394 (by decide) ?_
            refine lv_bipush (v := (nI 7)) hx hb dX6_chain_395 (by decide) ?_
            refine vp_callSi (W.runV (As := [.int p1, .int (nI 0), .int (nI 7)]) (rest := []) ⟨hx, hb, hml, hown, hts⟩ (cw_X6_is l X a_o a_o_phrases a_o_axioms a_o_triples a_o_rules a_o_instances a_o_counts a_o_premises a_o_stated a_o_marks a_o_text a_o_sizes a_o_places s_o_axiomCount s_o_tripleCount s_o_rows s_o_broken s_o_size f_o_premises f_o_stated p1 (nI 0) (nI 7) _ h) (cwV 3 hts gX6_chain_X6_is rfl rfl rfl (by decide +kernel) ⟨Nat.le_of_ble_eq_true rfl, Nat.le_of_ble_eq_true rfl⟩) (fx_pv hP hK hG hS (va_recv hK hP (ci := 5) (q0 := 0) rfl rfl) [0, 5, 6] rfl) rfl rfl hl.1 rfl (lv_room (Nat.le_of_ble_eq_true rfl)) dX6_chain_397 ⟨Nat.le_of_ble_eq_true rfl, Nat.le_of_ble_eq_true rfl⟩) (fun r41 h => ?_)
            refine fx_if_eq (tgt := 652) hx hb h dX6_chain_400 (by decide) (fun h => ?_) (fun h => ?_)
            · exact W.vret hx hb hr (fun t ht hW => ⟨⟨f_o_stated, rfl, h, by rw [ht]; exact hP, va_K.moved hW.alike hK, hD⟩, hS.F ht⟩) hS.2.2 dX6_chain_652
            refine lv_iload_n hx hb dX6_chain_403 rfl (lv_at hl 5 rfl) ?_
            refine fx_if_eq (tgt := 652) hx hb h dX6_chain_404 (by decide) (fun h => ?_) (fun h => ?_)
            · exact W.vret hx hb hr (fun t ht hW => ⟨⟨f_o_stated, rfl, h, by rw [ht]; exact hP, va_K.moved hW.alike hK, hD⟩, hS.F ht⟩) hS.2.2 dX6_chain_652
            refine lv_iload hx hb dX6_chain_407 (lv_at hl 3 rfl) ?_
            refine lv_iload hx hb dX6_chain_409 (lv_at hl 1 rfl) ?_
            refine fx_icmp_ne (tgt := 652) hx hb h dX6_chain_411 (by decide) (fun h => ?_) (fun h => ?_)
            · exact W.vret hx hb hr (fun t ht hW => ⟨⟨f_o_stated, rfl, h, by rw [ht]; exact hP, va_K.moved hW.alike hK, hD⟩, hS.F ht⟩) hS.2.2 dX6_chain_652
            refine lv_aload_n hx hb dX6_chain_414 rfl (lv_at hl 6 rfl) ?_
            refine lv_iload_n hx hb dX6_chain_415 rfl (lv_at hl 7 rfl) ?_
            refine lv_bipush (v := (nI 11)) hx hb dX6_chain_416 (by decide) ?_
            refine lv_iload hx hb dX6_chain_418 (lv_at hl 2 rfl) ?_
            refine lv_iload hx hb dX6_chain_420 (lv_at hl 3 rfl) ?_
            refine lv_iload_n hx hb dX6_chain_422 rfl (lv_at hl 4 rfl) ?_
            have hFc := va_free (wc := [(a_o, .inr (5, [.ref a_o_phrases, .ref a_o_axioms, .int s_o_axiomCount, .ref a_o_triples, .int s_o_tripleCount, .ref a_o_rules, .ref a_o_instances, .ref a_o_counts, .ref a_o_premises, .int s_o_rows, .ref a_o_stated, .ref a_o_marks, .int s_o_broken, .ref a_o_text, .int s_o_size, .ref a_o_sizes, .ref a_o_places])), (a_o_stated, .inl (fx_cI X, 1204, .inl f_o_stated))]) hD hS hA [0, 6] rfl
            refine va_callv (va_runV (As := [.int p1, .int (nI 11), .int x15, .int x11, .int x7]) (rest := []) ⟨hx, hb, hml, hown, hts⟩ (cw_X6_state l X a_o a_o_phrases a_o_axioms a_o_triples a_o_rules a_o_instances a_o_counts a_o_premises a_o_stated a_o_marks a_o_text a_o_sizes a_o_places s_o_axiomCount s_o_tripleCount s_o_rows s_o_broken s_o_size f_o_stated _ p1 (nI 11) x15 x11 x7 _ h) (cwV 5 hts gX6_chain_X6_state rfl rfl rfl (by decide +kernel) ⟨Nat.le_of_ble_eq_true rfl, Nat.le_of_ble_eq_true rfl⟩) (fx_pvW hP hD hK hG hS hFc (va_recv hK hP (ci := 5) (q0 := 0) rfl rfl) [0, 6] (by decide) rfl) rfl rfl hl.1 rfl (lv_room (Nat.le_of_ble_eq_true rfl)) dX6_chain_423 ⟨Nat.le_of_ble_eq_true rfl, Nat.le_of_ble_eq_true rfl⟩) hS (fun q _ h => hFc q h) hFc (fun u t H locs ht hvm h hB _ hk hS => ?_)
            obtain ⟨y42, rfl⟩ : ∃ z, z = u := ⟨_, rfl⟩
            obtain ⟨hP, hD⟩ := fx_back (wr := [(a_o_triples, .inl (fx_cI X, 404, .inl f_o_triples)), (a_o_rules, .inl (fx_cI X, 301, .inl f_o_rules)), (a_o_instances, .inl (fx_cI X, 301, .inl f_o_instances)), (a_o_counts, .inl (fx_cI X, 301, .inl f_o_counts)), (a_o_premises, .inl (fx_cI X, 903, .inl f_o_premises))]) (ws' := [(a_o, .inr (5, [.ref a_o_phrases, .ref a_o_axioms, .int s_o_axiomCount, .ref a_o_triples, .int s_o_tripleCount, .ref a_o_rules, .ref a_o_instances, .ref a_o_counts, .ref a_o_premises, .int s_o_rows, .ref a_o_stated, .ref a_o_marks, .int s_o_broken, .ref a_o_text, .int s_o_size, .ref a_o_sizes, .ref a_o_places])), (a_o_triples, .inl (fx_cI X, 404, .inl f_o_triples)), (a_o_rules, .inl (fx_cI X, 301, .inl f_o_rules)), (a_o_instances, .inl (fx_cI X, 301, .inl f_o_instances)), (a_o_counts, .inl (fx_cI X, 301, .inl f_o_counts)), (a_o_premises, .inl (fx_cI X, 903, .inl f_o_premises)), (a_o_stated, .inl (fx_cI X, 1204, .inl y42))]) hP hD [0, 6] [1, 2, 3, 4, 5] rfl rfl (by decide) (by decide) hk hFc hB ht [5, 0, 1, 2, 3, 4, 6] (by decide) rfl
            refine lv_goto (tgt := 652) hx hb dX6_chain_426 (by decide) ?_
            exact W.vret hx hb hr (fun t ht hW => ⟨⟨y42, rfl, h, by rw [ht]; exact hP, va_K.moved hW.alike hK, hD⟩, hS.F ht⟩) hS.2.2 dX6_chain_652
          have h := h.2 z6
          by_cases z7 : v19 = (nI 10)
          · have h := h.1 z7
            refine lv_tableIn (tgt := 627) hx hb dX6_chain_119 (by rw [z7]; decide) (by rw [z7]; decide) (by rw [z7]; rfl) (by decide) ?_
            refine lv_iload_n hx hb dX6_chain_627 rfl (lv_at hl 5 rfl) ?_
            refine fx_if_eq (tgt := 652) hx hb h dX6_chain_628 (by decide) (fun h => ?_) (fun h => ?_)
            · exact W.vret hx hb hr (fun t ht hW => ⟨⟨f_o_stated, rfl, h, by rw [ht]; exact hP, va_K.moved hW.alike hK, hD⟩, hS.F ht⟩) hS.2.2 dX6_chain_652
            refine lv_aload_n hx hb dX6_chain_631 rfl (lv_at hl 6 rfl) ?_
            refine lv_iload_n hx hb dX6_chain_632 rfl (lv_at hl 7 rfl) ?_
            refine lv_iconst (v := (nI 2)) hx hb dX6_chain_633 (by decide) ?_
            refine lv_bipush (v := (nI 11)) hx hb dX6_chain_634 (by decide) ?_
            refine vp_callSi (W.runV (As := [.int p1, .int (nI 2), .int (nI 11)]) (rest := []) ⟨hx, hb, hml, hown, hts⟩ (cw_X6_is l X a_o a_o_phrases a_o_axioms a_o_triples a_o_rules a_o_instances a_o_counts a_o_premises a_o_stated a_o_marks a_o_text a_o_sizes a_o_places s_o_axiomCount s_o_tripleCount s_o_rows s_o_broken s_o_size f_o_premises f_o_stated p1 (nI 2) (nI 11) _ h) (cwV 3 hts gX6_chain_X6_is rfl rfl rfl (by decide +kernel) ⟨Nat.le_of_ble_eq_true rfl, Nat.le_of_ble_eq_true rfl⟩) (fx_pv hP hK hG hS (va_recv hK hP (ci := 5) (q0 := 0) rfl rfl) [0, 5, 6] rfl) rfl rfl hl.1 rfl (lv_room (Nat.le_of_ble_eq_true rfl)) dX6_chain_636 ⟨Nat.le_of_ble_eq_true rfl, Nat.le_of_ble_eq_true rfl⟩) (fun r43 h => ?_)
            refine fx_if_eq (tgt := 652) hx hb h dX6_chain_639 (by decide) (fun h => ?_) (fun h => ?_)
            · exact W.vret hx hb hr (fun t ht hW => ⟨⟨f_o_stated, rfl, h, by rw [ht]; exact hP, va_K.moved hW.alike hK, hD⟩, hS.F ht⟩) hS.2.2 dX6_chain_652
            refine lv_aload_n hx hb dX6_chain_642 rfl (lv_at hl 6 rfl) ?_
            refine lv_iload_n hx hb dX6_chain_643 rfl (lv_at hl 7 rfl) ?_
            refine lv_iload_n hx hb dX6_chain_644 rfl (lv_at hl 4 rfl) ?_
            refine lv_iload hx hb dX6_chain_645 (lv_at hl 3 rfl) ?_
            refine lv_iload hx hb dX6_chain_647 (lv_at hl 2 rfl) ?_
            have hFc := va_free (wc := [(a_o, .inr (5, [.ref a_o_phrases, .ref a_o_axioms, .int s_o_axiomCount, .ref a_o_triples, .int s_o_tripleCount, .ref a_o_rules, .ref a_o_instances, .ref a_o_counts, .ref a_o_premises, .int s_o_rows, .ref a_o_stated, .ref a_o_marks, .int s_o_broken, .ref a_o_text, .int s_o_size, .ref a_o_sizes, .ref a_o_places])), (a_o_rules, .inl (fx_cI X, 301, .inl f_o_rules)), (a_o_premises, .inl (fx_cI X, 903, .inl f_o_premises)), (a_o_stated, .inl (fx_cI X, 1204, .inl f_o_stated))]) hD hS hA [0, 2, 5, 6] rfl
            refine va_callv (va_runV (As := [.int p1, .int x7, .int x11, .int x15]) (rest := []) ⟨hx, hb, hml, hown, hts⟩ (cw_X6_three l X a_o a_o_phrases a_o_axioms a_o_triples a_o_rules a_o_instances a_o_counts a_o_premises a_o_stated a_o_marks a_o_text a_o_sizes a_o_places s_o_axiomCount s_o_tripleCount s_o_rows s_o_broken s_o_size f_o_rules f_o_premises f_o_stated _ p1 x7 x11 x15 _ h) (cwV 4 hts gX6_chain_X6_three rfl rfl rfl (by decide +kernel) ⟨Nat.le_of_ble_eq_true rfl, Nat.le_of_ble_eq_true rfl⟩) (fx_pvW hP hD hK hG hS hFc (va_recv hK hP (ci := 5) (q0 := 0) rfl rfl) [0, 2, 5, 6] (by decide) rfl) rfl rfl hl.1 rfl (lv_room (Nat.le_of_ble_eq_true rfl)) dX6_chain_649 ⟨Nat.le_of_ble_eq_true rfl, Nat.le_of_ble_eq_true rfl⟩) hS (fun q _ h => hFc q h) hFc (fun u t H locs ht hvm h hB _ hk hS => ?_)
            obtain ⟨y44, rfl⟩ : ∃ z, z = u := ⟨_, rfl⟩
            obtain ⟨hP, hD⟩ := fx_back (wr := [(a_o_triples, .inl (fx_cI X, 404, .inl f_o_triples)), (a_o_instances, .inl (fx_cI X, 301, .inl f_o_instances)), (a_o_counts, .inl (fx_cI X, 301, .inl f_o_counts))]) (ws' := [(a_o, .inr (5, [.ref a_o_phrases, .ref a_o_axioms, .int s_o_axiomCount, .ref a_o_triples, .int s_o_tripleCount, .ref a_o_rules, .ref a_o_instances, .ref a_o_counts, .ref a_o_premises, .int s_o_rows, .ref a_o_stated, .ref a_o_marks, .int s_o_broken, .ref a_o_text, .int s_o_size, .ref a_o_sizes, .ref a_o_places])), (a_o_triples, .inl (fx_cI X, 404, .inl f_o_triples)), (a_o_rules, .inl (fx_cI X, 301, .inl f_o_rules)), (a_o_instances, .inl (fx_cI X, 301, .inl f_o_instances)), (a_o_counts, .inl (fx_cI X, 301, .inl f_o_counts)), (a_o_premises, .inl (fx_cI X, 903, .inl f_o_premises)), (a_o_stated, .inl (fx_cI X, 1204, .inl y44))]) hP hD [0, 2, 5, 6] [1, 3, 4] rfl rfl (by decide) (by decide) hk hFc hB ht [3, 0, 4, 1, 2, 5, 6] (by decide) rfl
            exact W.vret hx hb hr (fun t ht hW => ⟨⟨y44, rfl, h, by rw [ht]; exact hP, va_K.moved hW.alike hK, hD⟩, hS.F ht⟩) hS.2.2 dX6_chain_652
          have h := h.2 z7
          by_cases z8 : v19 = (nI 11)
          · have h := h.1 z8
            refine lv_tableIn (tgt := 429) hx hb dX6_chain_119 (by rw [z8]; decide) (by rw [z8]; decide) (by rw [z8]; rfl) (by decide) ?_
            refine lv_aload_n hx hb dX6_chain_429 rfl (lv_at hl 6 rfl) ?_
            refine lv_iload_n hx hb dX6_chain_430 rfl (lv_at hl 7 rfl) ?_
            refine lv_iconst (v := (nI 0)) hx hb dX6_chain_431 (by decide) ?_
            refine lv_bipush (v := (nI 8)) hx hb dX6_chain_432 (by decide) ?_
            refine vp_callSi (W.runV (As := [.int p1, .int (nI 0), .int (nI 8)]) (rest := []) ⟨hx, hb, hml, hown, hts⟩ (cw_X6_is l X a_o a_o_phrases a_o_axioms a_o_triples a_o_rules a_o_instances a_o_counts a_o_premises a_o_stated a_o_marks a_o_text a_o_sizes a_o_places s_o_axiomCount s_o_tripleCount s_o_rows s_o_broken s_o_size f_o_premises f_o_stated p1 (nI 0) (nI 8) _ h) (cwV 3 hts gX6_chain_X6_is rfl rfl rfl (by decide +kernel) ⟨Nat.le_of_ble_eq_true rfl, Nat.le_of_ble_eq_true rfl⟩) (fx_pv hP hK hG hS (va_recv hK hP (ci := 5) (q0 := 0) rfl rfl) [0, 5, 6] rfl) rfl rfl hl.1 rfl (lv_room (Nat.le_of_ble_eq_true rfl)) dX6_chain_434 ⟨Nat.le_of_ble_eq_true rfl, Nat.le_of_ble_eq_true rfl⟩) (fun r45 h => ?_)
            refine fx_if_eq (tgt := 652) hx hb h dX6_chain_437 (by decide) (fun h => ?_) (fun h => ?_)
            · exact W.vret hx hb hr (fun t ht hW => ⟨⟨f_o_stated, rfl, h, by rw [ht]; exact hP, va_K.moved hW.alike hK, hD⟩, hS.F ht⟩) hS.2.2 dX6_chain_652
            refine lv_iload_n hx hb dX6_chain_440 rfl (lv_at hl 5 rfl) ?_
            refine fx_if_eq (tgt := 652) hx hb h dX6_chain_441 (by decide) (fun h => ?_) (fun h => ?_)
            · exact W.vret hx hb hr (fun t ht hW => ⟨⟨f_o_stated, rfl, h, by rw [ht]; exact hP, va_K.moved hW.alike hK, hD⟩, hS.F ht⟩) hS.2.2 dX6_chain_652
            refine lv_iload hx hb dX6_chain_444 (lv_at hl 3 rfl) ?_
            refine lv_iload hx hb dX6_chain_446 (lv_at hl 1 rfl) ?_
            refine fx_icmp_ne (tgt := 652) hx hb h dX6_chain_448 (by decide) (fun h => ?_) (fun h => ?_)
            · exact W.vret hx hb hr (fun t ht hW => ⟨⟨f_o_stated, rfl, h, by rw [ht]; exact hP, va_K.moved hW.alike hK, hD⟩, hS.F ht⟩) hS.2.2 dX6_chain_652
            refine lv_aload_n hx hb dX6_chain_451 rfl (lv_at hl 6 rfl) ?_
            refine lv_iload_n hx hb dX6_chain_452 rfl (lv_at hl 7 rfl) ?_
            refine lv_bipush (v := (nI 11)) hx hb dX6_chain_453 (by decide) ?_
            refine lv_iload hx hb dX6_chain_455 (lv_at hl 2 rfl) ?_
            refine lv_iload hx hb dX6_chain_457 (lv_at hl 0 rfl) ?_
            refine lv_iload_n hx hb dX6_chain_459 rfl (lv_at hl 4 rfl) ?_
            have hFc := va_free (wc := [(a_o, .inr (5, [.ref a_o_phrases, .ref a_o_axioms, .int s_o_axiomCount, .ref a_o_triples, .int s_o_tripleCount, .ref a_o_rules, .ref a_o_instances, .ref a_o_counts, .ref a_o_premises, .int s_o_rows, .ref a_o_stated, .ref a_o_marks, .int s_o_broken, .ref a_o_text, .int s_o_size, .ref a_o_sizes, .ref a_o_places])), (a_o_stated, .inl (fx_cI X, 1204, .inl f_o_stated))]) hD hS hA [0, 6] rfl
            refine va_callv (va_runV (As := [.int p1, .int (nI 11), .int x15, .int r18, .int x7]) (rest := []) ⟨hx, hb, hml, hown, hts⟩ (cw_X6_state l X a_o a_o_phrases a_o_axioms a_o_triples a_o_rules a_o_instances a_o_counts a_o_premises a_o_stated a_o_marks a_o_text a_o_sizes a_o_places s_o_axiomCount s_o_tripleCount s_o_rows s_o_broken s_o_size f_o_stated _ p1 (nI 11) x15 r18 x7 _ h) (cwV 5 hts gX6_chain_X6_state rfl rfl rfl (by decide +kernel) ⟨Nat.le_of_ble_eq_true rfl, Nat.le_of_ble_eq_true rfl⟩) (fx_pvW hP hD hK hG hS hFc (va_recv hK hP (ci := 5) (q0 := 0) rfl rfl) [0, 6] (by decide) rfl) rfl rfl hl.1 rfl (lv_room (Nat.le_of_ble_eq_true rfl)) dX6_chain_460 ⟨Nat.le_of_ble_eq_true rfl, Nat.le_of_ble_eq_true rfl⟩) hS (fun q _ h => hFc q h) hFc (fun u t H locs ht hvm h hB _ hk hS => ?_)
            obtain ⟨y46, rfl⟩ : ∃ z, z = u := ⟨_, rfl⟩
            obtain ⟨hP, hD⟩ := fx_back (wr := [(a_o_triples, .inl (fx_cI X, 404, .inl f_o_triples)), (a_o_rules, .inl (fx_cI X, 301, .inl f_o_rules)), (a_o_instances, .inl (fx_cI X, 301, .inl f_o_instances)), (a_o_counts, .inl (fx_cI X, 301, .inl f_o_counts)), (a_o_premises, .inl (fx_cI X, 903, .inl f_o_premises))]) (ws' := [(a_o, .inr (5, [.ref a_o_phrases, .ref a_o_axioms, .int s_o_axiomCount, .ref a_o_triples, .int s_o_tripleCount, .ref a_o_rules, .ref a_o_instances, .ref a_o_counts, .ref a_o_premises, .int s_o_rows, .ref a_o_stated, .ref a_o_marks, .int s_o_broken, .ref a_o_text, .int s_o_size, .ref a_o_sizes, .ref a_o_places])), (a_o_triples, .inl (fx_cI X, 404, .inl f_o_triples)), (a_o_rules, .inl (fx_cI X, 301, .inl f_o_rules)), (a_o_instances, .inl (fx_cI X, 301, .inl f_o_instances)), (a_o_counts, .inl (fx_cI X, 301, .inl f_o_counts)), (a_o_premises, .inl (fx_cI X, 903, .inl f_o_premises)), (a_o_stated, .inl (fx_cI X, 1204, .inl y46))]) hP hD [0, 6] [1, 2, 3, 4, 5] rfl rfl (by decide) (by decide) hk hFc hB ht [5, 0, 1, 2, 3, 4, 6] (by decide) rfl
            refine lv_goto (tgt := 652) hx hb dX6_chain_463 (by decide) ?_
            exact W.vret hx hb hr (fun t ht hW => ⟨⟨y46, rfl, h, by rw [ht]; exact hP, va_K.moved hW.alike hK, hD⟩, hS.F ht⟩) hS.2.2 dX6_chain_652
          have h := h.2 z8
          by_cases z9 : v19 = (nI 12)
          · have h := h.1 z9
            refine lv_tableIn (tgt := 561) hx hb dX6_chain_119 (by rw [z9]; decide) (by rw [z9]; decide) (by rw [z9]; rfl) (by decide) ?_
            refine lv_aload_n hx hb dX6_chain_561 rfl (lv_at hl 6 rfl) ?_
            refine lv_iload_n hx hb dX6_chain_562 rfl (lv_at hl 7 rfl) ?_
            refine lv_iconst (v := (nI 0)) hx hb dX6_chain_563 (by decide) ?_
            refine lv_bipush (v := (nI 11)) hx hb dX6_chain_564 (by decide) ?_
            refine vp_callSi (W.runV (As := [.int p1, .int (nI 0), .int (nI 11)]) (rest := []) ⟨hx, hb, hml, hown, hts⟩ (cw_X6_is l X a_o a_o_phrases a_o_axioms a_o_triples a_o_rules a_o_instances a_o_counts a_o_premises a_o_stated a_o_marks a_o_text a_o_sizes a_o_places s_o_axiomCount s_o_tripleCount s_o_rows s_o_broken s_o_size f_o_premises f_o_stated p1 (nI 0) (nI 11) _ h) (cwV 3 hts gX6_chain_X6_is rfl rfl rfl (by decide +kernel) ⟨Nat.le_of_ble_eq_true rfl, Nat.le_of_ble_eq_true rfl⟩) (fx_pv hP hK hG hS (va_recv hK hP (ci := 5) (q0 := 0) rfl rfl) [0, 5, 6] rfl) rfl rfl hl.1 rfl (lv_room (Nat.le_of_ble_eq_true rfl)) dX6_chain_566 ⟨Nat.le_of_ble_eq_true rfl, Nat.le_of_ble_eq_true rfl⟩) (fun r47 h => ?_)
            refine fx_if_eq (tgt := 652) hx hb h dX6_chain_569 (by decide) (fun h => ?_) (fun h => ?_)
            · exact W.vret hx hb hr (fun t ht hW => ⟨⟨f_o_stated, rfl, h, by rw [ht]; exact hP, va_K.moved hW.alike hK, hD⟩, hS.F ht⟩) hS.2.2 dX6_chain_652
            refine lv_iload hx hb dX6_chain_572 (lv_at hl 0 rfl) ?_
            refine lv_iconst (v := (nI 1)) hx hb dX6_chain_574 (by decide) ?_
            refine fx_icmp_ne (tgt := 652) hx hb h dX6_chain_575 (by decide) (fun h => ?_) (fun h => ?_)
            · exact W.vret hx hb hr (fun t ht hW => ⟨⟨f_o_stated, rfl, h, by rw [ht]; exact hP, va_K.moved hW.alike hK, hD⟩, hS.F ht⟩) hS.2.2 dX6_chain_652
            refine lv_aload_n hx hb dX6_chain_578 rfl (lv_at hl 6 rfl) ?_
            refine lv_iload_n hx hb dX6_chain_579 rfl (lv_at hl 7 rfl) ?_
            refine lv_bipush (v := (nI 11)) hx hb dX6_chain_580 (by decide) ?_
            refine lv_aload_n hx hb dX6_chain_582 rfl (lv_at hl 6 rfl) ?_
            refine lv_iload_n hx hb dX6_chain_583 rfl (lv_at hl 7 rfl) ?_
            refine lv_iconst (v := (nI 0)) hx hb dX6_chain_584 (by decide) ?_
            refine lv_iconst (v := (nI 3)) hx hb dX6_chain_585 (by decide) ?_
            refine vp_callSi (W.runV (As := [.int p1, .int (nI 0), .int (nI 3)]) (rest := [.int (nI 11), .int p1, .ref a_o]) ⟨hx, hb, hml, hown, hts⟩ (cw_X6_of l X a_o a_o_phrases a_o_axioms a_o_triples a_o_rules a_o_instances a_o_counts a_o_premises a_o_stated a_o_marks a_o_text a_o_sizes a_o_places s_o_axiomCount s_o_tripleCount s_o_rows s_o_broken s_o_size f_o_premises f_o_stated p1 (nI 0) (nI 3) _ h) (cwV 3 hts gX6_chain_X6_of rfl rfl rfl (by decide +kernel) ⟨Nat.le_of_ble_eq_true rfl, Nat.le_of_ble_eq_true rfl⟩) (fx_pv hP hK hG hS (va_recv hK hP (ci := 5) (q0 := 0) rfl rfl) [0, 5, 6] rfl) rfl rfl hl.1 rfl (lv_room (Nat.le_of_ble_eq_true rfl)) dX6_chain_586 ⟨Nat.le_of_ble_eq_true rfl, Nat.le_of_ble_eq_true rfl⟩) (fun r48 h => ?_)
            refine lv_iconst (v := (nI 1)) hx hb dX6_chain_589 (by decide) ?_
            refine lv_iload hx hb dX6_chain_590 (lv_at hl 1 rfl) ?_
            have hFc := va_free (wc := [(a_o, .inr (5, [.ref a_o_phrases, .ref a_o_axioms, .int s_o_axiomCount, .ref a_o_triples, .int s_o_tripleCount, .ref a_o_rules, .ref a_o_instances, .ref a_o_counts, .ref a_o_premises, .int s_o_rows, .ref a_o_stated, .ref a_o_marks, .int s_o_broken, .ref a_o_text, .int s_o_size, .ref a_o_sizes, .ref a_o_places])), (a_o_stated, .inl (fx_cI X, 1204, .inl f_o_stated))]) hD hS hA [0, 6] rfl
            refine va_callv (va_runV (As := [.int p1, .int (nI 11), .int r48, .int (nI 1), .int r17]) (rest := []) ⟨hx, hb, hml, hown, hts⟩ (cw_X6_state l X a_o a_o_phrases a_o_axioms a_o_triples a_o_rules a_o_instances a_o_counts a_o_premises a_o_stated a_o_marks a_o_text a_o_sizes a_o_places s_o_axiomCount s_o_tripleCount s_o_rows s_o_broken s_o_size f_o_stated _ p1 (nI 11) r48 (nI 1) r17 _ h) (cwV 5 hts gX6_chain_X6_state rfl rfl rfl (by decide +kernel) ⟨Nat.le_of_ble_eq_true rfl, Nat.le_of_ble_eq_true rfl⟩) (fx_pvW hP hD hK hG hS hFc (va_recv hK hP (ci := 5) (q0 := 0) rfl rfl) [0, 6] (by decide) rfl) rfl rfl hl.1 rfl (lv_room (Nat.le_of_ble_eq_true rfl)) dX6_chain_592 ⟨Nat.le_of_ble_eq_true rfl, Nat.le_of_ble_eq_true rfl⟩) hS (fun q _ h => hFc q h) hFc (fun u t H locs ht hvm h hB _ hk hS => ?_)
            obtain ⟨y49, rfl⟩ : ∃ z, z = u := ⟨_, rfl⟩
            obtain ⟨hP, hD⟩ := fx_back (wr := [(a_o_triples, .inl (fx_cI X, 404, .inl f_o_triples)), (a_o_rules, .inl (fx_cI X, 301, .inl f_o_rules)), (a_o_instances, .inl (fx_cI X, 301, .inl f_o_instances)), (a_o_counts, .inl (fx_cI X, 301, .inl f_o_counts)), (a_o_premises, .inl (fx_cI X, 903, .inl f_o_premises))]) (ws' := [(a_o, .inr (5, [.ref a_o_phrases, .ref a_o_axioms, .int s_o_axiomCount, .ref a_o_triples, .int s_o_tripleCount, .ref a_o_rules, .ref a_o_instances, .ref a_o_counts, .ref a_o_premises, .int s_o_rows, .ref a_o_stated, .ref a_o_marks, .int s_o_broken, .ref a_o_text, .int s_o_size, .ref a_o_sizes, .ref a_o_places])), (a_o_triples, .inl (fx_cI X, 404, .inl f_o_triples)), (a_o_rules, .inl (fx_cI X, 301, .inl f_o_rules)), (a_o_instances, .inl (fx_cI X, 301, .inl f_o_instances)), (a_o_counts, .inl (fx_cI X, 301, .inl f_o_counts)), (a_o_premises, .inl (fx_cI X, 903, .inl f_o_premises)), (a_o_stated, .inl (fx_cI X, 1204, .inl y49))]) hP hD [0, 6] [1, 2, 3, 4, 5] rfl rfl (by decide) (by decide) hk hFc hB ht [5, 0, 1, 2, 3, 4, 6] (by decide) rfl
            refine lv_goto (tgt := 652) hx hb dX6_chain_595 (by decide) ?_
            exact W.vret hx hb hr (fun t ht hW => ⟨⟨y49, rfl, h, by rw [ht]; exact hP, va_K.moved hW.alike hK, hD⟩, hS.F ht⟩) hS.2.2 dX6_chain_652
          have h := h.2 z9
          by_cases z10 : v19 = (nI 13)
          · have h := h.1 z10
            refine lv_tableIn (tgt := 466) hx hb dX6_chain_119 (by rw [z10]; decide) (by rw [z10]; decide) (by rw [z10]; rfl) (by decide) ?_
            refine lv_aload_n hx hb dX6_chain_466 rfl (lv_at hl 6 rfl) ?_
            refine lv_iload_n hx hb dX6_chain_467 rfl (lv_at hl 7 rfl) ?_
            refine lv_iconst (v := (nI 0)) hx hb dX6_chain_468 (by decide) ?_
            refine lv_bipush (v := (nI 11)) hx hb dX6_chain_469 (by decide) ?_
            refine vp_callSi (W.runV (As := [.int p1, .int (nI 0), .int (nI 11)]) (rest := []) ⟨hx, hb, hml, hown, hts⟩ (cw_X6_is l X a_o a_o_phrases a_o_axioms a_o_triples a_o_rules a_o_instances a_o_counts a_o_premises a_o_stated a_o_marks a_o_text a_o_sizes a_o_places s_o_axiomCount s_o_tripleCount s_o_rows s_o_broken s_o_size f_o_premises f_o_stated p1 (nI 0) (nI 11) _ h) (cwV 3 hts gX6_chain_X6_is rfl rfl rfl (by decide +kernel) ⟨Nat.le_of_ble_eq_true rfl, Nat.le_of_ble_eq_true rfl⟩) (fx_pv hP hK hG hS (va_recv hK hP (ci := 5) (q0 := 0) rfl rfl) [0, 5, 6] rfl) rfl rfl hl.1 rfl (lv_room (Nat.le_of_ble_eq_true rfl)) dX6_chain_471 ⟨Nat.le_of_ble_eq_true rfl, Nat.le_of_ble_eq_true rfl⟩) (fun r50 h => ?_)
            refine fx_if_eq (tgt := 652) hx hb h dX6_chain_474 (by decide) (fun h => ?_) (fun h => ?_)
            · exact W.vret hx hb hr (fun t ht hW => ⟨⟨f_o_stated, rfl, h, by rw [ht]; exact hP, va_K.moved hW.alike hK, hD⟩, hS.F ht⟩) hS.2.2 dX6_chain_652
            refine lv_iload hx hb dX6_chain_477 (lv_at hl 0 rfl) ?_
            refine lv_iconst (v := (nI 1)) hx hb dX6_chain_479 (by decide) ?_
            refine fx_icmp_ne (tgt := 652) hx hb h dX6_chain_480 (by decide) (fun h => ?_) (fun h => ?_)
            · exact W.vret hx hb hr (fun t ht hW => ⟨⟨f_o_stated, rfl, h, by rw [ht]; exact hP, va_K.moved hW.alike hK, hD⟩, hS.F ht⟩) hS.2.2 dX6_chain_652
            refine lv_iload_n hx hb dX6_chain_483 rfl (lv_at hl 5 rfl) ?_
            refine fx_if_eq (tgt := 652) hx hb h dX6_chain_484 (by decide) (fun h => ?_) (fun h => ?_)
            · exact W.vret hx hb hr (fun t ht hW => ⟨⟨f_o_stated, rfl, h, by rw [ht]; exact hP, va_K.moved hW.alike hK, hD⟩, hS.F ht⟩) hS.2.2 dX6_chain_652
            refine lv_iload_n hx hb dX6_chain_487 rfl (lv_at hl 4 rfl) ?_
            refine lv_iload hx hb dX6_chain_488 (lv_at hl 1 rfl) ?_
            refine fx_icmp_ne (tgt := 652) hx hb h dX6_chain_490 (by decide) (fun h => ?_) (fun h => ?_)
            · exact W.vret hx hb hr (fun t ht hW => ⟨⟨f_o_stated, rfl, h, by rw [ht]; exact hP, va_K.moved hW.alike hK, hD⟩, hS.F ht⟩) hS.2.2 dX6_chain_652
            refine lv_aload_n hx hb dX6_chain_493 rfl (lv_at hl 6 rfl) ?_
            refine lv_iload_n hx hb dX6_chain_494 rfl (lv_at hl 7 rfl) ?_
            refine lv_bipush (v := (nI 11)) hx hb dX6_chain_495 (by decide) ?_
            refine lv_aload_n hx hb dX6_chain_497 rfl (lv_at hl 6 rfl) ?_
            refine lv_iload_n hx hb dX6_chain_498 rfl (lv_at hl 7 rfl) ?_
            refine lv_iconst (v := (nI 0)) hx hb dX6_chain_499 (by decide) ?_
            refine lv_iconst (v := (nI 3)) hx hb dX6_chain_500 (by decide) ?_
            refine vp_callSi (W.runV (As := [.int p1, .int (nI 0), .int (nI 3)]) (rest := [.int (nI 11), .int p1, .ref a_o]) ⟨hx, hb, hml, hown, hts⟩ (cw_X6_of l X a_o a_o_phrases a_o_axioms a_o_triples a_o_rules a_o_instances a_o_counts a_o_premises a_o_stated a_o_marks a_o_text a_o_sizes a_o_places s_o_axiomCount s_o_tripleCount s_o_rows s_o_broken s_o_size f_o_premises f_o_stated p1 (nI 0) (nI 3) _ h) (cwV 3 hts gX6_chain_X6_of rfl rfl rfl (by decide +kernel) ⟨Nat.le_of_ble_eq_true rfl, Nat.le_of_ble_eq_true rfl⟩) (fx_pv hP hK hG hS (va_recv hK hP (ci := 5) (q0 := 0) rfl rfl) [0, 5, 6] rfl) rfl rfl hl.1 rfl (lv_room (Nat.le_of_ble_eq_true rfl)) dX6_chain_501 ⟨Nat.le_of_ble_eq_true rfl, Nat.le_of_ble_eq_true rfl⟩) (fun r51 h => ?_)
            refine lv_iload hx hb dX6_chain_504 (lv_at hl 3 rfl) ?_
            refine lv_iload hx hb dX6_chain_506 (lv_at hl 2 rfl) ?_
            have hFc := va_free (wc := [(a_o, .inr (5, [.ref a_o_phrases, .ref a_o_axioms, .int s_o_axiomCount, .ref a_o_triples, .int s_o_tripleCount, .ref a_o_rules, .ref a_o_instances, .ref a_o_counts, .ref a_o_premises, .int s_o_rows, .ref a_o_stated, .ref a_o_marks, .int s_o_broken, .ref a_o_text, .int s_o_size, .ref a_o_sizes, .ref a_o_places])), (a_o_stated, .inl (fx_cI X, 1204, .inl f_o_stated))]) hD hS hA [0, 6] rfl
            refine va_callv (va_runV (As := [.int p1, .int (nI 11), .int r51, .int x11, .int x15]) (rest := []) ⟨hx, hb, hml, hown, hts⟩ (cw_X6_state l X a_o a_o_phrases a_o_axioms a_o_triples a_o_rules a_o_instances a_o_counts a_o_premises a_o_stated a_o_marks a_o_text a_o_sizes a_o_places s_o_axiomCount s_o_tripleCount s_o_rows s_o_broken s_o_size f_o_stated _ p1 (nI 11) r51 x11 x15 _ h) (cwV 5 hts gX6_chain_X6_state rfl rfl rfl (by decide +kernel) ⟨Nat.le_of_ble_eq_true rfl, Nat.le_of_ble_eq_true rfl⟩) (fx_pvW hP hD hK hG hS hFc (va_recv hK hP (ci := 5) (q0 := 0) rfl rfl) [0, 6] (by decide) rfl) rfl rfl hl.1 rfl (lv_room (Nat.le_of_ble_eq_true rfl)) dX6_chain_508 ⟨Nat.le_of_ble_eq_true rfl, Nat.le_of_ble_eq_true rfl⟩) hS (fun q _ h => hFc q h) hFc (fun u t H locs ht hvm h hB _ hk hS => ?_)
            obtain ⟨y52, rfl⟩ : ∃ z, z = u := ⟨_, rfl⟩
            obtain ⟨hP, hD⟩ := fx_back (wr := [(a_o_triples, .inl (fx_cI X, 404, .inl f_o_triples)), (a_o_rules, .inl (fx_cI X, 301, .inl f_o_rules)), (a_o_instances, .inl (fx_cI X, 301, .inl f_o_instances)), (a_o_counts, .inl (fx_cI X, 301, .inl f_o_counts)), (a_o_premises, .inl (fx_cI X, 903, .inl f_o_premises))]) (ws' := [(a_o, .inr (5, [.ref a_o_phrases, .ref a_o_axioms, .int s_o_axiomCount, .ref a_o_triples, .int s_o_tripleCount, .ref a_o_rules, .ref a_o_instances, .ref a_o_counts, .ref a_o_premises, .int s_o_rows, .ref a_o_stated, .ref a_o_marks, .int s_o_broken, .ref a_o_text, .int s_o_size, .ref a_o_sizes, .ref a_o_places])), (a_o_triples, .inl (fx_cI X, 404, .inl f_o_triples)), (a_o_rules, .inl (fx_cI X, 301, .inl f_o_rules)), (a_o_instances, .inl (fx_cI X, 301, .inl f_o_instances)), (a_o_counts, .inl (fx_cI X, 301, .inl f_o_counts)), (a_o_premises, .inl (fx_cI X, 903, .inl f_o_premises)), (a_o_stated, .inl (fx_cI X, 1204, .inl y52))]) hP hD [0, 6] [1, 2, 3, 4, 5] rfl rfl (by decide) (by decide) hk hFc hB ht [5, 0, 1, 2, 3, 4, 6] (by decide) rfl
            refine lv_goto (tgt := 652) hx hb dX6_chain_511 (by decide) ?_
            exact W.vret hx hb hr (fun t ht hW => ⟨⟨y52, rfl, h, by rw [ht]; exact hP, va_K.moved hW.alike hK, hD⟩, hS.F ht⟩) hS.2.2 dX6_chain_652
          have h := h.2 z10
          by_cases z11 : v19 = (nI 14)
          · have h := h.1 z11
            refine lv_tableIn (tgt := 627) hx hb dX6_chain_119 (by rw [z11]; decide) (by rw [z11]; decide) (by rw [z11]; rfl) (by decide) ?_
            refine lv_iload_n hx hb dX6_chain_627 rfl (lv_at hl 5 rfl) ?_
            refine fx_if_eq (tgt := 652) hx hb h dX6_chain_628 (by decide) (fun h => ?_) (fun h => ?_)
            · exact W.vret hx hb hr (fun t ht hW => ⟨⟨f_o_stated, rfl, h, by rw [ht]; exact hP, va_K.moved hW.alike hK, hD⟩, hS.F ht⟩) hS.2.2 dX6_chain_652
            refine lv_aload_n hx hb dX6_chain_631 rfl (lv_at hl 6 rfl) ?_
            refine lv_iload_n hx hb dX6_chain_632 rfl (lv_at hl 7 rfl) ?_
            refine lv_iconst (v := (nI 2)) hx hb dX6_chain_633 (by decide) ?_
            refine lv_bipush (v := (nI 11)) hx hb dX6_chain_634 (by decide) ?_
            refine vp_callSi (W.runV (As := [.int p1, .int (nI 2), .int (nI 11)]) (rest := []) ⟨hx, hb, hml, hown, hts⟩ (cw_X6_is l X a_o a_o_phrases a_o_axioms a_o_triples a_o_rules a_o_instances a_o_counts a_o_premises a_o_stated a_o_marks a_o_text a_o_sizes a_o_places s_o_axiomCount s_o_tripleCount s_o_rows s_o_broken s_o_size f_o_premises f_o_stated p1 (nI 2) (nI 11) _ h) (cwV 3 hts gX6_chain_X6_is rfl rfl rfl (by decide +kernel) ⟨Nat.le_of_ble_eq_true rfl, Nat.le_of_ble_eq_true rfl⟩) (fx_pv hP hK hG hS (va_recv hK hP (ci := 5) (q0 := 0) rfl rfl) [0, 5, 6] rfl) rfl rfl hl.1 rfl (lv_room (Nat.le_of_ble_eq_true rfl)) dX6_chain_636 ⟨Nat.le_of_ble_eq_true rfl, Nat.le_of_ble_eq_true rfl⟩) (fun r53 h => ?_)
            refine fx_if_eq (tgt := 652) hx hb h dX6_chain_639 (by decide) (fun h => ?_) (fun h => ?_)
            · exact W.vret hx hb hr (fun t ht hW => ⟨⟨f_o_stated, rfl, h, by rw [ht]; exact hP, va_K.moved hW.alike hK, hD⟩, hS.F ht⟩) hS.2.2 dX6_chain_652
            refine lv_aload_n hx hb dX6_chain_642 rfl (lv_at hl 6 rfl) ?_
            refine lv_iload_n hx hb dX6_chain_643 rfl (lv_at hl 7 rfl) ?_
            refine lv_iload_n hx hb dX6_chain_644 rfl (lv_at hl 4 rfl) ?_
            refine lv_iload hx hb dX6_chain_645 (lv_at hl 3 rfl) ?_
            refine lv_iload hx hb dX6_chain_647 (lv_at hl 2 rfl) ?_
            have hFc := va_free (wc := [(a_o, .inr (5, [.ref a_o_phrases, .ref a_o_axioms, .int s_o_axiomCount, .ref a_o_triples, .int s_o_tripleCount, .ref a_o_rules, .ref a_o_instances, .ref a_o_counts, .ref a_o_premises, .int s_o_rows, .ref a_o_stated, .ref a_o_marks, .int s_o_broken, .ref a_o_text, .int s_o_size, .ref a_o_sizes, .ref a_o_places])), (a_o_rules, .inl (fx_cI X, 301, .inl f_o_rules)), (a_o_premises, .inl (fx_cI X, 903, .inl f_o_premises)), (a_o_stated, .inl (fx_cI X, 1204, .inl f_o_stated))]) hD hS hA [0, 2, 5, 6] rfl
            refine va_callv (va_runV (As := [.int p1, .int x7, .int x11, .int x15]) (rest := []) ⟨hx, hb, hml, hown, hts⟩ (cw_X6_three l X a_o a_o_phrases a_o_axioms a_o_triples a_o_rules a_o_instances a_o_counts a_o_premises a_o_stated a_o_marks a_o_text a_o_sizes a_o_places s_o_axiomCount s_o_tripleCount s_o_rows s_o_broken s_o_size f_o_rules f_o_premises f_o_stated _ p1 x7 x11 x15 _ h) (cwV 4 hts gX6_chain_X6_three rfl rfl rfl (by decide +kernel) ⟨Nat.le_of_ble_eq_true rfl, Nat.le_of_ble_eq_true rfl⟩) (fx_pvW hP hD hK hG hS hFc (va_recv hK hP (ci := 5) (q0 := 0) rfl rfl) [0, 2, 5, 6] (by decide) rfl) rfl rfl hl.1 rfl (lv_room (Nat.le_of_ble_eq_true rfl)) dX6_chain_649 ⟨Nat.le_of_ble_eq_true rfl, Nat.le_of_ble_eq_true rfl⟩) hS (fun q _ h => hFc q h) hFc (fun u t H locs ht hvm h hB _ hk hS => ?_)
            obtain ⟨y54, rfl⟩ : ∃ z, z = u := ⟨_, rfl⟩
            obtain ⟨hP, hD⟩ := fx_back (wr := [(a_o_triples, .inl (fx_cI X, 404, .inl f_o_triples)), (a_o_instances, .inl (fx_cI X, 301, .inl f_o_instances)), (a_o_counts, .inl (fx_cI X, 301, .inl f_o_counts))]) (ws' := [(a_o, .inr (5, [.ref a_o_phrases, .ref a_o_axioms, .int s_o_axiomCount, .ref a_o_triples, .int s_o_tripleCount, .ref a_o_rules, .ref a_o_instances, .ref a_o_counts, .ref a_o_premises, .int s_o_rows, .ref a_o_stated, .ref a_o_marks, .int s_o_broken, .ref a_o_text, .int s_o_size, .ref a_o_sizes, .ref a_o_places])), (a_o_triples, .inl (fx_cI X, 404, .inl f_o_triples)), (a_o_rules, .inl (fx_cI X, 301, .inl f_o_rules)), (a_o_instances, .inl (fx_cI X, 301, .inl f_o_instances)), (a_o_counts, .inl (fx_cI X, 301, .inl f_o_counts)), (a_o_premises, .inl (fx_cI X, 903, .inl f_o_premises)), (a_o_stated, .inl (fx_cI X, 1204, .inl y54))]) hP hD [0, 2, 5, 6] [1, 3, 4] rfl rfl (by decide) (by decide) hk hFc hB ht [3, 0, 4, 1, 2, 5, 6] (by decide) rfl
            exact W.vret hx hb hr (fun t ht hW => ⟨⟨y54, rfl, h, by rw [ht]; exact hP, va_K.moved hW.alike hK, hD⟩, hS.F ht⟩) hS.2.2 dX6_chain_652
          have h := h.2 z11
          by_cases z12 : v19 = (nI 15)
          · have h := h.1 z12
            refine lv_tableIn (tgt := 627) hx hb dX6_chain_119 (by rw [z12]; decide) (by rw [z12]; decide) (by rw [z12]; rfl) (by decide) ?_
            refine lv_iload_n hx hb dX6_chain_627 rfl (lv_at hl 5 rfl) ?_
            refine fx_if_eq (tgt := 652) hx hb h dX6_chain_628 (by decide) (fun h => ?_) (fun h => ?_)
            · exact W.vret hx hb hr (fun t ht hW => ⟨⟨f_o_stated, rfl, h, by rw [ht]; exact hP, va_K.moved hW.alike hK, hD⟩, hS.F ht⟩) hS.2.2 dX6_chain_652
            refine lv_aload_n hx hb dX6_chain_631 rfl (lv_at hl 6 rfl) ?_
            refine lv_iload_n hx hb dX6_chain_632 rfl (lv_at hl 7 rfl) ?_
            refine lv_iconst (v := (nI 2)) hx hb dX6_chain_633 (by decide) ?_
            refine lv_bipush (v := (nI 11)) hx hb dX6_chain_634 (by decide) ?_
            refine vp_callSi (W.runV (As := [.int p1, .int (nI 2), .int (nI 11)]) (rest := []) ⟨hx, hb, hml, hown, hts⟩ (cw_X6_is l X a_o a_o_phrases a_o_axioms a_o_triples a_o_rules a_o_instances a_o_counts a_o_premises a_o_stated a_o_marks a_o_text a_o_sizes a_o_places s_o_axiomCount s_o_tripleCount s_o_rows s_o_broken s_o_size f_o_premises f_o_stated p1 (nI 2) (nI 11) _ h) (cwV 3 hts gX6_chain_X6_is rfl rfl rfl (by decide +kernel) ⟨Nat.le_of_ble_eq_true rfl, Nat.le_of_ble_eq_true rfl⟩) (fx_pv hP hK hG hS (va_recv hK hP (ci := 5) (q0 := 0) rfl rfl) [0, 5, 6] rfl) rfl rfl hl.1 rfl (lv_room (Nat.le_of_ble_eq_true rfl)) dX6_chain_636 ⟨Nat.le_of_ble_eq_true rfl, Nat.le_of_ble_eq_true rfl⟩) (fun r55 h => ?_)
            refine fx_if_eq (tgt := 652) hx hb h dX6_chain_639 (by decide) (fun h => ?_) (fun h => ?_)
            · exact W.vret hx hb hr (fun t ht hW => ⟨⟨f_o_stated, rfl, h, by rw [ht]; exact hP, va_K.moved hW.alike hK, hD⟩, hS.F ht⟩) hS.2.2 dX6_chain_652
            refine lv_aload_n hx hb dX6_chain_642 rfl (lv_at hl 6 rfl) ?_
            refine lv_iload_n hx hb dX6_chain_643 rfl (lv_at hl 7 rfl) ?_
            refine lv_iload_n hx hb dX6_chain_644 rfl (lv_at hl 4 rfl) ?_
            refine lv_iload hx hb dX6_chain_645 (lv_at hl 3 rfl) ?_
            refine lv_iload hx hb dX6_chain_647 (lv_at hl 2 rfl) ?_
            have hFc := va_free (wc := [(a_o, .inr (5, [.ref a_o_phrases, .ref a_o_axioms, .int s_o_axiomCount, .ref a_o_triples, .int s_o_tripleCount, .ref a_o_rules, .ref a_o_instances, .ref a_o_counts, .ref a_o_premises, .int s_o_rows, .ref a_o_stated, .ref a_o_marks, .int s_o_broken, .ref a_o_text, .int s_o_size, .ref a_o_sizes, .ref a_o_places])), (a_o_rules, .inl (fx_cI X, 301, .inl f_o_rules)), (a_o_premises, .inl (fx_cI X, 903, .inl f_o_premises)), (a_o_stated, .inl (fx_cI X, 1204, .inl f_o_stated))]) hD hS hA [0, 2, 5, 6] rfl
            refine va_callv (va_runV (As := [.int p1, .int x7, .int x11, .int x15]) (rest := []) ⟨hx, hb, hml, hown, hts⟩ (cw_X6_three l X a_o a_o_phrases a_o_axioms a_o_triples a_o_rules a_o_instances a_o_counts a_o_premises a_o_stated a_o_marks a_o_text a_o_sizes a_o_places s_o_axiomCount s_o_tripleCount s_o_rows s_o_broken s_o_size f_o_rules f_o_premises f_o_stated _ p1 x7 x11 x15 _ h) (cwV 4 hts gX6_chain_X6_three rfl rfl rfl (by decide +kernel) ⟨Nat.le_of_ble_eq_true rfl, Nat.le_of_ble_eq_true rfl⟩) (fx_pvW hP hD hK hG hS hFc (va_recv hK hP (ci := 5) (q0 := 0) rfl rfl) [0, 2, 5, 6] (by decide) rfl) rfl rfl hl.1 rfl (lv_room (Nat.le_of_ble_eq_true rfl)) dX6_chain_649 ⟨Nat.le_of_ble_eq_true rfl, Nat.le_of_ble_eq_true rfl⟩) hS (fun q _ h => hFc q h) hFc (fun u t H locs ht hvm h hB _ hk hS => ?_)
            obtain ⟨y56, rfl⟩ : ∃ z, z = u := ⟨_, rfl⟩
            obtain ⟨hP, hD⟩ := fx_back (wr := [(a_o_triples, .inl (fx_cI X, 404, .inl f_o_triples)), (a_o_instances, .inl (fx_cI X, 301, .inl f_o_instances)), (a_o_counts, .inl (fx_cI X, 301, .inl f_o_counts))]) (ws' := [(a_o, .inr (5, [.ref a_o_phrases, .ref a_o_axioms, .int s_o_axiomCount, .ref a_o_triples, .int s_o_tripleCount, .ref a_o_rules, .ref a_o_instances, .ref a_o_counts, .ref a_o_premises, .int s_o_rows, .ref a_o_stated, .ref a_o_marks, .int s_o_broken, .ref a_o_text, .int s_o_size, .ref a_o_sizes, .ref a_o_places])), (a_o_triples, .inl (fx_cI X, 404, .inl f_o_triples)), (a_o_rules, .inl (fx_cI X, 301, .inl f_o_rules)), (a_o_instances, .inl (fx_cI X, 301, .inl f_o_instances)), (a_o_counts, .inl (fx_cI X, 301, .inl f_o_counts)), (a_o_premises, .inl (fx_cI X, 903, .inl f_o_premises)), (a_o_stated, .inl (fx_cI X, 1204, .inl y56))]) hP hD [0, 2, 5, 6] [1, 3, 4] rfl rfl (by decide) (by decide) hk hFc hB ht [3, 0, 4, 1, 2, 5, 6] (by decide) rfl
            exact W.vret hx hb hr (fun t ht hW => ⟨⟨y56, rfl, h, by rw [ht]; exact hP, va_K.moved hW.alike hK, hD⟩, hS.F ht⟩) hS.2.2 dX6_chain_652
          have h := h.2 z12
          by_cases z13 : v19 = (nI 16)
          · have h := h.1 z13
            refine lv_tableIn (tgt := 514) hx hb dX6_chain_119 (by rw [z13]; decide) (by rw [z13]; decide) (by rw [z13]; rfl) (by decide) ?_
            refine lv_aload_n hx hb dX6_chain_514 rfl (lv_at hl 6 rfl) ?_
            refine lv_iload_n hx hb dX6_chain_515 rfl (lv_at hl 7 rfl) ?_
            refine lv_iconst (v := (nI 0)) hx hb dX6_chain_516 (by decide) ?_
            refine lv_bipush (v := (nI 10)) hx hb dX6_chain_517 (by decide) ?_
            refine vp_callSi (W.runV (As := [.int p1, .int (nI 0), .int (nI 10)]) (rest := []) ⟨hx, hb, hml, hown, hts⟩ (cw_X6_is l X a_o a_o_phrases a_o_axioms a_o_triples a_o_rules a_o_instances a_o_counts a_o_premises a_o_stated a_o_marks a_o_text a_o_sizes a_o_places s_o_axiomCount s_o_tripleCount s_o_rows s_o_broken s_o_size f_o_premises f_o_stated p1 (nI 0) (nI 10) _ h) (cwV 3 hts gX6_chain_X6_is rfl rfl rfl (by decide +kernel) ⟨Nat.le_of_ble_eq_true rfl, Nat.le_of_ble_eq_true rfl⟩) (fx_pv hP hK hG hS (va_recv hK hP (ci := 5) (q0 := 0) rfl rfl) [0, 5, 6] rfl) rfl rfl hl.1 rfl (lv_room (Nat.le_of_ble_eq_true rfl)) dX6_chain_519 ⟨Nat.le_of_ble_eq_true rfl, Nat.le_of_ble_eq_true rfl⟩) (fun r57 h => ?_)
            refine fx_if_eq (tgt := 652) hx hb h dX6_chain_522 (by decide) (fun h => ?_) (fun h => ?_)
            · exact W.vret hx hb hr (fun t ht hW => ⟨⟨f_o_stated, rfl, h, by rw [ht]; exact hP, va_K.moved hW.alike hK, hD⟩, hS.F ht⟩) hS.2.2 dX6_chain_652
            refine lv_iload_n hx hb dX6_chain_525 rfl (lv_at hl 5 rfl) ?_
            refine fx_if_eq (tgt := 652) hx hb h dX6_chain_526 (by decide) (fun h => ?_) (fun h => ?_)
            · exact W.vret hx hb hr (fun t ht hW => ⟨⟨f_o_stated, rfl, h, by rw [ht]; exact hP, va_K.moved hW.alike hK, hD⟩, hS.F ht⟩) hS.2.2 dX6_chain_652
            refine lv_iload hx hb dX6_chain_529 (lv_at hl 3 rfl) ?_
            refine lv_iconst (v := (nI 1)) hx hb dX6_chain_531 (by decide) ?_
            refine fx_icmp_ne (tgt := 652) hx hb h dX6_chain_532 (by decide) (fun h => ?_) (fun h => ?_)
            · exact W.vret hx hb hr (fun t ht hW => ⟨⟨f_o_stated, rfl, h, by rw [ht]; exact hP, va_K.moved hW.alike hK, hD⟩, hS.F ht⟩) hS.2.2 dX6_chain_652
            refine lv_iload_n hx hb dX6_chain_535 rfl (lv_at hl 4 rfl) ?_
            refine lv_iload hx hb dX6_chain_536 (lv_at hl 1 rfl) ?_
            refine fx_icmp_ne (tgt := 652) hx hb h dX6_chain_538 (by decide) (fun h => ?_) (fun h => ?_)
            · exact W.vret hx hb hr (fun t ht hW => ⟨⟨f_o_stated, rfl, h, by rw [ht]; exact hP, va_K.moved hW.alike hK, hD⟩, hS.F ht⟩) hS.2.2 dX6_chain_652
            refine lv_iload hx hb dX6_chain_541 (lv_at hl 2 rfl) ?_
            refine lv_iload hx hb dX6_chain_543 (lv_at hl 0 rfl) ?_
            refine fx_icmp_ne (tgt := 652) hx hb h dX6_chain_545 (by decide) (fun h => ?_) (fun h => ?_)
            · exact W.vret hx hb hr (fun t ht hW => ⟨⟨f_o_stated, rfl, h, by rw [ht]; exact hP, va_K.moved hW.alike hK, hD⟩, hS.F ht⟩) hS.2.2 dX6_chain_652
            refine lv_aload_n hx hb dX6_chain_548 rfl (lv_at hl 6 rfl) ?_
            refine lv_iload_n hx hb dX6_chain_549 rfl (lv_at hl 7 rfl) ?_
            refine lv_bipush (v := (nI 12)) hx hb dX6_chain_550 (by decide) ?_
            refine lv_iconst (v := (nI 0)) hx hb dX6_chain_552 (by decide) ?_
            refine lv_iconst (v := (nI 0)) hx hb dX6_chain_553 (by decide) ?_
            refine lv_iconst (v := (nI 0)) hx hb dX6_chain_554 (by decide) ?_
            have hFc := va_free (wc := [(a_o, .inr (5, [.ref a_o_phrases, .ref a_o_axioms, .int s_o_axiomCount, .ref a_o_triples, .int s_o_tripleCount, .ref a_o_rules, .ref a_o_instances, .ref a_o_counts, .ref a_o_premises, .int s_o_rows, .ref a_o_stated, .ref a_o_marks, .int s_o_broken, .ref a_o_text, .int s_o_size, .ref a_o_sizes, .ref a_o_places])), (a_o_stated, .inl (fx_cI X, 1204, .inl f_o_stated))]) hD hS hA [0, 6] rfl
            refine va_callv (va_runV (As := [.int p1, .int (nI 12), .int (nI 0), .int (nI 0), .int (nI 0)]) (rest := []) ⟨hx, hb, hml, hown, hts⟩ (cw_X6_state l X a_o a_o_phrases a_o_axioms a_o_triples a_o_rules a_o_instances a_o_counts a_o_premises a_o_stated a_o_marks a_o_text a_o_sizes a_o_places s_o_axiomCount s_o_tripleCount s_o_rows s_o_broken s_o_size f_o_stated _ p1 (nI 12) (nI 0) (nI 0) (nI 0) _ h) (cwV 5 hts gX6_chain_X6_state rfl rfl rfl (by decide +kernel) ⟨Nat.le_of_ble_eq_true rfl, Nat.le_of_ble_eq_true rfl⟩) (fx_pvW hP hD hK hG hS hFc (va_recv hK hP (ci := 5) (q0 := 0) rfl rfl) [0, 6] (by decide) rfl) rfl rfl hl.1 rfl (lv_room (Nat.le_of_ble_eq_true rfl)) dX6_chain_555 ⟨Nat.le_of_ble_eq_true rfl, Nat.le_of_ble_eq_true rfl⟩) hS (fun q _ h => hFc q h) hFc (fun u t H locs ht hvm h hB _ hk hS => ?_)
            obtain ⟨y58, rfl⟩ : ∃ z, z = u := ⟨_, rfl⟩
            obtain ⟨hP, hD⟩ := fx_back (wr := [(a_o_triples, .inl (fx_cI X, 404, .inl f_o_triples)), (a_o_rules, .inl (fx_cI X, 301, .inl f_o_rules)), (a_o_instances, .inl (fx_cI X, 301, .inl f_o_instances)), (a_o_counts, .inl (fx_cI X, 301, .inl f_o_counts)), (a_o_premises, .inl (fx_cI X, 903, .inl f_o_premises))]) (ws' := [(a_o, .inr (5, [.ref a_o_phrases, .ref a_o_axioms, .int s_o_axiomCount, .ref a_o_triples, .int s_o_tripleCount, .ref a_o_rules, .ref a_o_instances, .ref a_o_counts, .ref a_o_premises, .int s_o_rows, .ref a_o_stated, .ref a_o_marks, .int s_o_broken, .ref a_o_text, .int s_o_size, .ref a_o_sizes, .ref a_o_places])), (a_o_triples, .inl (fx_cI X, 404, .inl f_o_triples)), (a_o_rules, .inl (fx_cI X, 301, .inl f_o_rules)), (a_o_instances, .inl (fx_cI X, 301, .inl f_o_instances)), (a_o_counts, .inl (fx_cI X, 301, .inl f_o_counts)), (a_o_premises, .inl (fx_cI X, 903, .inl f_o_premises)), (a_o_stated, .inl (fx_cI X, 1204, .inl y58))]) hP hD [0, 6] [1, 2, 3, 4, 5] rfl rfl (by decide) (by decide) hk hFc hB ht [5, 0, 1, 2, 3, 4, 6] (by decide) rfl
            refine lv_goto (tgt := 652) hx hb dX6_chain_558 (by decide) ?_
            exact W.vret hx hb hr (fun t ht hW => ⟨⟨y58, rfl, h, by rw [ht]; exact hP, va_K.moved hW.alike hK, hD⟩, hS.F ht⟩) hS.2.2 dX6_chain_652
          have h := h.2 z13
          by_cases z14 : v19 = (nI 17)
          · have h := h.1 z14
            refine lv_tableIn (tgt := 598) hx hb dX6_chain_119 (by rw [z14]; decide) (by rw [z14]; decide) (by rw [z14]; rfl) (by decide) ?_
            refine lv_aload_n hx hb dX6_chain_598 rfl (lv_at hl 6 rfl) ?_
            refine lv_iload_n hx hb dX6_chain_599 rfl (lv_at hl 7 rfl) ?_
            refine lv_iconst (v := (nI 0)) hx hb dX6_chain_600 (by decide) ?_
            refine lv_bipush (v := (nI 12)) hx hb dX6_chain_601 (by decide) ?_
            refine vp_callSi (W.runV (As := [.int p1, .int (nI 0), .int (nI 12)]) (rest := []) ⟨hx, hb, hml, hown, hts⟩ (cw_X6_is l X a_o a_o_phrases a_o_axioms a_o_triples a_o_rules a_o_instances a_o_counts a_o_premises a_o_stated a_o_marks a_o_text a_o_sizes a_o_places s_o_axiomCount s_o_tripleCount s_o_rows s_o_broken s_o_size f_o_premises f_o_stated p1 (nI 0) (nI 12) _ h) (cwV 3 hts gX6_chain_X6_is rfl rfl rfl (by decide +kernel) ⟨Nat.le_of_ble_eq_true rfl, Nat.le_of_ble_eq_true rfl⟩) (fx_pv hP hK hG hS (va_recv hK hP (ci := 5) (q0 := 0) rfl rfl) [0, 5, 6] rfl) rfl rfl hl.1 rfl (lv_room (Nat.le_of_ble_eq_true rfl)) dX6_chain_603 ⟨Nat.le_of_ble_eq_true rfl, Nat.le_of_ble_eq_true rfl⟩) (fun r59 h => ?_)
            refine fx_if_eq (tgt := 652) hx hb h dX6_chain_606 (by decide) (fun h => ?_) (fun h => ?_)
            · exact W.vret hx hb hr (fun t ht hW => ⟨⟨f_o_stated, rfl, h, by rw [ht]; exact hP, va_K.moved hW.alike hK, hD⟩, hS.F ht⟩) hS.2.2 dX6_chain_652
            refine lv_aload_n hx hb dX6_chain_609 rfl (lv_at hl 6 rfl) ?_
            refine lv_aload_n hx hb dX6_chain_610 rfl (lv_at hl 6 rfl) ?_
            refine va_get (D := fx_D X) (ci := 5) (v := .ref a_o_triples) (C := RX6) (T := TX6) (N := 17) hx hb hts im_X6_chain_X6 hown hK hP 0 rfl rfl 3 (by decide) k125 (fun _ h9 => h9) rfl dX6_chain_611 ?_
            refine lv_aload_n hx hb dX6_chain_614 rfl (lv_at hl 6 rfl) ?_
            refine va_get (D := fx_D X) (ci := 5) (v := .ref a_o_instances) (C := RX6) (T := TX6) (N := 17) hx hb hts im_X6_chain_X6 hown hK hP 0 rfl rfl 6 (by decide) k131 (fun _ h9 => h9) rfl dX6_chain_615 ?_
            refine lv_iload_n hx hb dX6_chain_618 rfl (lv_at hl 7 rfl) ?_
            refine fx_iald hx hb hK hP 3 0 rfl rfl h dX6_chain_619 (fun v60 h => ?_)
            refine lv_iload_n hx hb dX6_chain_620 rfl (lv_at hl 7 rfl) ?_
            have hFc := va_free (wc := [(a_o, .inr (5, [.ref a_o_phrases, .ref a_o_axioms, .int s_o_axiomCount, .ref a_o_triples, .int s_o_tripleCount, .ref a_o_rules, .ref a_o_instances, .ref a_o_counts, .ref a_o_premises, .int s_o_rows, .ref a_o_stated, .ref a_o_marks, .int s_o_broken, .ref a_o_text, .int s_o_size, .ref a_o_sizes, .ref a_o_places])), (a_o_triples, .inl (fx_cI X, 404, .inl f_o_triples)), (a_o_stated, .inl (fx_cI X, 1204, .inl f_o_stated))]) hD hS hA [0, 1, 6] rfl
            refine va_callv (va_runV (As := [.ref a_o_triples, .int v60, .int p1]) (rest := []) ⟨hx, hb, hml, hown, hts⟩ (cw_X6_copy_t l X a_o a_o_phrases a_o_axioms a_o_triples a_o_rules a_o_instances a_o_counts a_o_premises a_o_stated a_o_marks a_o_text a_o_sizes a_o_places s_o_axiomCount s_o_tripleCount s_o_rows s_o_broken s_o_size f_o_triples f_o_stated _ v60 p1 _ h) (cwV 3 hts gX6_chain_X6_copy rfl rfl rfl (by decide +kernel) ⟨Nat.le_of_ble_eq_true rfl, Nat.le_of_ble_eq_true rfl⟩) (fx_pvW hP hD hK hG hS hFc (va_recv hK hP (ci := 5) (q0 := 0) rfl rfl) [0, 1, 6] (by decide) rfl) rfl rfl hl.1 rfl (lv_room (Nat.le_of_ble_eq_true rfl)) dX6_chain_621 ⟨Nat.le_of_ble_eq_true rfl, Nat.le_of_ble_eq_true rfl⟩) hS (fun q _ h => hFc q h) hFc (fun u t H locs ht hvm h hB _ hk hS => ?_)
            obtain ⟨y62, rfl⟩ : ∃ z, z = u := ⟨_, rfl⟩
            obtain ⟨hP, hD⟩ := fx_back (wr := [(a_o_rules, .inl (fx_cI X, 301, .inl f_o_rules)), (a_o_instances, .inl (fx_cI X, 301, .inl f_o_instances)), (a_o_counts, .inl (fx_cI X, 301, .inl f_o_counts)), (a_o_premises, .inl (fx_cI X, 903, .inl f_o_premises))]) (ws' := [(a_o, .inr (5, [.ref a_o_phrases, .ref a_o_axioms, .int s_o_axiomCount, .ref a_o_triples, .int s_o_tripleCount, .ref a_o_rules, .ref a_o_instances, .ref a_o_counts, .ref a_o_premises, .int s_o_rows, .ref a_o_stated, .ref a_o_marks, .int s_o_broken, .ref a_o_text, .int s_o_size, .ref a_o_sizes, .ref a_o_places])), (a_o_triples, .inl (fx_cI X, 404, .inl f_o_triples)), (a_o_rules, .inl (fx_cI X, 301, .inl f_o_rules)), (a_o_instances, .inl (fx_cI X, 301, .inl f_o_instances)), (a_o_counts, .inl (fx_cI X, 301, .inl f_o_counts)), (a_o_premises, .inl (fx_cI X, 903, .inl f_o_premises)), (a_o_stated, .inl (fx_cI X, 1204, .inl y62))]) hP hD [0, 1, 6] [2, 3, 4, 5] rfl rfl (by decide) (by decide) hk hFc hB ht [4, 5, 0, 1, 2, 3, 6] (by decide) rfl
            refine lv_goto (tgt := 652) hx hb dX6_chain_624 (by decide) ?_
            exact W.vret hx hb hr (fun t ht hW => ⟨⟨y62, rfl, h, by rw [ht]; exact hP, va_K.moved hW.alike hK, hD⟩, hS.F ht⟩) hS.2.2 dX6_chain_652
          have h := h.2 z14
          refine lv_tableOut (tgt := 627) hx hb dX6_chain_119 (fx_sw15_3 z0 z1 z2 z3 z4 z5 z6 z7 z8 z9 z10 z11 z12 z13 z14) (by decide) ?_
          refine lv_iload_n hx hb dX6_chain_627 rfl (lv_at hl 5 rfl) ?_
          refine fx_if_eq (tgt := 652) hx hb h dX6_chain_628 (by decide) (fun h => ?_) (fun h => ?_)
          · exact W.vret hx hb hr (fun t ht hW => ⟨⟨f_o_stated, rfl, h, by rw [ht]; exact hP, va_K.moved hW.alike hK, hD⟩, hS.F ht⟩) hS.2.2 dX6_chain_652
          refine lv_aload_n hx hb dX6_chain_631 rfl (lv_at hl 6 rfl) ?_
          refine lv_iload_n hx hb dX6_chain_632 rfl (lv_at hl 7 rfl) ?_
          refine lv_iconst (v := (nI 2)) hx hb dX6_chain_633 (by decide) ?_
          refine lv_bipush (v := (nI 11)) hx hb dX6_chain_634 (by decide) ?_
          refine vp_callSi (W.runV (As := [.int p1, .int (nI 2), .int (nI 11)]) (rest := []) ⟨hx, hb, hml, hown, hts⟩ (cw_X6_is l X a_o a_o_phrases a_o_axioms a_o_triples a_o_rules a_o_instances a_o_counts a_o_premises a_o_stated a_o_marks a_o_text a_o_sizes a_o_places s_o_axiomCount s_o_tripleCount s_o_rows s_o_broken s_o_size f_o_premises f_o_stated p1 (nI 2) (nI 11) _ h) (cwV 3 hts gX6_chain_X6_is rfl rfl rfl (by decide +kernel) ⟨Nat.le_of_ble_eq_true rfl, Nat.le_of_ble_eq_true rfl⟩) (fx_pv hP hK hG hS (va_recv hK hP (ci := 5) (q0 := 0) rfl rfl) [0, 5, 6] rfl) rfl rfl hl.1 rfl (lv_room (Nat.le_of_ble_eq_true rfl)) dX6_chain_636 ⟨Nat.le_of_ble_eq_true rfl, Nat.le_of_ble_eq_true rfl⟩) (fun r63 h => ?_)
          refine fx_if_eq (tgt := 652) hx hb h dX6_chain_639 (by decide) (fun h => ?_) (fun h => ?_)
          · exact W.vret hx hb hr (fun t ht hW => ⟨⟨f_o_stated, rfl, h, by rw [ht]; exact hP, va_K.moved hW.alike hK, hD⟩, hS.F ht⟩) hS.2.2 dX6_chain_652
          refine lv_aload_n hx hb dX6_chain_642 rfl (lv_at hl 6 rfl) ?_
          refine lv_iload_n hx hb dX6_chain_643 rfl (lv_at hl 7 rfl) ?_
          refine lv_iload_n hx hb dX6_chain_644 rfl (lv_at hl 4 rfl) ?_
          refine lv_iload hx hb dX6_chain_645 (lv_at hl 3 rfl) ?_
          refine lv_iload hx hb dX6_chain_647 (lv_at hl 2 rfl) ?_
          have hFc := va_free (wc := [(a_o, .inr (5, [.ref a_o_phrases, .ref a_o_axioms, .int s_o_axiomCount, .ref a_o_triples, .int s_o_tripleCount, .ref a_o_rules, .ref a_o_instances, .ref a_o_counts, .ref a_o_premises, .int s_o_rows, .ref a_o_stated, .ref a_o_marks, .int s_o_broken, .ref a_o_text, .int s_o_size, .ref a_o_sizes, .ref a_o_places])), (a_o_rules, .inl (fx_cI X, 301, .inl f_o_rules)), (a_o_premises, .inl (fx_cI X, 903, .inl f_o_premises)), (a_o_stated, .inl (fx_cI X, 1204, .inl f_o_stated))]) hD hS hA [0, 2, 5, 6] rfl
          refine va_callv (va_runV (As := [.int p1, .int x7, .int x11, .int x15]) (rest := []) ⟨hx, hb, hml, hown, hts⟩ (cw_X6_three l X a_o a_o_phrases a_o_axioms a_o_triples a_o_rules a_o_instances a_o_counts a_o_premises a_o_stated a_o_marks a_o_text a_o_sizes a_o_places s_o_axiomCount s_o_tripleCount s_o_rows s_o_broken s_o_size f_o_rules f_o_premises f_o_stated _ p1 x7 x11 x15 _ h) (cwV 4 hts gX6_chain_X6_three rfl rfl rfl (by decide +kernel) ⟨Nat.le_of_ble_eq_true rfl, Nat.le_of_ble_eq_true rfl⟩) (fx_pvW hP hD hK hG hS hFc (va_recv hK hP (ci := 5) (q0 := 0) rfl rfl) [0, 2, 5, 6] (by decide) rfl) rfl rfl hl.1 rfl (lv_room (Nat.le_of_ble_eq_true rfl)) dX6_chain_649 ⟨Nat.le_of_ble_eq_true rfl, Nat.le_of_ble_eq_true rfl⟩) hS (fun q _ h => hFc q h) hFc (fun u t H locs ht hvm h hB _ hk hS => ?_)
          obtain ⟨y64, rfl⟩ : ∃ z, z = u := ⟨_, rfl⟩
          obtain ⟨hP, hD⟩ := fx_back (wr := [(a_o_triples, .inl (fx_cI X, 404, .inl f_o_triples)), (a_o_instances, .inl (fx_cI X, 301, .inl f_o_instances)), (a_o_counts, .inl (fx_cI X, 301, .inl f_o_counts))]) (ws' := [(a_o, .inr (5, [.ref a_o_phrases, .ref a_o_axioms, .int s_o_axiomCount, .ref a_o_triples, .int s_o_tripleCount, .ref a_o_rules, .ref a_o_instances, .ref a_o_counts, .ref a_o_premises, .int s_o_rows, .ref a_o_stated, .ref a_o_marks, .int s_o_broken, .ref a_o_text, .int s_o_size, .ref a_o_sizes, .ref a_o_places])), (a_o_triples, .inl (fx_cI X, 404, .inl f_o_triples)), (a_o_rules, .inl (fx_cI X, 301, .inl f_o_rules)), (a_o_instances, .inl (fx_cI X, 301, .inl f_o_instances)), (a_o_counts, .inl (fx_cI X, 301, .inl f_o_counts)), (a_o_premises, .inl (fx_cI X, 903, .inl f_o_premises)), (a_o_stated, .inl (fx_cI X, 1204, .inl y64))]) hP hD [0, 2, 5, 6] [1, 3, 4] rfl rfl (by decide) (by decide) hk hFc hB ht [3, 0, 4, 1, 2, 5, 6] (by decide) rfl
          exact W.vret hx hb hr (fun t ht hW => ⟨⟨y64, rfl, h, by rw [ht]; exact hP, va_K.moved hW.alike hK, hD⟩, hS.F ht⟩) hS.2.2 dX6_chain_652
        refine fx_icmp_le (tgt := 92) hx hb h dX6_chain_79 (by decide) (fun h => ?_) (fun h => ?_)
        · refine lv_iconst (v := (nI 0)) hx hb dX6_chain_92 (by decide) ?_
          exact hK16 _ h _ _ _ hP hD hS (lv_sub hl [0, 1, 2, 3, 4] rfl)
        refine lv_aload_n hx hb dX6_chain_82 rfl (lv_at hl 3 rfl) ?_
        refine lv_iload_n hx hb dX6_chain_83 rfl (lv_at hl 4 rfl) ?_
        refine lv_iconst (v := (nI 1)) hx hb dX6_chain_84 (by decide) ?_
        refine lv_iconst (v := (nI 3)) hx hb dX6_chain_85 (by decide) ?_
        refine vp_callSi (W.runV (As := [.int p1, .int (nI 1), .int (nI 3)]) (rest := []) ⟨hx, hb, hml, hown, hts⟩ (cw_X6_of l X a_o a_o_phrases a_o_axioms a_o_triples a_o_rules a_o_instances a_o_counts a_o_premises a_o_stated a_o_marks a_o_text a_o_sizes a_o_places s_o_axiomCount s_o_tripleCount s_o_rows s_o_broken s_o_size f_o_premises f_o_stated p1 (nI 1) (nI 3) _ h) (cwV 3 hts gX6_chain_X6_of rfl rfl rfl (by decide +kernel) ⟨Nat.le_of_ble_eq_true rfl, Nat.le_of_ble_eq_true rfl⟩) (fx_pv hP hK hG hS (va_recv hK hP (ci := 5) (q0 := 0) rfl rfl) [0, 5, 6] rfl) rfl rfl hl.1 rfl (lv_room (Nat.le_of_ble_eq_true rfl)) dX6_chain_86 ⟨Nat.le_of_ble_eq_true rfl, Nat.le_of_ble_eq_true rfl⟩) (fun r65 h => ?_)
        refine lv_goto (tgt := 93) hx hb dX6_chain_89 (by decide) ?_
        exact hK16 _ h _ _ _ hP hD hS (lv_sub hl [0, 1, 2, 3, 4] rfl)
      refine fx_icmp_le (tgt := 69) hx hb h dX6_chain_56 (by decide) (fun h => ?_) (fun h => ?_)
      · refine lv_iconst (v := (nI 0)) hx hb dX6_chain_69 (by decide) ?_
        exact hK12 _ h _ _ _ hP hD hS (lv_sub hl [0, 1, 2, 3] rfl)
      refine lv_aload_n hx hb dX6_chain_59 rfl (lv_at hl 2 rfl) ?_
      refine lv_iload_n hx hb dX6_chain_60 rfl (lv_at hl 3 rfl) ?_
      refine lv_iconst (v := (nI 1)) hx hb dX6_chain_61 (by decide) ?_
      refine lv_iconst (v := (nI 2)) hx hb dX6_chain_62 (by decide) ?_
      refine vp_callSi (W.runV (As := [.int p1, .int (nI 1), .int (nI 2)]) (rest := []) ⟨hx, hb, hml, hown, hts⟩ (cw_X6_of l X a_o a_o_phrases a_o_axioms a_o_triples a_o_rules a_o_instances a_o_counts a_o_premises a_o_stated a_o_marks a_o_text a_o_sizes a_o_places s_o_axiomCount s_o_tripleCount s_o_rows s_o_broken s_o_size f_o_premises f_o_stated p1 (nI 1) (nI 2) _ h) (cwV 3 hts gX6_chain_X6_of rfl rfl rfl (by decide +kernel) ⟨Nat.le_of_ble_eq_true rfl, Nat.le_of_ble_eq_true rfl⟩) (fx_pv hP hK hG hS (va_recv hK hP (ci := 5) (q0 := 0) rfl rfl) [0, 5, 6] rfl) rfl rfl hl.1 rfl (lv_room (Nat.le_of_ble_eq_true rfl)) dX6_chain_63 ⟨Nat.le_of_ble_eq_true rfl, Nat.le_of_ble_eq_true rfl⟩) (fun r66 h => ?_)
      refine lv_goto (tgt := 70) hx hb dX6_chain_66 (by decide) ?_
      exact hK12 _ h _ _ _ hP hD hS (lv_sub hl [0, 1, 2, 3] rfl)
    refine fx_icmp_le (tgt := 47) hx hb h dX6_chain_34 (by decide) (fun h => ?_) (fun h => ?_)
    · refine lv_iconst (v := (nI 0)) hx hb dX6_chain_47 (by decide) ?_
      exact hK8 _ h _ _ _ hP hD hS (lv_sub hl [0, 1, 2] rfl)
    refine lv_aload_n hx hb dX6_chain_37 rfl (lv_at hl 1 rfl) ?_
    refine lv_iload_n hx hb dX6_chain_38 rfl (lv_at hl 2 rfl) ?_
    refine lv_iconst (v := (nI 1)) hx hb dX6_chain_39 (by decide) ?_
    refine lv_iconst (v := (nI 1)) hx hb dX6_chain_40 (by decide) ?_
    refine vp_callSi (W.runV (As := [.int p1, .int (nI 1), .int (nI 1)]) (rest := []) ⟨hx, hb, hml, hown, hts⟩ (cw_X6_of l X a_o a_o_phrases a_o_axioms a_o_triples a_o_rules a_o_instances a_o_counts a_o_premises a_o_stated a_o_marks a_o_text a_o_sizes a_o_places s_o_axiomCount s_o_tripleCount s_o_rows s_o_broken s_o_size f_o_premises f_o_stated p1 (nI 1) (nI 1) _ h) (cwV 3 hts gX6_chain_X6_of rfl rfl rfl (by decide +kernel) ⟨Nat.le_of_ble_eq_true rfl, Nat.le_of_ble_eq_true rfl⟩) (fx_pv hP hK hG hS (va_recv hK hP (ci := 5) (q0 := 0) rfl rfl) [0, 5, 6] rfl) rfl rfl hl.1 rfl (lv_room (Nat.le_of_ble_eq_true rfl)) dX6_chain_41 ⟨Nat.le_of_ble_eq_true rfl, Nat.le_of_ble_eq_true rfl⟩) (fun r67 h => ?_)
    refine lv_goto (tgt := 48) hx hb dX6_chain_44 (by decide) ?_
    exact hK8 _ h _ _ _ hP hD hS (lv_sub hl [0, 1, 2] rfl)
  refine fx_icmp_le (tgt := 25) hx hb h dX6_chain_7 (by decide) (fun h => ?_) (fun h => ?_)
  · refine lv_iconst (v := (nI 0)) hx hb dX6_chain_25 (by decide) ?_
    exact hK4 _ h _ _ _ hP hD hS (lv_sub hl [0, 1] rfl)
  refine lv_aload_n hx hb dX6_chain_10 rfl (lv_at hl 0 rfl) ?_
  refine lv_iload_n hx hb dX6_chain_11 rfl (lv_at hl 1 rfl) ?_
  refine lv_iconst (v := (nI 1)) hx hb dX6_chain_12 (by decide) ?_
  refine lv_bipush (v := (nI 11)) hx hb dX6_chain_13 (by decide) ?_
  refine vp_callSi (W.runV (As := [.int p1, .int (nI 1), .int (nI 11)]) (rest := []) ⟨hx, hb, hml, hown, hts⟩ (cw_X6_is l X a_o a_o_phrases a_o_axioms a_o_triples a_o_rules a_o_instances a_o_counts a_o_premises a_o_stated a_o_marks a_o_text a_o_sizes a_o_places s_o_axiomCount s_o_tripleCount s_o_rows s_o_broken s_o_size f_o_premises f_o_stated p1 (nI 1) (nI 11) _ h) (cwV 3 hts gX6_chain_X6_is rfl rfl rfl (by decide +kernel) ⟨Nat.le_of_ble_eq_true rfl, Nat.le_of_ble_eq_true rfl⟩) (fx_pv hP hK hG hS (va_recv hK hP (ci := 5) (q0 := 0) rfl rfl) [0, 5, 6] rfl) rfl rfl hl.1 rfl (lv_room (Nat.le_of_ble_eq_true rfl)) dX6_chain_15 ⟨Nat.le_of_ble_eq_true rfl, Nat.le_of_ble_eq_true rfl⟩) (fun r68 h => ?_)
  refine fx_if_eq (tgt := 25) hx hb h dX6_chain_18 (by decide) (fun h => ?_) (fun h => ?_)
  · refine lv_iconst (v := (nI 0)) hx hb dX6_chain_25 (by decide) ?_
    exact hK4 _ h _ _ _ hP hD hS (lv_sub hl [0, 1] rfl)
  refine lv_iconst (v := (nI 1)) hx hb dX6_chain_21 (by decide) ?_
  refine lv_goto (tgt := 26) hx hb dX6_chain_22 (by decide) ?_
  exact hK4 _ h _ _ _ hP hD hS (lv_sub hl [0, 1] rfl)

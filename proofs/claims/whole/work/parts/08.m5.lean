/-- X6_size: its walk -/
def wp_X6_size (post : Int32 → (Nat → Int32) → Prop) (s_o_rows : Int32) (f_o_counts : Nat → Int32) (f_o_premises : Nat → Int32) (f_o_sizes : Nat → Int32) (p1 : Int32) : Prop :=
  wp_X6_isRow (fun r1 => fx_br (r1 = 0) (post (-1) f_o_sizes) (fx_wh2 (fun (rec4 : Int32 → (Nat → Int32) → Prop) (x2 : Int32) (y3 : Nat → Int32) => fx_br (p1 < x2) (fx_ix p1 301 (fun k6 => fx_nm (y3 k6) (fun v5 => post v5 y3))) (fx_wh2 (fun (rec9 : Int32 → Int64 → Prop) (x7 : Int32) (x8 : Int64) => fx_ix x2 301 (fun k11 => fx_nm (f_o_counts k11) (fun v10 => fx_br (v10 ≤ x7) (fx_nm (lg_cmp x8 (lN 1000000000)) (fun v12 => fx_br (v12 ≤ 0) (fx_nm (x8.toInt32) (fun v13 => fx_ix x2 301 (fun k16 => fx_nm (upd y3 k16 v13) (fun g14 => fx_nm (x2 + (nI 1)) (fun v15 => rec4 v15 g14))))) (fx_ix x2 301 (fun k19 => fx_nm (upd y3 k19 (nI 1000000000)) (fun g17 => fx_nm (x2 + (nI 1)) (fun v18 => rec4 v18 g17)))))) (fx_nm ((nI 3) * x2) (fun v20 => fx_nm (v20 + x7) (fun v21 => fx_ix v21 903 (fun k23 => fx_nm (f_o_premises k23) (fun v22 => fx_ix v22 301 (fun k25 => fx_nm (y3 k25) (fun v24 => fx_nm (v24.toInt64) (fun v26 => fx_nm (x8 + v26) (fun v27 => fx_nm (x7 + (nI 1)) (fun v28 => rec9 v28 v27))))))))))))) (nI 0) (lN 1))) (nI 1) f_o_sizes)) s_o_rows p1
theorem im_X6_size_X6 : ∀ w ∈ u_ws RX6 TX6 17, w ∈ wsX6_size := by decide +kernel
set_option maxHeartbeats 4000000 in
set_option maxRecDepth 100000 in
theorem cw_X6_size (l : Launch) (X : fx_X) (a_o : Nat) (a_o_phrases : Nat) (a_o_axioms : Nat) (a_o_triples : Nat) (a_o_rules : Nat) (a_o_instances : Nat) (a_o_counts : Nat) (a_o_premises : Nat) (a_o_stated : Nat) (a_o_marks : Nat) (a_o_text : Nat) (a_o_sizes : Nat) (a_o_places : Nat) (s_o_axiomCount : Int32) (s_o_tripleCount : Int32) (s_o_rows : Int32) (s_o_broken : Int32) (s_o_size : Int32) (f_o_counts : Nat → Int32) (f_o_premises : Nat → Int32) (f_o_sizes : Nat → Int32) (sz : Nat) (p1 : Int32) (post : Int32 → (Nat → Int32) → Prop) (h : wp_X6_size post s_o_rows f_o_counts f_o_premises f_o_sizes p1) : Met l yX6_size wsX6_size ({ frames := 1, cells := 0, slots := 0, locals := 21 }) (va_Pc [.ref a_o, .int p1] (fx_PW X [(a_o, .inr (5, [.ref a_o_phrases, .ref a_o_axioms, .int s_o_axiomCount, .ref a_o_triples, .int s_o_tripleCount, .ref a_o_rules, .ref a_o_instances, .ref a_o_counts, .ref a_o_premises, .int s_o_rows, .ref a_o_stated, .ref a_o_marks, .int s_o_broken, .ref a_o_text, .int s_o_size, .ref a_o_sizes, .ref a_o_places])), (a_o_counts, .inl (fx_cI X, 301, .inl f_o_counts)), (a_o_premises, .inl (fx_cI X, 903, .inl f_o_premises)), (a_o_sizes, .inl (fx_cI X, 301, .inl f_o_sizes))] sz)) (va_Qi (fun r (u : (Nat → Int32)) => post r u) (fun (u : (Nat → Int32)) t => fx_EW X (va_A [(a_o, .inr (5, [.ref a_o_phrases, .ref a_o_axioms, .int s_o_axiomCount, .ref a_o_triples, .int s_o_tripleCount, .ref a_o_rules, .ref a_o_instances, .ref a_o_counts, .ref a_o_premises, .int s_o_rows, .ref a_o_stated, .ref a_o_marks, .int s_o_broken, .ref a_o_text, .int s_o_size, .ref a_o_sizes, .ref a_o_places])), (a_o_counts, .inl (fx_cI X, 301, .inl f_o_counts)), (a_o_premises, .inl (fx_cI X, 903, .inl f_o_premises)), (a_o_sizes, .inl (fx_cI X, 301, .inl f_o_sizes))] sz) [(a_o, .inr (5, [.ref a_o_phrases, .ref a_o_axioms, .int s_o_axiomCount, .ref a_o_triples, .int s_o_tripleCount, .ref a_o_rules, .ref a_o_instances, .ref a_o_counts, .ref a_o_premises, .int s_o_rows, .ref a_o_stated, .ref a_o_marks, .int s_o_broken, .ref a_o_text, .int s_o_size, .ref a_o_sizes, .ref a_o_places])), (a_o_counts, .inl (fx_cI X, 301, .inl f_o_counts)), (a_o_premises, .inl (fx_cI X, 903, .inl f_o_premises)), (a_o_sizes, .inl (fx_cI X, 301, .inl u))] t) (va_A [(a_o, .inr (5, [.ref a_o_phrases, .ref a_o_axioms, .int s_o_axiomCount, .ref a_o_triples, .int s_o_tripleCount, .ref a_o_rules, .ref a_o_instances, .ref a_o_counts, .ref a_o_premises, .int s_o_rows, .ref a_o_stated, .ref a_o_marks, .int s_o_broken, .ref a_o_text, .int s_o_size, .ref a_o_sizes, .ref a_o_places])), (a_o_counts, .inl (fx_cI X, 301, .inl f_o_counts)), (a_o_premises, .inl (fx_cI X, 903, .inl f_o_premises)), (a_o_sizes, .inl (fx_cI X, 301, .inl f_o_sizes))] sz)) 0 0 (va_A [(a_o, .inr (5, [.ref a_o_phrases, .ref a_o_axioms, .int s_o_axiomCount, .ref a_o_triples, .int s_o_tripleCount, .ref a_o_rules, .ref a_o_instances, .ref a_o_counts, .ref a_o_premises, .int s_o_rows, .ref a_o_stated, .ref a_o_marks, .int s_o_broken, .ref a_o_text, .int s_o_size, .ref a_o_sizes, .ref a_o_places])), (a_o_counts, .inl (fx_cI X, 301, .inl f_o_counts)), (a_o_premises, .inl (fx_cI X, 903, .inl f_o_premises)), (a_o_sizes, .inl (fx_cI X, 301, .inl f_o_sizes))] sz) := by
  refine Met.ofW (cc := cX6_size) (maxL := 6) (ret := (some .int)) (by decide) rfl ?_
  intro p e s m args below meth c s₁ B hml hv
  obtain ⟨rfl, hsz, hP, hK, hD0, hG⟩ := hv
  have hx := B.exec
  have hb := B.bytes
  have hr := B.returns
  have hts := atoms_spec (ws := wsX6_size) B.pre
  have hown : s.vm.findClass RX6 = some m.cls := findClass_of_methodNamed B.named
  have hlocks := B.notSynchronized
  subst hsz
  have hD := hD0.self (sz := s.heap.size)
  generalize hAe : va_A [(a_o, .inr (5, [.ref a_o_phrases, .ref a_o_axioms, .int s_o_axiomCount, .ref a_o_triples, .int s_o_tripleCount, .ref a_o_rules, .ref a_o_instances, .ref a_o_counts, .ref a_o_premises, .int s_o_rows, .ref a_o_stated, .ref a_o_marks, .int s_o_broken, .ref a_o_text, .int s_o_size, .ref a_o_sizes, .ref a_o_places])), (a_o_counts, .inl (fx_cI X, 301, .inl f_o_counts)), (a_o_premises, .inl (fx_cI X, 903, .inl f_o_premises)), (a_o_sizes, .inl (fx_cI X, 301, .inl f_o_sizes))] s.heap.size = A at hD hG ⊢
  have hA : ∀ q : Nat, s.heap.size ≤ q → A q := fun q h => by rw [← hAe]; exact Or.inr h
  have hS : va_S A s.heap s.heap [] := va_S.rf
  have k150 := hts (.fieldLink RX6 150 "ProofCheckerModel" "sizes" "[I") (by decide +kernel)
  have k224 := hts (.constantLong RX6 224 (1000000000)) (by decide +kernel)
  have k226 := hts (.constant RX6 226 (1000000000)) (by decide +kernel)
  have k137 := hts (.fieldLink RX6 137 "ProofCheckerModel" "premises" "[I") (by decide +kernel)
  have k134 := hts (.fieldLink RX6 134 "ProofCheckerModel" "counts" "[I") (by decide +kernel)
  have hl := lv_entry ([.ref a_o, .int p1]) (n := 6) (Nat.le_of_ble_eq_true rfl)
  rw [lg_entry_eq]
  generalize (lg_sl ([.ref a_o, .int p1]) ++ List.replicate (6 - (lg_sl ([.ref a_o, .int p1])).length) Slot.unset).toArray = ls at hl ⊢
  have hl : lv_has ls 6 [(0, .ref a_o), (1, .int p1)] := hl
  unfold wp_X6_size at h
  refine lv_aload_n hx hb dX6_size_0 rfl (lv_at hl 0 rfl) ?_
  refine lv_iload_n hx hb dX6_size_1 rfl (lv_at hl 1 rfl) ?_
  refine vp_callSi (W.runV (As := [.int p1]) (rest := []) ⟨hx, hb, hml, hown, hts⟩ (cw_X6_isRow l X a_o a_o_phrases a_o_axioms a_o_triples a_o_rules a_o_instances a_o_counts a_o_premises a_o_stated a_o_marks a_o_text a_o_sizes a_o_places s_o_axiomCount s_o_tripleCount s_o_rows s_o_broken s_o_size p1 _ h) (cwV 1 hts gX6_size_X6_isRow rfl rfl rfl (by decide +kernel) ⟨Nat.le_of_ble_eq_true rfl, Nat.le_of_ble_eq_true rfl⟩) (fx_pv hP hK hG hS (va_recv hK hP (ci := 5) (q0 := 0) rfl rfl) [0] rfl) rfl rfl hl.1 rfl (lv_room (Nat.le_of_ble_eq_true rfl)) dX6_size_2 ⟨Nat.le_of_ble_eq_true rfl, Nat.le_of_ble_eq_true rfl⟩) (fun r1 h => ?_)
  refine fx_if_ne (tgt := 10) hx hb h dX6_size_5 (by decide) (fun h => ?_) (fun h => ?_)
  · refine lv_iconst (v := (nI 1)) hx hb dX6_size_10 (by decide) ?_
    refine lv_istore_n (lv' := [(2, .int (nI 1)), (0, .ref a_o), (1, .int p1)]) hx hb dX6_size_11 rfl hl (by decide) rfl (fun ls hl => ?_)
    refine fx_loop2 (G := fun (x2 : Int32) (y3 : Nat → Int32) => ∀ (H : Heap) (locs : List Loc) (ls : Array Slot), va_P (fx_D X) vwCl [(a_o, .inr (5, [.ref a_o_phrases, .ref a_o_axioms, .int s_o_axiomCount, .ref a_o_triples, .int s_o_tripleCount, .ref a_o_rules, .ref a_o_instances, .ref a_o_counts, .ref a_o_premises, .int s_o_rows, .ref a_o_stated, .ref a_o_marks, .int s_o_broken, .ref a_o_text, .int s_o_size, .ref a_o_sizes, .ref a_o_places])), (a_o_counts, .inl (fx_cI X, 301, .inl f_o_counts)), (a_o_premises, .inl (fx_cI X, 903, .inl f_o_premises)), (a_o_sizes, .inl (fx_cI X, 301, .inl y3))] H → va_D A [(a_o, .inr (5, [.ref a_o_phrases, .ref a_o_axioms, .int s_o_axiomCount, .ref a_o_triples, .int s_o_tripleCount, .ref a_o_rules, .ref a_o_instances, .ref a_o_counts, .ref a_o_premises, .int s_o_rows, .ref a_o_stated, .ref a_o_marks, .int s_o_broken, .ref a_o_text, .int s_o_size, .ref a_o_sizes, .ref a_o_places])), (a_o_counts, .inl (fx_cI X, 301, .inl f_o_counts)), (a_o_premises, .inl (fx_cI X, 903, .inl f_o_premises)), (a_o_sizes, .inl (fx_cI X, 301, .inl y3))] → va_S A s.heap H locs → lv_has ls 6 [(2, .int x2), (0, .ref a_o), (1, .int p1)] → W p l e _ s m _ below meth c H locs _ _ _ (F0 m 12 ls [])) (fun rec4 hrec4 x2 y3 h => ?_) h _ _ _ hP hD hS (lv_sub hl [0, 1, 2] rfl)
    intro H locs ls hP hD hS hl
    refine lv_iload_n hx hb dX6_size_12 rfl (lv_at hl 0 rfl) ?_
    refine lv_iload_n hx hb dX6_size_13 rfl (lv_at hl 2 rfl) ?_
    refine fx_icmp_gt (tgt := 86) hx hb h dX6_size_14 (by decide) (fun h => ?_) (fun h => ?_)
    · refine lv_aload_n hx hb dX6_size_86 rfl (lv_at hl 1 rfl) ?_
      refine va_get (D := fx_D X) (ci := 5) (v := .ref a_o_sizes) (C := RX6) (T := TX6) (N := 17) hx hb hts im_X6_size_X6 hown hK hP 0 rfl rfl 15 (by decide) k150 (fun _ h9 => h9) rfl dX6_size_87 ?_
      refine lv_iload_n hx hb dX6_size_90 rfl (lv_at hl 2 rfl) ?_
      refine fx_iald hx hb hK hP 3 0 rfl rfl h dX6_size_91 (fun v5 h => ?_)
      exact W.iret (v := v5) hx hb hr  (fun t ht hW => ⟨⟨v5, y3, rfl, h, by rw [ht]; exact hP, va_K.moved hW.alike hK, hD⟩, hS.F ht⟩) hS.2.2 dX6_size_92
    refine lv_lconst (v := lN 1) hx hb dX6_size_17 (by decide) ?_
    refine lv_lstore_n (lv' := [(3, .long (lN 1)), (2, .int x2), (0, .ref a_o), (1, .int p1)]) hx hb dX6_size_18 rfl hl (by decide) rfl (fun ls hl => ?_)
    refine lv_iconst (v := (nI 0)) hx hb dX6_size_19 (by decide) ?_
    refine lv_istore (lv' := [(5, .int (nI 0)), (3, .long (lN 1)), (2, .int x2), (0, .ref a_o), (1, .int p1)]) hx hb dX6_size_20 hl (by decide) rfl (fun ls hl => ?_)
    refine fx_loop2 (G := fun (x7 : Int32) (x8 : Int64) => ∀ (H : Heap) (locs : List Loc) (ls : Array Slot), va_P (fx_D X) vwCl [(a_o, .inr (5, [.ref a_o_phrases, .ref a_o_axioms, .int s_o_axiomCount, .ref a_o_triples, .int s_o_tripleCount, .ref a_o_rules, .ref a_o_instances, .ref a_o_counts, .ref a_o_premises, .int s_o_rows, .ref a_o_stated, .ref a_o_marks, .int s_o_broken, .ref a_o_text, .int s_o_size, .ref a_o_sizes, .ref a_o_places])), (a_o_counts, .inl (fx_cI X, 301, .inl f_o_counts)), (a_o_premises, .inl (fx_cI X, 903, .inl f_o_premises)), (a_o_sizes, .inl (fx_cI X, 301, .inl y3))] H → va_D A [(a_o, .inr (5, [.ref a_o_phrases, .ref a_o_axioms, .int s_o_axiomCount, .ref a_o_triples, .int s_o_tripleCount, .ref a_o_rules, .ref a_o_instances, .ref a_o_counts, .ref a_o_premises, .int s_o_rows, .ref a_o_stated, .ref a_o_marks, .int s_o_broken, .ref a_o_text, .int s_o_size, .ref a_o_sizes, .ref a_o_places])), (a_o_counts, .inl (fx_cI X, 301, .inl f_o_counts)), (a_o_premises, .inl (fx_cI X, 903, .inl f_o_premises)), (a_o_sizes, .inl (fx_cI X, 301, .inl y3))] → va_S A s.heap H locs → lv_has ls 6 [(5, .int x7), (3, .long x8), (2, .int x2), (0, .ref a_o), (1, .int p1)] → W p l e _ s m _ below meth c H locs _ _ _ (F0 m 22 ls [])) (fun rec9 hrec9 x7 x8 h => ?_) h _ _ _ hP hD hS (lv_sub hl [0, 1, 2, 3, 4] rfl)
    intro H locs ls hP hD hS hl
    refine lv_iload hx hb dX6_size_22 (lv_at hl 0 rfl) ?_
    refine lv_aload_n hx hb dX6_size_24 rfl (lv_at hl 3 rfl) ?_
    refine va_get (D := fx_D X) (ci := 5) (v := .ref a_o_counts) (C := RX6) (T := TX6) (N := 17) hx hb hts im_X6_size_X6 hown hK hP 0 rfl rfl 7 (by decide) k134 (fun _ h9 => h9) rfl dX6_size_25 ?_
    refine lv_iload_n hx hb dX6_size_28 rfl (lv_at hl 2 rfl) ?_
    refine fx_iald hx hb hK hP 1 0 rfl rfl h dX6_size_29 (fun v10 h => ?_)
    refine fx_icmp_ge (tgt := 59) hx hb h dX6_size_30 (by decide) (fun h => ?_) (fun h => ?_)
    · refine lv_aload_n hx hb dX6_size_59 rfl (lv_at hl 3 rfl) ?_
      refine va_get (D := fx_D X) (ci := 5) (v := .ref a_o_sizes) (C := RX6) (T := TX6) (N := 17) hx hb hts im_X6_size_X6 hown hK hP 0 rfl rfl 15 (by decide) k150 (fun _ h9 => h9) rfl dX6_size_60 ?_
      refine lv_iload_n hx hb dX6_size_63 rfl (lv_at hl 2 rfl) ?_
      refine lv_lload_n hx hb dX6_size_64 rfl (lv_at hl 1 rfl) ?_
      refine lv_ldc2 (v := lN 1000000000) hx hb hown k224 dX6_size_65 ?_
      refine fx_lcmp hx hb h dX6_size_68 (fun v12 h => ?_)
      refine fx_if_le (tgt := 77) hx hb h dX6_size_69 (by decide) (fun h => ?_) (fun h => ?_)
      · refine lv_lload_n hx hb dX6_size_77 rfl (lv_at hl 1 rfl) ?_
        refine fx_l2i hx hb h dX6_size_78 (fun v13 h => ?_)
        refine fx_iast hx hb hK hP hD hS 3 0 rfl rfl h dX6_size_79 (fun g14 => [(a_o, .inr (5, [.ref a_o_phrases, .ref a_o_axioms, .int s_o_axiomCount, .ref a_o_triples, .int s_o_tripleCount, .ref a_o_rules, .ref a_o_instances, .ref a_o_counts, .ref a_o_premises, .int s_o_rows, .ref a_o_stated, .ref a_o_marks, .int s_o_broken, .ref a_o_text, .int s_o_size, .ref a_o_sizes, .ref a_o_places])), (a_o_counts, .inl (fx_cI X, 301, .inl f_o_counts)), (a_o_premises, .inl (fx_cI X, 903, .inl f_o_premises)), (a_o_sizes, .inl (fx_cI X, 301, .inl g14))]) (fun _ => rfl) (fun H locs g14 h hP hD hS => ?_)
        refine fx_iinc (y := (nI 1)) hx hb h dX6_size_80 (by decide) (fun v15 => [(2, .int v15), (5, .int x7), (3, .long x8), (0, .ref a_o), (1, .int p1)]) hl 2 rfl (by decide) (fun _ => rfl) (fun v15 ls h hl => ?_)
        refine lv_goto (tgt := 12) hx hb dX6_size_83 (by decide) ?_
        exact hrec4 _ _ h _ _ _ hP hD hS (lv_sub hl [0, 3, 4] rfl)
      refine lv_ldc (v := (nI 1000000000)) hx hb hown k226 dX6_size_72 ?_
      refine lv_goto (tgt := 79) hx hb dX6_size_74 (by decide) ?_
      refine fx_iast hx hb hK hP hD hS 3 0 rfl rfl h dX6_size_79 (fun g17 => [(a_o, .inr (5, [.ref a_o_phrases, .ref a_o_axioms, .int s_o_axiomCount, .ref a_o_triples, .int s_o_tripleCount, .ref a_o_rules, .ref a_o_instances, .ref a_o_counts, .ref a_o_premises, .int s_o_rows, .ref a_o_stated, .ref a_o_marks, .int s_o_broken, .ref a_o_text, .int s_o_size, .ref a_o_sizes, .ref a_o_places])), (a_o_counts, .inl (fx_cI X, 301, .inl f_o_counts)), (a_o_premises, .inl (fx_cI X, 903, .inl f_o_premises)), (a_o_sizes, .inl (fx_cI X, 301, .inl g17))]) (fun _ => rfl) (fun H locs g17 h hP hD hS => ?_)
      refine fx_iinc (y := (nI 1)) hx hb h dX6_size_80 (by decide) (fun v18 => [(2, .int v18), (5, .int x7), (3, .long x8), (0, .ref a_o), (1, .int p1)]) hl 2 rfl (by decide) (fun _ => rfl) (fun v18 ls h hl => ?_)
      refine lv_goto (tgt := 12) hx hb dX6_size_83 (by decide) ?_
      exact hrec4 _ _ h _ _ _ hP hD hS (lv_sub hl [0, 3, 4] rfl)
    refine lv_lload_n hx hb dX6_size_33 rfl (lv_at hl 1 rfl) ?_
    refine lv_aload_n hx hb dX6_size_34 rfl (lv_at hl 3 rfl) ?_
    refine va_get (D := fx_D X) (ci := 5) (v := .ref a_o_sizes) (C := RX6) (T := TX6) (N := 17) hx hb hts im_X6_size_X6 hown hK hP 0 rfl rfl 15 (by decide) k150 (fun _ h9 => h9) rfl dX6_size_35 ?_
    refine lv_aload_n hx hb dX6_size_38 rfl (lv_at hl 3 rfl) ?_
    refine va_get (D := fx_D X) (ci := 5) (v := .ref a_o_premises) (C := RX6) (T := TX6) (N := 17) hx hb hts im_X6_size_X6 hown hK hP 0 rfl rfl 8 (by decide) k137 (fun _ h9 => h9) rfl dX6_size_39 ?_
    refine lv_iconst (v := (nI 3)) hx hb dX6_size_42 (by decide) ?_
    refine lv_iload_n hx hb dX6_size_43 rfl (lv_at hl 2 rfl) ?_
    refine fx_imul hx hb h dX6_size_44 (fun v20 h => ?_)
    refine lv_iload hx hb dX6_size_45 (lv_at hl 0 rfl) ?_
    refine fx_iadd hx hb h dX6_size_47 (fun v21 h => ?_)
    refine fx_iald hx hb hK hP 2 0 rfl rfl h dX6_size_48 (fun v22 h => ?_)
    refine fx_iald hx hb hK hP 3 0 rfl rfl h dX6_size_49 (fun v24 h => ?_)
    refine fx_i2l hx hb h dX6_size_50 (fun v26 h => ?_)
    refine fx_ladd hx hb h dX6_size_51 (fun v27 h => ?_)
    refine lv_lstore_n (lv' := [(3, .long v27), (5, .int x7), (2, .int x2), (0, .ref a_o), (1, .int p1)]) hx hb dX6_size_52 rfl hl (by decide) rfl (fun ls hl => ?_)
    refine fx_iinc (y := (nI 1)) hx hb h dX6_size_53 (by decide) (fun v28 => [(5, .int v28), (3, .long v27), (2, .int x2), (0, .ref a_o), (1, .int p1)]) hl 1 rfl (by decide) (fun _ => rfl) (fun v28 ls h hl => ?_)
    refine lv_goto (tgt := 22) hx hb dX6_size_56 (by decide) ?_
    exact hrec9 _ _ h _ _ _ hP hD hS (lv_sub hl [0, 1, 2, 3, 4] rfl)
  refine lv_iconst (v := (-1)) hx hb dX6_size_8 (by decide) ?_
  exact W.iret (v := (-1)) hx hb hr  (fun t ht hW => ⟨⟨(-1), f_o_sizes, rfl, h, by rw [ht]; exact hP, va_K.moved hW.alike hK, hD⟩, hS.F ht⟩) hS.2.2 dX6_size_9

/-- X6_drop: its walk -/
def wp_X6_drop (post : Int32 → Int32 → Int32 → (Nat → Int32) → (Nat → Int32) → (Nat → Int32) → (Nat → Int32) → (Nat → Int32) → (Nat → Int32) → Prop) (s_o_rows : Int32) (s_o_broken : Int32) (f_o_rules : Nat → Int32) (f_o_instances : Nat → Int32) (f_o_counts : Nat → Int32) (f_o_premises : Nat → Int32) (f_o_marks : Nat → Int32) (f_o_places : Nat → Int32) (p1 : Int32) : Prop :=
  wp_X6_isRow (fun r1 => fx_br (r1 = 0) (post (-1) s_o_rows s_o_broken f_o_rules f_o_instances f_o_counts f_o_premises f_o_marks f_o_places) (wp_X6_mark (fun r2 y3 => fx_wh7 (fun (rec11 : Int32 → Int32 → (Nat → Int32) → (Nat → Int32) → (Nat → Int32) → (Nat → Int32) → (Nat → Int32) → Prop) (x4 : Int32) (x5 : Int32) (y6 : Nat → Int32) (y7 : Nat → Int32) (y8 : Nat → Int32) (y9 : Nat → Int32) (y10 : Nat → Int32) => fx_br (s_o_rows < x4) (post x5 x5 (nI 0) y6 y7 y8 y9 y3 y10) (fx_ix x4 301 (fun k13 => fx_nm (y3 k13) (fun v12 => fx_br (v12 = 0) (fx_nm (x4 + (nI 1)) (fun v44 => rec11 v44 x5 y6 y7 y8 y9 y10)) (fx_nm (x5 + (nI 1)) (fun v14 => fx_ix x4 301 (fun k43 => fx_nm (upd y10 k43 v14) (fun g15 => fx_ix x4 301 (fun k17 => fx_nm (y6 k17) (fun v16 => fx_ix v14 301 (fun k42 => fx_nm (upd y6 k42 v16) (fun g18 => fx_ix x4 301 (fun k20 => fx_nm (y7 k20) (fun v19 => fx_ix v14 301 (fun k41 => fx_nm (upd y7 k41 v19) (fun g21 => fx_ix x4 301 (fun k23 => fx_nm (y8 k23) (fun v22 => fx_wh2 (fun (rec26 : Int32 → (Nat → Int32) → Prop) (x24 : Int32) (y25 : Nat → Int32) => fx_br (v22 ≤ x24) (fx_ix v14 301 (fun k29 => fx_nm (upd y8 k29 v22) (fun g27 => fx_nm (x4 + (nI 1)) (fun v28 => rec11 v28 v14 g18 g21 g27 y25 g15)))) (fx_nm ((nI 3) * v14) (fun v30 => fx_nm (v30 + x24) (fun v31 => fx_nm ((nI 3) * x4) (fun v32 => fx_nm (v32 + x24) (fun v33 => fx_ix v33 903 (fun k35 => fx_nm (y25 k35) (fun v34 => fx_ix v34 301 (fun k37 => fx_nm (g15 k37) (fun v36 => fx_ix v31 903 (fun k40 => fx_nm (upd y25 k40 v36) (fun g38 => fx_nm (x24 + (nI 1)) (fun v39 => rec26 v39 g38))))))))))))) (nI 0) y9)))))))))))))))))) (nI 1) (nI 0) f_o_rules f_o_instances f_o_counts f_o_premises f_o_places) s_o_rows f_o_counts f_o_premises f_o_marks p1)) s_o_rows p1
theorem im_X6_drop_X6 : ∀ w ∈ u_ws RX6 TX6 17, w ∈ wsX6_drop := by decide +kernel
set_option maxHeartbeats 4000000 in
set_option maxRecDepth 100000 in
theorem cw_X6_drop (l : Launch) (X : fx_X) (a_o : Nat) (a_o_phrases : Nat) (a_o_axioms : Nat) (a_o_triples : Nat) (a_o_rules : Nat) (a_o_instances : Nat) (a_o_counts : Nat) (a_o_premises : Nat) (a_o_stated : Nat) (a_o_marks : Nat) (a_o_text : Nat) (a_o_sizes : Nat) (a_o_places : Nat) (s_o_axiomCount : Int32) (s_o_tripleCount : Int32) (s_o_rows : Int32) (s_o_broken : Int32) (s_o_size : Int32) (f_o_rules : Nat → Int32) (f_o_instances : Nat → Int32) (f_o_counts : Nat → Int32) (f_o_premises : Nat → Int32) (f_o_marks : Nat → Int32) (f_o_places : Nat → Int32) (sz : Nat) (p1 : Int32) (post : Int32 → Int32 → Int32 → (Nat → Int32) → (Nat → Int32) → (Nat → Int32) → (Nat → Int32) → (Nat → Int32) → (Nat → Int32) → Prop) (h : wp_X6_drop post s_o_rows s_o_broken f_o_rules f_o_instances f_o_counts f_o_premises f_o_marks f_o_places p1) : Met l yX6_drop wsX6_drop ({ frames := 1, cells := 0, slots := 0, locals := 24 }) (va_Pc [.ref a_o, .int p1] (fx_PW X [(a_o, .inr (5, [.ref a_o_phrases, .ref a_o_axioms, .int s_o_axiomCount, .ref a_o_triples, .int s_o_tripleCount, .ref a_o_rules, .ref a_o_instances, .ref a_o_counts, .ref a_o_premises, .int s_o_rows, .ref a_o_stated, .ref a_o_marks, .int s_o_broken, .ref a_o_text, .int s_o_size, .ref a_o_sizes, .ref a_o_places])), (a_o_rules, .inl (fx_cI X, 301, .inl f_o_rules)), (a_o_instances, .inl (fx_cI X, 301, .inl f_o_instances)), (a_o_counts, .inl (fx_cI X, 301, .inl f_o_counts)), (a_o_premises, .inl (fx_cI X, 903, .inl f_o_premises)), (a_o_marks, .inl (fx_cZ X, 301, .inl f_o_marks)), (a_o_places, .inl (fx_cI X, 301, .inl f_o_places))] sz)) (va_Qi (fun r (u : Int32 × Int32 × (Nat → Int32) × (Nat → Int32) × (Nat → Int32) × (Nat → Int32) × (Nat → Int32) × (Nat → Int32)) => post r u.1 u.2.1 u.2.2.1 u.2.2.2.1 u.2.2.2.2.1 u.2.2.2.2.2.1 u.2.2.2.2.2.2.1 u.2.2.2.2.2.2.2) (fun (u : Int32 × Int32 × (Nat → Int32) × (Nat → Int32) × (Nat → Int32) × (Nat → Int32) × (Nat → Int32) × (Nat → Int32)) t => fx_EW X (va_A [(a_o, .inr (5, [.ref a_o_phrases, .ref a_o_axioms, .int s_o_axiomCount, .ref a_o_triples, .int s_o_tripleCount, .ref a_o_rules, .ref a_o_instances, .ref a_o_counts, .ref a_o_premises, .int s_o_rows, .ref a_o_stated, .ref a_o_marks, .int s_o_broken, .ref a_o_text, .int s_o_size, .ref a_o_sizes, .ref a_o_places])), (a_o_rules, .inl (fx_cI X, 301, .inl f_o_rules)), (a_o_instances, .inl (fx_cI X, 301, .inl f_o_instances)), (a_o_counts, .inl (fx_cI X, 301, .inl f_o_counts)), (a_o_premises, .inl (fx_cI X, 903, .inl f_o_premises)), (a_o_marks, .inl (fx_cZ X, 301, .inl f_o_marks)), (a_o_places, .inl (fx_cI X, 301, .inl f_o_places))] sz) [(a_o, .inr (5, [.ref a_o_phrases, .ref a_o_axioms, .int s_o_axiomCount, .ref a_o_triples, .int s_o_tripleCount, .ref a_o_rules, .ref a_o_instances, .ref a_o_counts, .ref a_o_premises, .int u.1, .ref a_o_stated, .ref a_o_marks, .int u.2.1, .ref a_o_text, .int s_o_size, .ref a_o_sizes, .ref a_o_places])), (a_o_rules, .inl (fx_cI X, 301, .inl u.2.2.1)), (a_o_instances, .inl (fx_cI X, 301, .inl u.2.2.2.1)), (a_o_counts, .inl (fx_cI X, 301, .inl u.2.2.2.2.1)), (a_o_premises, .inl (fx_cI X, 903, .inl u.2.2.2.2.2.1)), (a_o_marks, .inl (fx_cZ X, 301, .inl u.2.2.2.2.2.2.1)), (a_o_places, .inl (fx_cI X, 301, .inl u.2.2.2.2.2.2.2))] t) (va_A [(a_o, .inr (5, [.ref a_o_phrases, .ref a_o_axioms, .int s_o_axiomCount, .ref a_o_triples, .int s_o_tripleCount, .ref a_o_rules, .ref a_o_instances, .ref a_o_counts, .ref a_o_premises, .int s_o_rows, .ref a_o_stated, .ref a_o_marks, .int s_o_broken, .ref a_o_text, .int s_o_size, .ref a_o_sizes, .ref a_o_places])), (a_o_rules, .inl (fx_cI X, 301, .inl f_o_rules)), (a_o_instances, .inl (fx_cI X, 301, .inl f_o_instances)), (a_o_counts, .inl (fx_cI X, 301, .inl f_o_counts)), (a_o_premises, .inl (fx_cI X, 903, .inl f_o_premises)), (a_o_marks, .inl (fx_cZ X, 301, .inl f_o_marks)), (a_o_places, .inl (fx_cI X, 301, .inl f_o_places))] sz)) 0 0 (va_A [(a_o, .inr (5, [.ref a_o_phrases, .ref a_o_axioms, .int s_o_axiomCount, .ref a_o_triples, .int s_o_tripleCount, .ref a_o_rules, .ref a_o_instances, .ref a_o_counts, .ref a_o_premises, .int s_o_rows, .ref a_o_stated, .ref a_o_marks, .int s_o_broken, .ref a_o_text, .int s_o_size, .ref a_o_sizes, .ref a_o_places])), (a_o_rules, .inl (fx_cI X, 301, .inl f_o_rules)), (a_o_instances, .inl (fx_cI X, 301, .inl f_o_instances)), (a_o_counts, .inl (fx_cI X, 301, .inl f_o_counts)), (a_o_premises, .inl (fx_cI X, 903, .inl f_o_premises)), (a_o_marks, .inl (fx_cZ X, 301, .inl f_o_marks)), (a_o_places, .inl (fx_cI X, 301, .inl f_o_places))] sz) := by
  refine Met.ofW (cc := cX6_drop) (maxL := 6) (ret := (some .int)) (by decide) rfl ?_
  intro p e s m args below meth c s₁ B hml hv
  obtain ⟨rfl, hsz, hP, hK, hD0, hG⟩ := hv
  have hx := B.exec
  have hb := B.bytes
  have hr := B.returns
  have hts := atoms_spec (ws := wsX6_drop) B.pre
  have hown : s.vm.findClass RX6 = some m.cls := findClass_of_methodNamed B.named
  have hlocks := B.notSynchronized
  subst hsz
  have hD := hD0.self (sz := s.heap.size)
  generalize hAe : va_A [(a_o, .inr (5, [.ref a_o_phrases, .ref a_o_axioms, .int s_o_axiomCount, .ref a_o_triples, .int s_o_tripleCount, .ref a_o_rules, .ref a_o_instances, .ref a_o_counts, .ref a_o_premises, .int s_o_rows, .ref a_o_stated, .ref a_o_marks, .int s_o_broken, .ref a_o_text, .int s_o_size, .ref a_o_sizes, .ref a_o_places])), (a_o_rules, .inl (fx_cI X, 301, .inl f_o_rules)), (a_o_instances, .inl (fx_cI X, 301, .inl f_o_instances)), (a_o_counts, .inl (fx_cI X, 301, .inl f_o_counts)), (a_o_premises, .inl (fx_cI X, 903, .inl f_o_premises)), (a_o_marks, .inl (fx_cZ X, 301, .inl f_o_marks)), (a_o_places, .inl (fx_cI X, 301, .inl f_o_places))] s.heap.size = A at hD hG ⊢
  have hA : ∀ q : Nat, s.heap.size ≤ q → A q := fun q h => by rw [← hAe]; exact Or.inr h
  have hS : va_S A s.heap s.heap [] := va_S.rf
  have k218 := hts (.fieldLink RX6 218 "ProofCheckerModel" "broken" "I") (by decide +kernel)
  have k167 := hts (.fieldLink RX6 167 "ProofCheckerModel" "rows" "I") (by decide +kernel)
  have k134 := hts (.fieldLink RX6 134 "ProofCheckerModel" "counts" "[I") (by decide +kernel)
  have k137 := hts (.fieldLink RX6 137 "ProofCheckerModel" "premises" "[I") (by decide +kernel)
  have k153 := hts (.fieldLink RX6 153 "ProofCheckerModel" "places" "[I") (by decide +kernel)
  have k131 := hts (.fieldLink RX6 131 "ProofCheckerModel" "instances" "[I") (by decide +kernel)
  have k128 := hts (.fieldLink RX6 128 "ProofCheckerModel" "rules" "[I") (by decide +kernel)
  have k143 := hts (.fieldLink RX6 143 "ProofCheckerModel" "marks" "[Z") (by decide +kernel)
  have hl := lv_entry ([.ref a_o, .int p1]) (n := 6) (Nat.le_of_ble_eq_true rfl)
  rw [lg_entry_eq]
  generalize (lg_sl ([.ref a_o, .int p1]) ++ List.replicate (6 - (lg_sl ([.ref a_o, .int p1])).length) Slot.unset).toArray = ls at hl ⊢
  have hl : lv_has ls 6 [(0, .ref a_o), (1, .int p1)] := hl
  unfold wp_X6_drop at h
  refine lv_aload_n hx hb dX6_drop_0 rfl (lv_at hl 0 rfl) ?_
  refine lv_iload_n hx hb dX6_drop_1 rfl (lv_at hl 1 rfl) ?_
  refine vp_callSi (W.runV (As := [.int p1]) (rest := []) ⟨hx, hb, hml, hown, hts⟩ (cw_X6_isRow l X a_o a_o_phrases a_o_axioms a_o_triples a_o_rules a_o_instances a_o_counts a_o_premises a_o_stated a_o_marks a_o_text a_o_sizes a_o_places s_o_axiomCount s_o_tripleCount s_o_rows s_o_broken s_o_size p1 _ h) (cwV 1 hts gX6_drop_X6_isRow rfl rfl rfl (by decide +kernel) ⟨Nat.le_of_ble_eq_true rfl, Nat.le_of_ble_eq_true rfl⟩) (fx_pv hP hK hG hS (va_recv hK hP (ci := 5) (q0 := 0) rfl rfl) [0] rfl) rfl rfl hl.1 rfl (lv_room (Nat.le_of_ble_eq_true rfl)) dX6_drop_2 ⟨Nat.le_of_ble_eq_true rfl, Nat.le_of_ble_eq_true rfl⟩) (fun r1 h => ?_)
  refine fx_if_ne (tgt := 10) hx hb h dX6_drop_5 (by decide) (fun h => ?_) (fun h => ?_)
  · refine lv_aload_n hx hb dX6_drop_10 rfl (lv_at hl 0 rfl) ?_
    refine lv_iload_n hx hb dX6_drop_11 rfl (lv_at hl 1 rfl) ?_
    have hFc := va_free (wc := [(a_o, .inr (5, [.ref a_o_phrases, .ref a_o_axioms, .int s_o_axiomCount, .ref a_o_triples, .int s_o_tripleCount, .ref a_o_rules, .ref a_o_instances, .ref a_o_counts, .ref a_o_premises, .int s_o_rows, .ref a_o_stated, .ref a_o_marks, .int s_o_broken, .ref a_o_text, .int s_o_size, .ref a_o_sizes, .ref a_o_places])), (a_o_counts, .inl (fx_cI X, 301, .inl f_o_counts)), (a_o_premises, .inl (fx_cI X, 903, .inl f_o_premises)), (a_o_marks, .inl (fx_cZ X, 301, .inl f_o_marks))]) hD hS hA [0, 3, 4, 5] rfl
    refine va_calli (va_runV (As := [.int p1]) (rest := []) ⟨hx, hb, hml, hown, hts⟩ (cw_X6_mark l X a_o a_o_phrases a_o_axioms a_o_triples a_o_rules a_o_instances a_o_counts a_o_premises a_o_stated a_o_marks a_o_text a_o_sizes a_o_places s_o_axiomCount s_o_tripleCount s_o_rows s_o_broken s_o_size f_o_counts f_o_premises f_o_marks _ p1 _ h) (cwV 1 hts gX6_drop_X6_mark rfl rfl rfl (by decide +kernel) ⟨Nat.le_of_ble_eq_true rfl, Nat.le_of_ble_eq_true rfl⟩) (fx_pvW hP hD hK hG hS hFc (va_recv hK hP (ci := 5) (q0 := 0) rfl rfl) [0, 3, 4, 5] (by decide) rfl) rfl rfl hl.1 rfl (lv_room (Nat.le_of_ble_eq_true rfl)) dX6_drop_12 ⟨Nat.le_of_ble_eq_true rfl, Nat.le_of_ble_eq_true rfl⟩) hS (fun q _ h => hFc q h) hFc (fun r2 u t H locs ht hvm h hB _ hk hS => ?_)
    obtain ⟨y3, rfl⟩ : ∃ z, z = u := ⟨_, rfl⟩
    obtain ⟨hP, hD⟩ := fx_back (wr := [(a_o_rules, .inl (fx_cI X, 301, .inl f_o_rules)), (a_o_instances, .inl (fx_cI X, 301, .inl f_o_instances)), (a_o_places, .inl (fx_cI X, 301, .inl f_o_places))]) (ws' := [(a_o, .inr (5, [.ref a_o_phrases, .ref a_o_axioms, .int s_o_axiomCount, .ref a_o_triples, .int s_o_tripleCount, .ref a_o_rules, .ref a_o_instances, .ref a_o_counts, .ref a_o_premises, .int s_o_rows, .ref a_o_stated, .ref a_o_marks, .int s_o_broken, .ref a_o_text, .int s_o_size, .ref a_o_sizes, .ref a_o_places])), (a_o_rules, .inl (fx_cI X, 301, .inl f_o_rules)), (a_o_instances, .inl (fx_cI X, 301, .inl f_o_instances)), (a_o_counts, .inl (fx_cI X, 301, .inl f_o_counts)), (a_o_premises, .inl (fx_cI X, 903, .inl f_o_premises)), (a_o_marks, .inl (fx_cZ X, 301, .inl y3)), (a_o_places, .inl (fx_cI X, 301, .inl f_o_places))]) hP hD [0, 3, 4, 5] [1, 2, 6] rfl rfl (by decide) (by decide) hk hFc hB ht [3, 0, 1, 4, 5, 6, 2] (by decide) rfl
    refine lv_pop hx hb dX6_drop_15 rfl ?_
    refine lv_iconst (v := (nI 0)) hx hb dX6_drop_16 (by decide) ?_
    refine lv_istore_n (lv' := [(2, .int (nI 0)), (0, .ref a_o), (1, .int p1)]) hx hb dX6_drop_17 rfl hl (by decide) rfl (fun ls hl => ?_)
    refine lv_iconst (v := (nI 1)) hx hb dX6_drop_18 (by decide) ?_
    refine lv_istore_n (lv' := [(3, .int (nI 1)), (2, .int (nI 0)), (0, .ref a_o), (1, .int p1)]) hx hb dX6_drop_19 rfl hl (by decide) rfl (fun ls hl => ?_)
    refine fx_loop7 (G := fun (x4 : Int32) (x5 : Int32) (y6 : Nat → Int32) (y7 : Nat → Int32) (y8 : Nat → Int32) (y9 : Nat → Int32) (y10 : Nat → Int32) => ∀ (H : Heap) (locs : List Loc) (ls : Array Slot), va_P (fx_D X) vwCl [(a_o, .inr (5, [.ref a_o_phrases, .ref a_o_axioms, .int s_o_axiomCount, .ref a_o_triples, .int s_o_tripleCount, .ref a_o_rules, .ref a_o_instances, .ref a_o_counts, .ref a_o_premises, .int s_o_rows, .ref a_o_stated, .ref a_o_marks, .int s_o_broken, .ref a_o_text, .int s_o_size, .ref a_o_sizes, .ref a_o_places])), (a_o_rules, .inl (fx_cI X, 301, .inl y6)), (a_o_instances, .inl (fx_cI X, 301, .inl y7)), (a_o_counts, .inl (fx_cI X, 301, .inl y8)), (a_o_premises, .inl (fx_cI X, 903, .inl y9)), (a_o_marks, .inl (fx_cZ X, 301, .inl y3)), (a_o_places, .inl (fx_cI X, 301, .inl y10))] H → va_D A [(a_o, .inr (5, [.ref a_o_phrases, .ref a_o_axioms, .int s_o_axiomCount, .ref a_o_triples, .int s_o_tripleCount, .ref a_o_rules, .ref a_o_instances, .ref a_o_counts, .ref a_o_premises, .int s_o_rows, .ref a_o_stated, .ref a_o_marks, .int s_o_broken, .ref a_o_text, .int s_o_size, .ref a_o_sizes, .ref a_o_places])), (a_o_rules, .inl (fx_cI X, 301, .inl y6)), (a_o_instances, .inl (fx_cI X, 301, .inl y7)), (a_o_counts, .inl (fx_cI X, 301, .inl y8)), (a_o_premises, .inl (fx_cI X, 903, .inl y9)), (a_o_marks, .inl (fx_cZ X, 301, .inl y3)), (a_o_places, .inl (fx_cI X, 301, .inl y10))] → va_S A s.heap H locs → lv_has ls 6 [(3, .int x4), (2, .int x5), (0, .ref a_o)] → W p l e _ s m _ below meth c H locs _ _ _ (F0 m 20 ls [])) (fun rec11 hrec11 x4 x5 y6 y7 y8 y9 y10 h => ?_) h _ _ _ hP hD hS (lv_sub hl [0, 1, 2] rfl)
    intro H locs ls hP hD hS hl
    refine lv_iload_n hx hb dX6_drop_20 rfl (lv_at hl 0 rfl) ?_
    refine lv_aload_n hx hb dX6_drop_21 rfl (lv_at hl 2 rfl) ?_
    refine va_get (D := fx_D X) (ci := 5) (v := .int s_o_rows) (C := RX6) (T := TX6) (N := 17) hx hb hts im_X6_drop_X6 hown hK hP 0 rfl rfl 9 (by decide) k167 (fun _ h9 => h9) rfl dX6_drop_22 ?_
    refine fx_icmp_gt (tgt := 139) hx hb h dX6_drop_25 (by decide) (fun h => ?_) (fun h => ?_)
    · refine lv_aload_n hx hb dX6_drop_139 rfl (lv_at hl 2 rfl) ?_
      refine lv_iload_n hx hb dX6_drop_140 rfl (lv_at hl 1 rfl) ?_
      refine va_put (D := fx_D X) (ci := 5) (v := .int x5) (ty := .int) (C := RX6) (T := TX6) (N := 17) hx hb hts im_X6_drop_X6 tyX6 tyX6_ok nmX6 hown hK hP hD hS 0 rfl rfl 9 (by decide) k167 (fun _ h9 => h9) rfl (by decide +kernel) rfl rfl (Nat.le_of_ble_eq_true rfl) dX6_drop_141 (fun H locs hP hD hS => ?_)
      have hP : va_P (fx_D X) vwCl [(a_o, .inr (5, [.ref a_o_phrases, .ref a_o_axioms, .int s_o_axiomCount, .ref a_o_triples, .int s_o_tripleCount, .ref a_o_rules, .ref a_o_instances, .ref a_o_counts, .ref a_o_premises, .int x5, .ref a_o_stated, .ref a_o_marks, .int s_o_broken, .ref a_o_text, .int s_o_size, .ref a_o_sizes, .ref a_o_places])), (a_o_rules, .inl (fx_cI X, 301, .inl y6)), (a_o_instances, .inl (fx_cI X, 301, .inl y7)), (a_o_counts, .inl (fx_cI X, 301, .inl y8)), (a_o_premises, .inl (fx_cI X, 903, .inl y9)), (a_o_marks, .inl (fx_cZ X, 301, .inl y3)), (a_o_places, .inl (fx_cI X, 301, .inl y10))] H := hP
      have hD : va_D A [(a_o, .inr (5, [.ref a_o_phrases, .ref a_o_axioms, .int s_o_axiomCount, .ref a_o_triples, .int s_o_tripleCount, .ref a_o_rules, .ref a_o_instances, .ref a_o_counts, .ref a_o_premises, .int x5, .ref a_o_stated, .ref a_o_marks, .int s_o_broken, .ref a_o_text, .int s_o_size, .ref a_o_sizes, .ref a_o_places])), (a_o_rules, .inl (fx_cI X, 301, .inl y6)), (a_o_instances, .inl (fx_cI X, 301, .inl y7)), (a_o_counts, .inl (fx_cI X, 301, .inl y8)), (a_o_premises, .inl (fx_cI X, 903, .inl y9)), (a_o_marks, .inl (fx_cZ X, 301, .inl y3)), (a_o_places, .inl (fx_cI X, 301, .inl y10))] := hD
      refine lv_aload_n hx hb dX6_drop_144 rfl (lv_at hl 2 rfl) ?_
      refine lv_iconst (v := (nI 0)) hx hb dX6_drop_145 (by decide) ?_
      refine va_put (D := fx_D X) (ci := 5) (v := .int (nI 0)) (ty := .int) (C := RX6) (T := TX6) (N := 17) hx hb hts im_X6_drop_X6 tyX6 tyX6_ok nmX6 hown hK hP hD hS 0 rfl rfl 12 (by decide) k218 (fun _ h9 => h9) rfl (by decide +kernel) rfl rfl (Nat.le_of_ble_eq_true rfl) dX6_drop_146 (fun H locs hP hD hS => ?_)
      have hP : va_P (fx_D X) vwCl [(a_o, .inr (5, [.ref a_o_phrases, .ref a_o_axioms, .int s_o_axiomCount, .ref a_o_triples, .int s_o_tripleCount, .ref a_o_rules, .ref a_o_instances, .ref a_o_counts, .ref a_o_premises, .int x5, .ref a_o_stated, .ref a_o_marks, .int (nI 0), .ref a_o_text, .int s_o_size, .ref a_o_sizes, .ref a_o_places])), (a_o_rules, .inl (fx_cI X, 301, .inl y6)), (a_o_instances, .inl (fx_cI X, 301, .inl y7)), (a_o_counts, .inl (fx_cI X, 301, .inl y8)), (a_o_premises, .inl (fx_cI X, 903, .inl y9)), (a_o_marks, .inl (fx_cZ X, 301, .inl y3)), (a_o_places, .inl (fx_cI X, 301, .inl y10))] H := hP
      have hD : va_D A [(a_o, .inr (5, [.ref a_o_phrases, .ref a_o_axioms, .int s_o_axiomCount, .ref a_o_triples, .int s_o_tripleCount, .ref a_o_rules, .ref a_o_instances, .ref a_o_counts, .ref a_o_premises, .int x5, .ref a_o_stated, .ref a_o_marks, .int (nI 0), .ref a_o_text, .int s_o_size, .ref a_o_sizes, .ref a_o_places])), (a_o_rules, .inl (fx_cI X, 301, .inl y6)), (a_o_instances, .inl (fx_cI X, 301, .inl y7)), (a_o_counts, .inl (fx_cI X, 301, .inl y8)), (a_o_premises, .inl (fx_cI X, 903, .inl y9)), (a_o_marks, .inl (fx_cZ X, 301, .inl y3)), (a_o_places, .inl (fx_cI X, 301, .inl y10))] := hD
      refine lv_iload_n hx hb dX6_drop_149 rfl (lv_at hl 1 rfl) ?_
      exact W.iret (v := x5) hx hb hr  (fun t ht hW => ⟨⟨x5, (x5, (nI 0), y6, y7, y8, y9, y3, y10), rfl, h, by rw [ht]; exact hP, va_K.moved hW.alike hK, hD⟩, hS.F ht⟩) hS.2.2 dX6_drop_150
    refine lv_aload_n hx hb dX6_drop_28 rfl (lv_at hl 2 rfl) ?_
    refine va_get (D := fx_D X) (ci := 5) (v := .ref a_o_marks) (C := RX6) (T := TX6) (N := 17) hx hb hts im_X6_drop_X6 hown hK hP 0 rfl rfl 11 (by decide) k143 (fun _ h9 => h9) rfl dX6_drop_29 ?_
    refine lv_iload_n hx hb dX6_drop_32 rfl (lv_at hl 0 rfl) ?_
    refine fx_zald hx hb hK hP 5 2 rfl rfl h dX6_drop_33 (fun v12 h => ?_)
    refine fx_if_ne (tgt := 40) hx hb h dX6_drop_34 (by decide) (fun h => ?_) (fun h => ?_)
    · refine fx_iinc (y := (nI 1)) hx hb h dX6_drop_40 (by decide) (fun v14 => [(2, .int v14), (3, .int x4), (0, .ref a_o)]) hl 1 rfl (by decide) (fun _ => rfl) (fun v14 ls h hl => ?_)
      refine lv_aload_n hx hb dX6_drop_43 rfl (lv_at hl 2 rfl) ?_
      refine va_get (D := fx_D X) (ci := 5) (v := .ref a_o_places) (C := RX6) (T := TX6) (N := 17) hx hb hts im_X6_drop_X6 hown hK hP 0 rfl rfl 16 (by decide) k153 (fun _ h9 => h9) rfl dX6_drop_44 ?_
      refine lv_iload_n hx hb dX6_drop_47 rfl (lv_at hl 1 rfl) ?_
      refine lv_iload_n hx hb dX6_drop_48 rfl (lv_at hl 0 rfl) ?_
      refine fx_iast hx hb hK hP hD hS 6 0 rfl rfl h dX6_drop_49 (fun g15 => [(a_o, .inr (5, [.ref a_o_phrases, .ref a_o_axioms, .int s_o_axiomCount, .ref a_o_triples, .int s_o_tripleCount, .ref a_o_rules, .ref a_o_instances, .ref a_o_counts, .ref a_o_premises, .int s_o_rows, .ref a_o_stated, .ref a_o_marks, .int s_o_broken, .ref a_o_text, .int s_o_size, .ref a_o_sizes, .ref a_o_places])), (a_o_rules, .inl (fx_cI X, 301, .inl y6)), (a_o_instances, .inl (fx_cI X, 301, .inl y7)), (a_o_counts, .inl (fx_cI X, 301, .inl y8)), (a_o_premises, .inl (fx_cI X, 903, .inl y9)), (a_o_marks, .inl (fx_cZ X, 301, .inl y3)), (a_o_places, .inl (fx_cI X, 301, .inl g15))]) (fun _ => rfl) (fun H locs g15 h hP hD hS => ?_)
      refine lv_aload_n hx hb dX6_drop_50 rfl (lv_at hl 2 rfl) ?_
      refine va_get (D := fx_D X) (ci := 5) (v := .ref a_o_rules) (C := RX6) (T := TX6) (N := 17) hx hb hts im_X6_drop_X6 hown hK hP 0 rfl rfl 5 (by decide) k128 (fun _ h9 => h9) rfl dX6_drop_51 ?_
      refine lv_iload_n hx hb dX6_drop_54 rfl (lv_at hl 0 rfl) ?_
      refine lv_aload_n hx hb dX6_drop_55 rfl (lv_at hl 2 rfl) ?_
      refine va_get (D := fx_D X) (ci := 5) (v := .ref a_o_rules) (C := RX6) (T := TX6) (N := 17) hx hb hts im_X6_drop_X6 hown hK hP 0 rfl rfl 5 (by decide) k128 (fun _ h9 => h9) rfl dX6_drop_56 ?_
      refine lv_iload_n hx hb dX6_drop_59 rfl (lv_at hl 1 rfl) ?_
      refine fx_iald hx hb hK hP 1 0 rfl rfl h dX6_drop_60 (fun v16 h => ?_)
      refine fx_iast hx hb hK hP hD hS 1 0 rfl rfl h dX6_drop_61 (fun g18 => [(a_o, .inr (5, [.ref a_o_phrases, .ref a_o_axioms, .int s_o_axiomCount, .ref a_o_triples, .int s_o_tripleCount, .ref a_o_rules, .ref a_o_instances, .ref a_o_counts, .ref a_o_premises, .int s_o_rows, .ref a_o_stated, .ref a_o_marks, .int s_o_broken, .ref a_o_text, .int s_o_size, .ref a_o_sizes, .ref a_o_places])), (a_o_rules, .inl (fx_cI X, 301, .inl g18)), (a_o_instances, .inl (fx_cI X, 301, .inl y7)), (a_o_counts, .inl (fx_cI X, 301, .inl y8)), (a_o_premises, .inl (fx_cI X, 903, .inl y9)), (a_o_marks, .inl (fx_cZ X, 301, .inl y3)), (a_o_places, .inl (fx_cI X, 301, .inl g15))]) (fun _ => rfl) (fun H locs g18 h hP hD hS => ?_)
      refine lv_aload_n hx hb dX6_drop_62 rfl (lv_at hl 2 rfl) ?_
      refine va_get (D := fx_D X) (ci := 5) (v := .ref a_o_instances) (C := RX6) (T := TX6) (N := 17) hx hb hts im_X6_drop_X6 hown hK hP 0 rfl rfl 6 (by decide) k131 (fun _ h9 => h9) rfl dX6_drop_63 ?_
      refine lv_iload_n hx hb dX6_drop_66 rfl (lv_at hl 0 rfl) ?_
      refine lv_aload_n hx hb dX6_drop_67 rfl (lv_at hl 2 rfl) ?_
      refine va_get (D := fx_D X) (ci := 5) (v := .ref a_o_instances) (C := RX6) (T := TX6) (N := 17) hx hb hts im_X6_drop_X6 hown hK hP 0 rfl rfl 6 (by decide) k131 (fun _ h9 => h9) rfl dX6_drop_68 ?_
      refine lv_iload_n hx hb dX6_drop_71 rfl (lv_at hl 1 rfl) ?_
      refine fx_iald hx hb hK hP 2 0 rfl rfl h dX6_drop_72 (fun v19 h => ?_)
      refine fx_iast hx hb hK hP hD hS 2 0 rfl rfl h dX6_drop_73 (fun g21 => [(a_o, .inr (5, [.ref a_o_phrases, .ref a_o_axioms, .int s_o_axiomCount, .ref a_o_triples, .int s_o_tripleCount, .ref a_o_rules, .ref a_o_instances, .ref a_o_counts, .ref a_o_premises, .int s_o_rows, .ref a_o_stated, .ref a_o_marks, .int s_o_broken, .ref a_o_text, .int s_o_size, .ref a_o_sizes, .ref a_o_places])), (a_o_rules, .inl (fx_cI X, 301, .inl g18)), (a_o_instances, .inl (fx_cI X, 301, .inl g21)), (a_o_counts, .inl (fx_cI X, 301, .inl y8)), (a_o_premises, .inl (fx_cI X, 903, .inl y9)), (a_o_marks, .inl (fx_cZ X, 301, .inl y3)), (a_o_places, .inl (fx_cI X, 301, .inl g15))]) (fun _ => rfl) (fun H locs g21 h hP hD hS => ?_)
      refine lv_aload_n hx hb dX6_drop_74 rfl (lv_at hl 2 rfl) ?_
      refine va_get (D := fx_D X) (ci := 5) (v := .ref a_o_counts) (C := RX6) (T := TX6) (N := 17) hx hb hts im_X6_drop_X6 hown hK hP 0 rfl rfl 7 (by decide) k134 (fun _ h9 => h9) rfl dX6_drop_75 ?_
      refine lv_iload_n hx hb dX6_drop_78 rfl (lv_at hl 1 rfl) ?_
      refine fx_iald hx hb hK hP 3 0 rfl rfl h dX6_drop_79 (fun v22 h => ?_)
      refine lv_istore (lv' := [(4, .int v22), (2, .int v14), (3, .int x4), (0, .ref a_o)]) hx hb dX6_drop_80 hl (by decide) rfl (fun ls hl => ?_)
      refine lv_iconst (v := (nI 0)) hx hb dX6_drop_82 (by decide) ?_
      refine lv_istore (lv' := [(5, .int (nI 0)), (4, .int v22), (2, .int v14), (3, .int x4), (0, .ref a_o)]) hx hb dX6_drop_83 hl (by decide) rfl (fun ls hl => ?_)
      refine fx_loop2 (G := fun (x24 : Int32) (y25 : Nat → Int32) => ∀ (H : Heap) (locs : List Loc) (ls : Array Slot), va_P (fx_D X) vwCl [(a_o, .inr (5, [.ref a_o_phrases, .ref a_o_axioms, .int s_o_axiomCount, .ref a_o_triples, .int s_o_tripleCount, .ref a_o_rules, .ref a_o_instances, .ref a_o_counts, .ref a_o_premises, .int s_o_rows, .ref a_o_stated, .ref a_o_marks, .int s_o_broken, .ref a_o_text, .int s_o_size, .ref a_o_sizes, .ref a_o_places])), (a_o_rules, .inl (fx_cI X, 301, .inl g18)), (a_o_instances, .inl (fx_cI X, 301, .inl g21)), (a_o_counts, .inl (fx_cI X, 301, .inl y8)), (a_o_premises, .inl (fx_cI X, 903, .inl y25)), (a_o_marks, .inl (fx_cZ X, 301, .inl y3)), (a_o_places, .inl (fx_cI X, 301, .inl g15))] H → va_D A [(a_o, .inr (5, [.ref a_o_phrases, .ref a_o_axioms, .int s_o_axiomCount, .ref a_o_triples, .int s_o_tripleCount, .ref a_o_rules, .ref a_o_instances, .ref a_o_counts, .ref a_o_premises, .int s_o_rows, .ref a_o_stated, .ref a_o_marks, .int s_o_broken, .ref a_o_text, .int s_o_size, .ref a_o_sizes, .ref a_o_places])), (a_o_rules, .inl (fx_cI X, 301, .inl g18)), (a_o_instances, .inl (fx_cI X, 301, .inl g21)), (a_o_counts, .inl (fx_cI X, 301, .inl y8)), (a_o_premises, .inl (fx_cI X, 903, .inl y25)), (a_o_marks, .inl (fx_cZ X, 301, .inl y3)), (a_o_places, .inl (fx_cI X, 301, .inl g15))] → va_S A s.heap H locs → lv_has ls 6 [(5, .int x24), (4, .int v22), (2, .int v14), (3, .int x4), (0, .ref a_o)] → W p l e _ s m _ below meth c H locs _ _ _ (F0 m 85 ls [])) (fun rec26 hrec26 x24 y25 h => ?_) h _ _ _ hP hD hS (lv_sub hl [0, 1, 2, 3, 4] rfl)
      intro H locs ls hP hD hS hl
      refine lv_iload hx hb dX6_drop_85 (lv_at hl 0 rfl) ?_
      refine lv_iload hx hb dX6_drop_87 (lv_at hl 1 rfl) ?_
      refine fx_icmp_ge (tgt := 125) hx hb h dX6_drop_89 (by decide) (fun h => ?_) (fun h => ?_)
      · refine lv_aload_n hx hb dX6_drop_125 rfl (lv_at hl 4 rfl) ?_
        refine va_get (D := fx_D X) (ci := 5) (v := .ref a_o_counts) (C := RX6) (T := TX6) (N := 17) hx hb hts im_X6_drop_X6 hown hK hP 0 rfl rfl 7 (by decide) k134 (fun _ h9 => h9) rfl dX6_drop_126 ?_
        refine lv_iload_n hx hb dX6_drop_129 rfl (lv_at hl 2 rfl) ?_
        refine lv_iload hx hb dX6_drop_130 (lv_at hl 1 rfl) ?_
        refine fx_iast hx hb hK hP hD hS 3 0 rfl rfl h dX6_drop_132 (fun g27 => [(a_o, .inr (5, [.ref a_o_phrases, .ref a_o_axioms, .int s_o_axiomCount, .ref a_o_triples, .int s_o_tripleCount, .ref a_o_rules, .ref a_o_instances, .ref a_o_counts, .ref a_o_premises, .int s_o_rows, .ref a_o_stated, .ref a_o_marks, .int s_o_broken, .ref a_o_text, .int s_o_size, .ref a_o_sizes, .ref a_o_places])), (a_o_rules, .inl (fx_cI X, 301, .inl g18)), (a_o_instances, .inl (fx_cI X, 301, .inl g21)), (a_o_counts, .inl (fx_cI X, 301, .inl g27)), (a_o_premises, .inl (fx_cI X, 903, .inl y25)), (a_o_marks, .inl (fx_cZ X, 301, .inl y3)), (a_o_places, .inl (fx_cI X, 301, .inl g15))]) (fun _ => rfl) (fun H locs g27 h hP hD hS => ?_)
        refine fx_iinc (y := (nI 1)) hx hb h dX6_drop_133 (by decide) (fun v28 => [(3, .int v28), (5, .int x24), (4, .int v22), (2, .int v14), (0, .ref a_o)]) hl 3 rfl (by decide) (fun _ => rfl) (fun v28 ls h hl => ?_)
        refine lv_goto (tgt := 20) hx hb dX6_drop_136 (by decide) ?_
        exact hrec11 _ _ _ _ _ _ _ h _ _ _ hP hD hS (lv_sub hl [0, 3, 4] rfl)
      refine lv_aload_n hx hb dX6_drop_92 rfl (lv_at hl 4 rfl) ?_
      refine va_get (D := fx_D X) (ci := 5) (v := .ref a_o_premises) (C := RX6) (T := TX6) (N := 17) hx hb hts im_X6_drop_X6 hown hK hP 0 rfl rfl 8 (by decide) k137 (fun _ h9 => h9) rfl dX6_drop_93 ?_
      refine lv_iconst (v := (nI 3)) hx hb dX6_drop_96 (by decide) ?_
      refine lv_iload_n hx hb dX6_drop_97 rfl (lv_at hl 2 rfl) ?_
      refine fx_imul hx hb h dX6_drop_98 (fun v30 h => ?_)
      refine lv_iload hx hb dX6_drop_99 (lv_at hl 0 rfl) ?_
      refine fx_iadd hx hb h dX6_drop_101 (fun v31 h => ?_)
      refine lv_aload_n hx hb dX6_drop_102 rfl (lv_at hl 4 rfl) ?_
      refine va_get (D := fx_D X) (ci := 5) (v := .ref a_o_places) (C := RX6) (T := TX6) (N := 17) hx hb hts im_X6_drop_X6 hown hK hP 0 rfl rfl 16 (by decide) k153 (fun _ h9 => h9) rfl dX6_drop_103 ?_
      refine lv_aload_n hx hb dX6_drop_106 rfl (lv_at hl 4 rfl) ?_
      refine va_get (D := fx_D X) (ci := 5) (v := .ref a_o_premises) (C := RX6) (T := TX6) (N := 17) hx hb hts im_X6_drop_X6 hown hK hP 0 rfl rfl 8 (by decide) k137 (fun _ h9 => h9) rfl dX6_drop_107 ?_
      refine lv_iconst (v := (nI 3)) hx hb dX6_drop_110 (by decide) ?_
      refine lv_iload_n hx hb dX6_drop_111 rfl (lv_at hl 3 rfl) ?_
      refine fx_imul hx hb h dX6_drop_112 (fun v32 h => ?_)
      refine lv_iload hx hb dX6_drop_113 (lv_at hl 0 rfl) ?_
      refine fx_iadd hx hb h dX6_drop_115 (fun v33 h => ?_)
      refine fx_iald hx hb hK hP 4 0 rfl rfl h dX6_drop_116 (fun v34 h => ?_)
      refine fx_iald hx hb hK hP 6 0 rfl rfl h dX6_drop_117 (fun v36 h => ?_)
      refine fx_iast hx hb hK hP hD hS 4 0 rfl rfl h dX6_drop_118 (fun g38 => [(a_o, .inr (5, [.ref a_o_phrases, .ref a_o_axioms, .int s_o_axiomCount, .ref a_o_triples, .int s_o_tripleCount, .ref a_o_rules, .ref a_o_instances, .ref a_o_counts, .ref a_o_premises, .int s_o_rows, .ref a_o_stated, .ref a_o_marks, .int s_o_broken, .ref a_o_text, .int s_o_size, .ref a_o_sizes, .ref a_o_places])), (a_o_rules, .inl (fx_cI X, 301, .inl g18)), (a_o_instances, .inl (fx_cI X, 301, .inl g21)), (a_o_counts, .inl (fx_cI X, 301, .inl y8)), (a_o_premises, .inl (fx_cI X, 903, .inl g38)), (a_o_marks, .inl (fx_cZ X, 301, .inl y3)), (a_o_places, .inl (fx_cI X, 301, .inl g15))]) (fun _ => rfl) (fun H locs g38 h hP hD hS => ?_)
      refine fx_iinc (y := (nI 1)) hx hb h dX6_drop_119 (by decide) (fun v39 => [(5, .int v39), (4, .int v22), (2, .int v14), (3, .int x4), (0, .ref a_o)]) hl 0 rfl (by decide) (fun _ => rfl) (fun v39 ls h hl => ?_)
      refine lv_goto (tgt := 85) hx hb dX6_drop_122 (by decide) ?_
      exact hrec26 _ _ h _ _ _ hP hD hS (lv_sub hl [0, 1, 2, 3, 4] rfl)
    refine lv_goto (tgt := 133) hx hb dX6_drop_37 (by decide) ?_
    refine fx_iinc (y := (nI 1)) hx hb h dX6_drop_133 (by decide) (fun v44 => [(3, .int v44), (2, .int x5), (0, .ref a_o)]) hl 0 rfl (by decide) (fun _ => rfl) (fun v44 ls h hl => ?_)
    refine lv_goto (tgt := 20) hx hb dX6_drop_136 (by decide) ?_
    exact hrec11 _ _ _ _ _ _ _ h _ _ _ hP hD hS (lv_sub hl [0, 1, 2] rfl)
  refine lv_iconst (v := (-1)) hx hb dX6_drop_8 (by decide) ?_
  exact W.iret (v := (-1)) hx hb hr  (fun t ht hW => ⟨⟨(-1), (s_o_rows, s_o_broken, f_o_rules, f_o_instances, f_o_counts, f_o_premises, f_o_marks, f_o_places), rfl, h, by rw [ht]; exact hP, va_K.moved hW.alike hK, hD⟩, hS.F ht⟩) hS.2.2 dX6_drop_9

/-- X6_name: its walk -/
def wp_X6_name (post : Int32 → Prop) (s_o_rows : Int32) (f_o_rules : Nat → Int32) (p1 : Int32) : Prop :=
  wp_X6_isRow (fun r1 => fx_br (r1 = 0) (post (-1)) (fx_ix p1 301 (fun k3 => fx_nm (f_o_rules k3) (fun v2 => post v2)))) s_o_rows p1
theorem im_X6_name_X6 : ∀ w ∈ u_ws RX6 TX6 17, w ∈ wsX6_name := by decide +kernel
set_option maxHeartbeats 4000000 in
set_option maxRecDepth 100000 in
theorem cw_X6_name (l : Launch) (X : fx_X) (a_o : Nat) (a_o_phrases : Nat) (a_o_axioms : Nat) (a_o_triples : Nat) (a_o_rules : Nat) (a_o_instances : Nat) (a_o_counts : Nat) (a_o_premises : Nat) (a_o_stated : Nat) (a_o_marks : Nat) (a_o_text : Nat) (a_o_sizes : Nat) (a_o_places : Nat) (s_o_axiomCount : Int32) (s_o_tripleCount : Int32) (s_o_rows : Int32) (s_o_broken : Int32) (s_o_size : Int32) (f_o_rules : Nat → Int32) (p1 : Int32) (post : Int32 → Prop) (h : wp_X6_name post s_o_rows f_o_rules p1) : Met l yX6_name wsX6_name ({ frames := 1, cells := 0, slots := 0, locals := 21 }) (va_Pc [.ref a_o, .int p1] (fx_PP X [(a_o, .inr (5, [.ref a_o_phrases, .ref a_o_axioms, .int s_o_axiomCount, .ref a_o_triples, .int s_o_tripleCount, .ref a_o_rules, .ref a_o_instances, .ref a_o_counts, .ref a_o_premises, .int s_o_rows, .ref a_o_stated, .ref a_o_marks, .int s_o_broken, .ref a_o_text, .int s_o_size, .ref a_o_sizes, .ref a_o_places])), (a_o_rules, .inl (fx_cI X, 301, .inl f_o_rules))])) (vp_Si post) 0 0 (fun _ => False) := by
  refine Met.ofW (cc := cX6_name) (maxL := 2) (ret := (some .int)) (by decide) rfl ?_
  intro p e s m args below meth c s₁ B hml hv
  obtain ⟨rfl, hP, hK, hG⟩ := hv
  have hx := B.exec
  have hb := B.bytes
  have hr := B.returns
  have hts := atoms_spec (ws := wsX6_name) B.pre
  have hown : s.vm.findClass RX6 = some m.cls := findClass_of_methodNamed B.named
  have hlocks := B.notSynchronized
  have hS : va_S (fun _ => False) s.heap s.heap [] := va_S.rf
  have k128 := hts (.fieldLink RX6 128 "ProofCheckerModel" "rules" "[I") (by decide +kernel)
  have hl := lv_entry ([.ref a_o, .int p1]) (n := 2) (Nat.le_of_ble_eq_true rfl)
  rw [lg_entry_eq]
  generalize (lg_sl ([.ref a_o, .int p1]) ++ List.replicate (2 - (lg_sl ([.ref a_o, .int p1])).length) Slot.unset).toArray = ls at hl ⊢
  have hl : lv_has ls 2 [(0, .ref a_o), (1, .int p1)] := hl
  unfold wp_X6_name at h
  refine lv_aload_n hx hb dX6_name_0 rfl (lv_at hl 0 rfl) ?_
  refine lv_iload_n hx hb dX6_name_1 rfl (lv_at hl 1 rfl) ?_
  refine vp_callSi (W.runV (As := [.int p1]) (rest := []) ⟨hx, hb, hml, hown, hts⟩ (cw_X6_isRow l X a_o a_o_phrases a_o_axioms a_o_triples a_o_rules a_o_instances a_o_counts a_o_premises a_o_stated a_o_marks a_o_text a_o_sizes a_o_places s_o_axiomCount s_o_tripleCount s_o_rows s_o_broken s_o_size p1 _ h) (cwV 1 hts gX6_name_X6_isRow rfl rfl rfl (by decide +kernel) ⟨Nat.le_of_ble_eq_true rfl, Nat.le_of_ble_eq_true rfl⟩) (fx_pv hP hK hG hS (va_recv hK hP (ci := 5) (q0 := 0) rfl rfl) [0] rfl) rfl rfl hl.1 rfl (lv_room (Nat.le_of_ble_eq_true rfl)) dX6_name_2 ⟨Nat.le_of_ble_eq_true rfl, Nat.le_of_ble_eq_true rfl⟩) (fun r1 h => ?_)
  refine fx_if_eq (tgt := 17) hx hb h dX6_name_5 (by decide) (fun h => ?_) (fun h => ?_)
  · refine lv_iconst (v := (-1)) hx hb dX6_name_17 (by decide) ?_
    exact W.iret (v := (-1)) hx hb hr  (fun t ht hW => ⟨_, rfl, h, ht⟩) (fun q hq => by cases hq) dX6_name_18
  refine lv_aload_n hx hb dX6_name_8 rfl (lv_at hl 0 rfl) ?_
  refine va_get (D := fx_D X) (ci := 5) (v := .ref a_o_rules) (C := RX6) (T := TX6) (N := 17) hx hb hts im_X6_name_X6 hown hK hP 0 rfl rfl 5 (by decide) k128 (fun _ h9 => h9) rfl dX6_name_9 ?_
  refine lv_iload_n hx hb dX6_name_12 rfl (lv_at hl 1 rfl) ?_
  refine fx_iald hx hb hK hP 1 0 rfl rfl h dX6_name_13 (fun v2 h => ?_)
  refine lv_goto (tgt := 18) hx hb dX6_name_14 (by decide) ?_
  exact W.iret (v := v2) hx hb hr  (fun t ht hW => ⟨_, rfl, h, ht⟩) (fun q hq => by cases hq) dX6_name_18

/-- X6_states: its walk -/
def wp_X6_states (post : Int32 → (Nat → Int32) → Prop) (s_o_rows : Int32) (f_o_axioms : Nat → Int32) (f_o_triples : Nat → Int32) (f_o_rules : Nat → Int32) (f_o_instances : Nat → Int32) (f_o_counts : Nat → Int32) (f_o_premises : Nat → Int32) (f_o_stated : Nat → Int32) (p1 : Int32) (p2 : Int32) : Prop :=
  wp_X6_isRow (fun r1 => fx_br (r1 = 0) (post (-1) f_o_stated) (fx_br (p2 < 0) (post (-2) f_o_stated) (fx_br (p2 ≤ (nI 3)) (wp_X6_work (fun y2 => fx_nm ((nI 4) * p1) (fun v3 => fx_nm (v3 + p2) (fun v4 => fx_ix v4 1204 (fun k6 => fx_nm (y2 k6) (fun v5 => post v5 y2))))) f_o_axioms f_o_triples f_o_rules f_o_instances f_o_counts f_o_premises f_o_stated p1) (post (-2) f_o_stated)))) s_o_rows p1
theorem im_X6_states_X6 : ∀ w ∈ u_ws RX6 TX6 17, w ∈ wsX6_states := by decide +kernel
set_option maxHeartbeats 4000000 in
set_option maxRecDepth 100000 in
theorem cw_X6_states (l : Launch) (X : fx_X) (a_o : Nat) (a_o_phrases : Nat) (a_o_axioms : Nat) (a_o_triples : Nat) (a_o_rules : Nat) (a_o_instances : Nat) (a_o_counts : Nat) (a_o_premises : Nat) (a_o_stated : Nat) (a_o_marks : Nat) (a_o_text : Nat) (a_o_sizes : Nat) (a_o_places : Nat) (s_o_axiomCount : Int32) (s_o_tripleCount : Int32) (s_o_rows : Int32) (s_o_broken : Int32) (s_o_size : Int32) (f_o_axioms : Nat → Int32) (f_o_triples : Nat → Int32) (f_o_rules : Nat → Int32) (f_o_instances : Nat → Int32) (f_o_counts : Nat → Int32) (f_o_premises : Nat → Int32) (f_o_stated : Nat → Int32) (sz : Nat) (p1 : Int32) (p2 : Int32) (post : Int32 → (Nat → Int32) → Prop) (h : wp_X6_states post s_o_rows f_o_axioms f_o_triples f_o_rules f_o_instances f_o_counts f_o_premises f_o_stated p1 p2) : Met l yX6_states wsX6_states ({ frames := 6, cells := 0, slots := 0, locals := 148 }) (va_Pc [.ref a_o, .int p1, .int p2] (fx_PW X [(a_o, .inr (5, [.ref a_o_phrases, .ref a_o_axioms, .int s_o_axiomCount, .ref a_o_triples, .int s_o_tripleCount, .ref a_o_rules, .ref a_o_instances, .ref a_o_counts, .ref a_o_premises, .int s_o_rows, .ref a_o_stated, .ref a_o_marks, .int s_o_broken, .ref a_o_text, .int s_o_size, .ref a_o_sizes, .ref a_o_places])), (a_o_axioms, .inl (fx_cI X, 404, .inl f_o_axioms)), (a_o_triples, .inl (fx_cI X, 404, .inl f_o_triples)), (a_o_rules, .inl (fx_cI X, 301, .inl f_o_rules)), (a_o_instances, .inl (fx_cI X, 301, .inl f_o_instances)), (a_o_counts, .inl (fx_cI X, 301, .inl f_o_counts)), (a_o_premises, .inl (fx_cI X, 903, .inl f_o_premises)), (a_o_stated, .inl (fx_cI X, 1204, .inl f_o_stated))] sz)) (va_Qi (fun r (u : (Nat → Int32)) => post r u) (fun (u : (Nat → Int32)) t => fx_EW X (va_A [(a_o, .inr (5, [.ref a_o_phrases, .ref a_o_axioms, .int s_o_axiomCount, .ref a_o_triples, .int s_o_tripleCount, .ref a_o_rules, .ref a_o_instances, .ref a_o_counts, .ref a_o_premises, .int s_o_rows, .ref a_o_stated, .ref a_o_marks, .int s_o_broken, .ref a_o_text, .int s_o_size, .ref a_o_sizes, .ref a_o_places])), (a_o_axioms, .inl (fx_cI X, 404, .inl f_o_axioms)), (a_o_triples, .inl (fx_cI X, 404, .inl f_o_triples)), (a_o_rules, .inl (fx_cI X, 301, .inl f_o_rules)), (a_o_instances, .inl (fx_cI X, 301, .inl f_o_instances)), (a_o_counts, .inl (fx_cI X, 301, .inl f_o_counts)), (a_o_premises, .inl (fx_cI X, 903, .inl f_o_premises)), (a_o_stated, .inl (fx_cI X, 1204, .inl f_o_stated))] sz) [(a_o, .inr (5, [.ref a_o_phrases, .ref a_o_axioms, .int s_o_axiomCount, .ref a_o_triples, .int s_o_tripleCount, .ref a_o_rules, .ref a_o_instances, .ref a_o_counts, .ref a_o_premises, .int s_o_rows, .ref a_o_stated, .ref a_o_marks, .int s_o_broken, .ref a_o_text, .int s_o_size, .ref a_o_sizes, .ref a_o_places])), (a_o_axioms, .inl (fx_cI X, 404, .inl f_o_axioms)), (a_o_triples, .inl (fx_cI X, 404, .inl f_o_triples)), (a_o_rules, .inl (fx_cI X, 301, .inl f_o_rules)), (a_o_instances, .inl (fx_cI X, 301, .inl f_o_instances)), (a_o_counts, .inl (fx_cI X, 301, .inl f_o_counts)), (a_o_premises, .inl (fx_cI X, 903, .inl f_o_premises)), (a_o_stated, .inl (fx_cI X, 1204, .inl u))] t) (va_A [(a_o, .inr (5, [.ref a_o_phrases, .ref a_o_axioms, .int s_o_axiomCount, .ref a_o_triples, .int s_o_tripleCount, .ref a_o_rules, .ref a_o_instances, .ref a_o_counts, .ref a_o_premises, .int s_o_rows, .ref a_o_stated, .ref a_o_marks, .int s_o_broken, .ref a_o_text, .int s_o_size, .ref a_o_sizes, .ref a_o_places])), (a_o_axioms, .inl (fx_cI X, 404, .inl f_o_axioms)), (a_o_triples, .inl (fx_cI X, 404, .inl f_o_triples)), (a_o_rules, .inl (fx_cI X, 301, .inl f_o_rules)), (a_o_instances, .inl (fx_cI X, 301, .inl f_o_instances)), (a_o_counts, .inl (fx_cI X, 301, .inl f_o_counts)), (a_o_premises, .inl (fx_cI X, 903, .inl f_o_premises)), (a_o_stated, .inl (fx_cI X, 1204, .inl f_o_stated))] sz)) 0 0 (va_A [(a_o, .inr (5, [.ref a_o_phrases, .ref a_o_axioms, .int s_o_axiomCount, .ref a_o_triples, .int s_o_tripleCount, .ref a_o_rules, .ref a_o_instances, .ref a_o_counts, .ref a_o_premises, .int s_o_rows, .ref a_o_stated, .ref a_o_marks, .int s_o_broken, .ref a_o_text, .int s_o_size, .ref a_o_sizes, .ref a_o_places])), (a_o_axioms, .inl (fx_cI X, 404, .inl f_o_axioms)), (a_o_triples, .inl (fx_cI X, 404, .inl f_o_triples)), (a_o_rules, .inl (fx_cI X, 301, .inl f_o_rules)), (a_o_instances, .inl (fx_cI X, 301, .inl f_o_instances)), (a_o_counts, .inl (fx_cI X, 301, .inl f_o_counts)), (a_o_premises, .inl (fx_cI X, 903, .inl f_o_premises)), (a_o_stated, .inl (fx_cI X, 1204, .inl f_o_stated))] sz) := by
  refine Met.ofW (cc := cX6_states) (maxL := 3) (ret := (some .int)) (by decide) rfl ?_
  intro p e s m args below meth c s₁ B hml hv
  obtain ⟨rfl, hsz, hP, hK, hD0, hG⟩ := hv
  have hx := B.exec
  have hb := B.bytes
  have hr := B.returns
  have hts := atoms_spec (ws := wsX6_states) B.pre
  have hown : s.vm.findClass RX6 = some m.cls := findClass_of_methodNamed B.named
  have hlocks := B.notSynchronized
  subst hsz
  have hD := hD0.self (sz := s.heap.size)
  generalize hAe : va_A [(a_o, .inr (5, [.ref a_o_phrases, .ref a_o_axioms, .int s_o_axiomCount, .ref a_o_triples, .int s_o_tripleCount, .ref a_o_rules, .ref a_o_instances, .ref a_o_counts, .ref a_o_premises, .int s_o_rows, .ref a_o_stated, .ref a_o_marks, .int s_o_broken, .ref a_o_text, .int s_o_size, .ref a_o_sizes, .ref a_o_places])), (a_o_axioms, .inl (fx_cI X, 404, .inl f_o_axioms)), (a_o_triples, .inl (fx_cI X, 404, .inl f_o_triples)), (a_o_rules, .inl (fx_cI X, 301, .inl f_o_rules)), (a_o_instances, .inl (fx_cI X, 301, .inl f_o_instances)), (a_o_counts, .inl (fx_cI X, 301, .inl f_o_counts)), (a_o_premises, .inl (fx_cI X, 903, .inl f_o_premises)), (a_o_stated, .inl (fx_cI X, 1204, .inl f_o_stated))] s.heap.size = A at hD hG ⊢
  have hA : ∀ q : Nat, s.heap.size ≤ q → A q := fun q h => by rw [← hAe]; exact Or.inr h
  have hS : va_S A s.heap s.heap [] := va_S.rf
  have k140 := hts (.fieldLink RX6 140 "ProofCheckerModel" "stated" "[I") (by decide +kernel)
  have hl := lv_entry ([.ref a_o, .int p1, .int p2]) (n := 3) (Nat.le_of_ble_eq_true rfl)
  rw [lg_entry_eq]
  generalize (lg_sl ([.ref a_o, .int p1, .int p2]) ++ List.replicate (3 - (lg_sl ([.ref a_o, .int p1, .int p2])).length) Slot.unset).toArray = ls at hl ⊢
  have hl : lv_has ls 3 [(0, .ref a_o), (1, .int p1), (2, .int p2)] := hl
  unfold wp_X6_states at h
  refine lv_aload_n hx hb dX6_states_0 rfl (lv_at hl 0 rfl) ?_
  refine lv_iload_n hx hb dX6_states_1 rfl (lv_at hl 1 rfl) ?_
  refine vp_callSi (W.runV (As := [.int p1]) (rest := []) ⟨hx, hb, hml, hown, hts⟩ (cw_X6_isRow l X a_o a_o_phrases a_o_axioms a_o_triples a_o_rules a_o_instances a_o_counts a_o_premises a_o_stated a_o_marks a_o_text a_o_sizes a_o_places s_o_axiomCount s_o_tripleCount s_o_rows s_o_broken s_o_size p1 _ h) (cwV 1 hts gX6_states_X6_isRow rfl rfl rfl (by decide +kernel) ⟨Nat.le_of_ble_eq_true rfl, Nat.le_of_ble_eq_true rfl⟩) (fx_pv hP hK hG hS (va_recv hK hP (ci := 5) (q0 := 0) rfl rfl) [0] rfl) rfl rfl hl.1 rfl (lv_room (Nat.le_of_ble_eq_true rfl)) dX6_states_2 ⟨Nat.le_of_ble_eq_true rfl, Nat.le_of_ble_eq_true rfl⟩) (fun r1 h => ?_)
  refine fx_if_ne (tgt := 10) hx hb h dX6_states_5 (by decide) (fun h => ?_) (fun h => ?_)
  · refine lv_iload_n hx hb dX6_states_10 rfl (lv_at hl 2 rfl) ?_
    refine fx_if_lt (tgt := 19) hx hb h dX6_states_11 (by decide) (fun h => ?_) (fun h => ?_)
    · refine lv_bipush (v := (-2)) hx hb dX6_states_19 (by decide) ?_
      exact W.iret (v := (-2)) hx hb hr  (fun t ht hW => ⟨⟨(-2), f_o_stated, rfl, h, by rw [ht]; exact hP, va_K.moved hW.alike hK, hD⟩, hS.F ht⟩) hS.2.2 dX6_states_21
    refine lv_iload_n hx hb dX6_states_14 rfl (lv_at hl 2 rfl) ?_
    refine lv_iconst (v := (nI 3)) hx hb dX6_states_15 (by decide) ?_
    refine fx_icmp_le (tgt := 22) hx hb h dX6_states_16 (by decide) (fun h => ?_) (fun h => ?_)
    · refine lv_aload_n hx hb dX6_states_22 rfl (lv_at hl 0 rfl) ?_
      refine lv_iload_n hx hb dX6_states_23 rfl (lv_at hl 1 rfl) ?_
      have hFc := va_free (wc := [(a_o, .inr (5, [.ref a_o_phrases, .ref a_o_axioms, .int s_o_axiomCount, .ref a_o_triples, .int s_o_tripleCount, .ref a_o_rules, .ref a_o_instances, .ref a_o_counts, .ref a_o_premises, .int s_o_rows, .ref a_o_stated, .ref a_o_marks, .int s_o_broken, .ref a_o_text, .int s_o_size, .ref a_o_sizes, .ref a_o_places])), (a_o_axioms, .inl (fx_cI X, 404, .inl f_o_axioms)), (a_o_triples, .inl (fx_cI X, 404, .inl f_o_triples)), (a_o_rules, .inl (fx_cI X, 301, .inl f_o_rules)), (a_o_instances, .inl (fx_cI X, 301, .inl f_o_instances)), (a_o_counts, .inl (fx_cI X, 301, .inl f_o_counts)), (a_o_premises, .inl (fx_cI X, 903, .inl f_o_premises)), (a_o_stated, .inl (fx_cI X, 1204, .inl f_o_stated))]) hD hS hA [0, 1, 2, 3, 4, 5, 6, 7] rfl
      refine va_callv (va_runV (As := [.int p1]) (rest := []) ⟨hx, hb, hml, hown, hts⟩ (cw_X6_work l X a_o a_o_phrases a_o_axioms a_o_triples a_o_rules a_o_instances a_o_counts a_o_premises a_o_stated a_o_marks a_o_text a_o_sizes a_o_places s_o_axiomCount s_o_tripleCount s_o_rows s_o_broken s_o_size f_o_axioms f_o_triples f_o_rules f_o_instances f_o_counts f_o_premises f_o_stated _ p1 _ h) (cwV 1 hts gX6_states_X6_work rfl rfl rfl (by decide +kernel) ⟨Nat.le_of_ble_eq_true rfl, Nat.le_of_ble_eq_true rfl⟩) (fx_pvW hP hD hK hG hS hFc (va_recv hK hP (ci := 5) (q0 := 0) rfl rfl) [0, 1, 2, 3, 4, 5, 6, 7] (by decide) rfl) rfl rfl hl.1 rfl (lv_room (Nat.le_of_ble_eq_true rfl)) dX6_states_24 ⟨Nat.le_of_ble_eq_true rfl, Nat.le_of_ble_eq_true rfl⟩) hS (fun q _ h => hFc q h) hFc (fun u t H locs ht hvm h hB _ hk hS => ?_)
      obtain ⟨y2, rfl⟩ : ∃ z, z = u := ⟨_, rfl⟩
      obtain ⟨hP, hD⟩ := fx_back (wr := []) (ws' := [(a_o, .inr (5, [.ref a_o_phrases, .ref a_o_axioms, .int s_o_axiomCount, .ref a_o_triples, .int s_o_tripleCount, .ref a_o_rules, .ref a_o_instances, .ref a_o_counts, .ref a_o_premises, .int s_o_rows, .ref a_o_stated, .ref a_o_marks, .int s_o_broken, .ref a_o_text, .int s_o_size, .ref a_o_sizes, .ref a_o_places])), (a_o_axioms, .inl (fx_cI X, 404, .inl f_o_axioms)), (a_o_triples, .inl (fx_cI X, 404, .inl f_o_triples)), (a_o_rules, .inl (fx_cI X, 301, .inl f_o_rules)), (a_o_instances, .inl (fx_cI X, 301, .inl f_o_instances)), (a_o_counts, .inl (fx_cI X, 301, .inl f_o_counts)), (a_o_premises, .inl (fx_cI X, 903, .inl f_o_premises)), (a_o_stated, .inl (fx_cI X, 1204, .inl y2))]) hP hD [0, 1, 2, 3, 4, 5, 6, 7] [] rfl rfl (by decide) (by decide) hk hFc hB ht [0, 1, 2, 3, 4, 5, 6, 7] (by decide) rfl
      refine lv_aload_n hx hb dX6_states_27 rfl (lv_at hl 0 rfl) ?_
      refine va_get (D := fx_D X) (ci := 5) (v := .ref a_o_stated) (C := RX6) (T := TX6) (N := 17) hx hb hts im_X6_states_X6 hown hK hP 0 rfl rfl 10 (by decide) k140 (fun _ h9 => h9) rfl dX6_states_28 ?_
      refine lv_iconst (v := (nI 4)) hx hb dX6_states_31 (by decide) ?_
      refine lv_iload_n hx hb dX6_states_32 rfl (lv_at hl 1 rfl) ?_
      refine fx_imul hx hb h dX6_states_33 (fun v3 h => ?_)
      refine lv_iload_n hx hb dX6_states_34 rfl (lv_at hl 2 rfl) ?_
      refine fx_iadd hx hb h dX6_states_35 (fun v4 h => ?_)
      refine fx_iald hx hb hK hP 7 0 rfl rfl h dX6_states_36 (fun v5 h => ?_)
      exact W.iret (v := v5) hx hb hr  (fun t ht hW => ⟨⟨v5, y2, rfl, h, by rw [ht]; exact hP, va_K.moved hW.alike hK, hD⟩, hS.F ht⟩) hS.2.2 dX6_states_37
    refine lv_bipush (v := (-2)) hx hb dX6_states_19 (by decide) ?_
    exact W.iret (v := (-2)) hx hb hr  (fun t ht hW => ⟨⟨(-2), f_o_stated, rfl, h, by rw [ht]; exact hP, va_K.moved hW.alike hK, hD⟩, hS.F ht⟩) hS.2.2 dX6_states_21
  refine lv_iconst (v := (-1)) hx hb dX6_states_8 (by decide) ?_
  exact W.iret (v := (-1)) hx hb hr  (fun t ht hW => ⟨⟨(-1), f_o_stated, rfl, h, by rw [ht]; exact hP, va_K.moved hW.alike hK, hD⟩, hS.F ht⟩) hS.2.2 dX6_states_9

/-- X6_concludes: its walk -/
def wp_X6_concludes (post : Int32 → (Nat → Int32) → Prop) (s_o_tripleCount : Int32) (s_o_rows : Int32) (f_o_axioms : Nat → Int32) (f_o_triples : Nat → Int32) (f_o_rules : Nat → Int32) (f_o_instances : Nat → Int32) (f_o_counts : Nat → Int32) (f_o_premises : Nat → Int32) (f_o_stated : Nat → Int32) (p1 : Int32) (p2 : Int32) : Prop :=
  wp_X6_isRow (fun r1 => fx_br (r1 = 0) (post (nI 0) f_o_stated) (fx_br (p2 < (nI 1)) (post (nI 0) f_o_stated) (fx_br (p2 ≤ s_o_tripleCount) (wp_X6_work (fun y2 => fx_wh2 (fun (rec5 : Int32 → Int32 → Prop) (x3 : Int32) (x4 : Int32) => fx_br ((nI 4) ≤ x3) (fx_bo x4 (post x4 y2)) (fx_br (x4 = 0) (fx_nm (x3 + (nI 1)) (fun v6 => rec5 v6 (nI 0))) (fx_nm ((nI 4) * p1) (fun v7 => fx_nm (v7 + x3) (fun v8 => fx_ix v8 1204 (fun k10 => fx_nm (y2 k10) (fun v9 => fx_nm ((nI 4) * p2) (fun v11 => fx_nm (v11 + x3) (fun v12 => fx_ix v12 404 (fun k14 => fx_nm (f_o_triples k14) (fun v13 => fx_br (v9 = v13) (fx_nm (x3 + (nI 1)) (fun v16 => rec5 v16 (nI 1))) (fx_nm (x3 + (nI 1)) (fun v15 => rec5 v15 (nI 0)))))))))))))) (nI 0) (nI 1)) f_o_axioms f_o_triples f_o_rules f_o_instances f_o_counts f_o_premises f_o_stated p1) (post (nI 0) f_o_stated)))) s_o_rows p1
theorem im_X6_concludes_X6 : ∀ w ∈ u_ws RX6 TX6 17, w ∈ wsX6_concludes := by decide +kernel
set_option maxHeartbeats 4000000 in
set_option maxRecDepth 100000 in
theorem cw_X6_concludes (l : Launch) (X : fx_X) (a_o : Nat) (a_o_phrases : Nat) (a_o_axioms : Nat) (a_o_triples : Nat) (a_o_rules : Nat) (a_o_instances : Nat) (a_o_counts : Nat) (a_o_premises : Nat) (a_o_stated : Nat) (a_o_marks : Nat) (a_o_text : Nat) (a_o_sizes : Nat) (a_o_places : Nat) (s_o_axiomCount : Int32) (s_o_tripleCount : Int32) (s_o_rows : Int32) (s_o_broken : Int32) (s_o_size : Int32) (f_o_axioms : Nat → Int32) (f_o_triples : Nat → Int32) (f_o_rules : Nat → Int32) (f_o_instances : Nat → Int32) (f_o_counts : Nat → Int32) (f_o_premises : Nat → Int32) (f_o_stated : Nat → Int32) (sz : Nat) (p1 : Int32) (p2 : Int32) (post : Int32 → (Nat → Int32) → Prop) (h : wp_X6_concludes post s_o_tripleCount s_o_rows f_o_axioms f_o_triples f_o_rules f_o_instances f_o_counts f_o_premises f_o_stated p1 p2) : Met l yX6_concludes wsX6_concludes ({ frames := 6, cells := 0, slots := 0, locals := 148 }) (va_Pc [.ref a_o, .int p1, .int p2] (fx_PW X [(a_o, .inr (5, [.ref a_o_phrases, .ref a_o_axioms, .int s_o_axiomCount, .ref a_o_triples, .int s_o_tripleCount, .ref a_o_rules, .ref a_o_instances, .ref a_o_counts, .ref a_o_premises, .int s_o_rows, .ref a_o_stated, .ref a_o_marks, .int s_o_broken, .ref a_o_text, .int s_o_size, .ref a_o_sizes, .ref a_o_places])), (a_o_axioms, .inl (fx_cI X, 404, .inl f_o_axioms)), (a_o_triples, .inl (fx_cI X, 404, .inl f_o_triples)), (a_o_rules, .inl (fx_cI X, 301, .inl f_o_rules)), (a_o_instances, .inl (fx_cI X, 301, .inl f_o_instances)), (a_o_counts, .inl (fx_cI X, 301, .inl f_o_counts)), (a_o_premises, .inl (fx_cI X, 903, .inl f_o_premises)), (a_o_stated, .inl (fx_cI X, 1204, .inl f_o_stated))] sz)) (va_Qi (fun r (u : (Nat → Int32)) => post r u) (fun (u : (Nat → Int32)) t => fx_EW X (va_A [(a_o, .inr (5, [.ref a_o_phrases, .ref a_o_axioms, .int s_o_axiomCount, .ref a_o_triples, .int s_o_tripleCount, .ref a_o_rules, .ref a_o_instances, .ref a_o_counts, .ref a_o_premises, .int s_o_rows, .ref a_o_stated, .ref a_o_marks, .int s_o_broken, .ref a_o_text, .int s_o_size, .ref a_o_sizes, .ref a_o_places])), (a_o_axioms, .inl (fx_cI X, 404, .inl f_o_axioms)), (a_o_triples, .inl (fx_cI X, 404, .inl f_o_triples)), (a_o_rules, .inl (fx_cI X, 301, .inl f_o_rules)), (a_o_instances, .inl (fx_cI X, 301, .inl f_o_instances)), (a_o_counts, .inl (fx_cI X, 301, .inl f_o_counts)), (a_o_premises, .inl (fx_cI X, 903, .inl f_o_premises)), (a_o_stated, .inl (fx_cI X, 1204, .inl f_o_stated))] sz) [(a_o, .inr (5, [.ref a_o_phrases, .ref a_o_axioms, .int s_o_axiomCount, .ref a_o_triples, .int s_o_tripleCount, .ref a_o_rules, .ref a_o_instances, .ref a_o_counts, .ref a_o_premises, .int s_o_rows, .ref a_o_stated, .ref a_o_marks, .int s_o_broken, .ref a_o_text, .int s_o_size, .ref a_o_sizes, .ref a_o_places])), (a_o_axioms, .inl (fx_cI X, 404, .inl f_o_axioms)), (a_o_triples, .inl (fx_cI X, 404, .inl f_o_triples)), (a_o_rules, .inl (fx_cI X, 301, .inl f_o_rules)), (a_o_instances, .inl (fx_cI X, 301, .inl f_o_instances)), (a_o_counts, .inl (fx_cI X, 301, .inl f_o_counts)), (a_o_premises, .inl (fx_cI X, 903, .inl f_o_premises)), (a_o_stated, .inl (fx_cI X, 1204, .inl u))] t) (va_A [(a_o, .inr (5, [.ref a_o_phrases, .ref a_o_axioms, .int s_o_axiomCount, .ref a_o_triples, .int s_o_tripleCount, .ref a_o_rules, .ref a_o_instances, .ref a_o_counts, .ref a_o_premises, .int s_o_rows, .ref a_o_stated, .ref a_o_marks, .int s_o_broken, .ref a_o_text, .int s_o_size, .ref a_o_sizes, .ref a_o_places])), (a_o_axioms, .inl (fx_cI X, 404, .inl f_o_axioms)), (a_o_triples, .inl (fx_cI X, 404, .inl f_o_triples)), (a_o_rules, .inl (fx_cI X, 301, .inl f_o_rules)), (a_o_instances, .inl (fx_cI X, 301, .inl f_o_instances)), (a_o_counts, .inl (fx_cI X, 301, .inl f_o_counts)), (a_o_premises, .inl (fx_cI X, 903, .inl f_o_premises)), (a_o_stated, .inl (fx_cI X, 1204, .inl f_o_stated))] sz)) 0 0 (va_A [(a_o, .inr (5, [.ref a_o_phrases, .ref a_o_axioms, .int s_o_axiomCount, .ref a_o_triples, .int s_o_tripleCount, .ref a_o_rules, .ref a_o_instances, .ref a_o_counts, .ref a_o_premises, .int s_o_rows, .ref a_o_stated, .ref a_o_marks, .int s_o_broken, .ref a_o_text, .int s_o_size, .ref a_o_sizes, .ref a_o_places])), (a_o_axioms, .inl (fx_cI X, 404, .inl f_o_axioms)), (a_o_triples, .inl (fx_cI X, 404, .inl f_o_triples)), (a_o_rules, .inl (fx_cI X, 301, .inl f_o_rules)), (a_o_instances, .inl (fx_cI X, 301, .inl f_o_instances)), (a_o_counts, .inl (fx_cI X, 301, .inl f_o_counts)), (a_o_premises, .inl (fx_cI X, 903, .inl f_o_premises)), (a_o_stated, .inl (fx_cI X, 1204, .inl f_o_stated))] sz) := by
  refine Met.ofW (cc := cX6_concludes) (maxL := 5) (ret := (some .boolean)) (by decide) rfl ?_
  intro p e s m args below meth c s₁ B hml hv
  obtain ⟨rfl, hsz, hP, hK, hD0, hG⟩ := hv
  have hx := B.exec
  have hb := B.bytes
  have hr := B.returns
  have hts := atoms_spec (ws := wsX6_concludes) B.pre
  have hown : s.vm.findClass RX6 = some m.cls := findClass_of_methodNamed B.named
  have hlocks := B.notSynchronized
  subst hsz
  have hD := hD0.self (sz := s.heap.size)
  generalize hAe : va_A [(a_o, .inr (5, [.ref a_o_phrases, .ref a_o_axioms, .int s_o_axiomCount, .ref a_o_triples, .int s_o_tripleCount, .ref a_o_rules, .ref a_o_instances, .ref a_o_counts, .ref a_o_premises, .int s_o_rows, .ref a_o_stated, .ref a_o_marks, .int s_o_broken, .ref a_o_text, .int s_o_size, .ref a_o_sizes, .ref a_o_places])), (a_o_axioms, .inl (fx_cI X, 404, .inl f_o_axioms)), (a_o_triples, .inl (fx_cI X, 404, .inl f_o_triples)), (a_o_rules, .inl (fx_cI X, 301, .inl f_o_rules)), (a_o_instances, .inl (fx_cI X, 301, .inl f_o_instances)), (a_o_counts, .inl (fx_cI X, 301, .inl f_o_counts)), (a_o_premises, .inl (fx_cI X, 903, .inl f_o_premises)), (a_o_stated, .inl (fx_cI X, 1204, .inl f_o_stated))] s.heap.size = A at hD hG ⊢
  have hA : ∀ q : Nat, s.heap.size ≤ q → A q := fun q h => by rw [← hAe]; exact Or.inr h
  have hS : va_S A s.heap s.heap [] := va_S.rf
  have k125 := hts (.fieldLink RX6 125 "ProofCheckerModel" "triples" "[I") (by decide +kernel)
  have k140 := hts (.fieldLink RX6 140 "ProofCheckerModel" "stated" "[I") (by decide +kernel)
  have k164 := hts (.fieldLink RX6 164 "ProofCheckerModel" "tripleCount" "I") (by decide +kernel)
  have hl := lv_entry ([.ref a_o, .int p1, .int p2]) (n := 5) (Nat.le_of_ble_eq_true rfl)
  rw [lg_entry_eq]
  generalize (lg_sl ([.ref a_o, .int p1, .int p2]) ++ List.replicate (5 - (lg_sl ([.ref a_o, .int p1, .int p2])).length) Slot.unset).toArray = ls at hl ⊢
  have hl : lv_has ls 5 [(0, .ref a_o), (1, .int p1), (2, .int p2)] := hl
  unfold wp_X6_concludes at h
  refine lv_aload_n hx hb dX6_concludes_0 rfl (lv_at hl 0 rfl) ?_
  refine lv_iload_n hx hb dX6_concludes_1 rfl (lv_at hl 1 rfl) ?_
  refine vp_callSi (W.runV (As := [.int p1]) (rest := []) ⟨hx, hb, hml, hown, hts⟩ (cw_X6_isRow l X a_o a_o_phrases a_o_axioms a_o_triples a_o_rules a_o_instances a_o_counts a_o_premises a_o_stated a_o_marks a_o_text a_o_sizes a_o_places s_o_axiomCount s_o_tripleCount s_o_rows s_o_broken s_o_size p1 _ h) (cwV 1 hts gX6_concludes_X6_isRow rfl rfl rfl (by decide +kernel) ⟨Nat.le_of_ble_eq_true rfl, Nat.le_of_ble_eq_true rfl⟩) (fx_pv hP hK hG hS (va_recv hK hP (ci := 5) (q0 := 0) rfl rfl) [0] rfl) rfl rfl hl.1 rfl (lv_room (Nat.le_of_ble_eq_true rfl)) dX6_concludes_2 ⟨Nat.le_of_ble_eq_true rfl, Nat.le_of_ble_eq_true rfl⟩) (fun r1 h => ?_)
  refine fx_if_eq (tgt := 21) hx hb h dX6_concludes_5 (by decide) (fun h => ?_) (fun h => ?_)
  · refine lv_iconst (v := (nI 0)) hx hb dX6_concludes_21 (by decide) ?_
    exact W.zret (v := (nI 0)) hx hb hr rfl (fun t ht hW => ⟨⟨(nI 0), f_o_stated, rfl, h, by rw [ht]; exact hP, va_K.moved hW.alike hK, hD⟩, hS.F ht⟩) hS.2.2 dX6_concludes_22
  refine lv_iload_n hx hb dX6_concludes_8 rfl (lv_at hl 2 rfl) ?_
  refine lv_iconst (v := (nI 1)) hx hb dX6_concludes_9 (by decide) ?_
  refine fx_icmp_lt (tgt := 21) hx hb h dX6_concludes_10 (by decide) (fun h => ?_) (fun h => ?_)
  · refine lv_iconst (v := (nI 0)) hx hb dX6_concludes_21 (by decide) ?_
    exact W.zret (v := (nI 0)) hx hb hr rfl (fun t ht hW => ⟨⟨(nI 0), f_o_stated, rfl, h, by rw [ht]; exact hP, va_K.moved hW.alike hK, hD⟩, hS.F ht⟩) hS.2.2 dX6_concludes_22
  refine lv_iload_n hx hb dX6_concludes_13 rfl (lv_at hl 2 rfl) ?_
  refine lv_aload_n hx hb dX6_concludes_14 rfl (lv_at hl 0 rfl) ?_
  refine va_get (D := fx_D X) (ci := 5) (v := .int s_o_tripleCount) (C := RX6) (T := TX6) (N := 17) hx hb hts im_X6_concludes_X6 hown hK hP 0 rfl rfl 4 (by decide) k164 (fun _ h9 => h9) rfl dX6_concludes_15 ?_
  refine fx_icmp_le (tgt := 23) hx hb h dX6_concludes_18 (by decide) (fun h => ?_) (fun h => ?_)
  · refine lv_aload_n hx hb dX6_concludes_23 rfl (lv_at hl 0 rfl) ?_
    refine lv_iload_n hx hb dX6_concludes_24 rfl (lv_at hl 1 rfl) ?_
    have hFc := va_free (wc := [(a_o, .inr (5, [.ref a_o_phrases, .ref a_o_axioms, .int s_o_axiomCount, .ref a_o_triples, .int s_o_tripleCount, .ref a_o_rules, .ref a_o_instances, .ref a_o_counts, .ref a_o_premises, .int s_o_rows, .ref a_o_stated, .ref a_o_marks, .int s_o_broken, .ref a_o_text, .int s_o_size, .ref a_o_sizes, .ref a_o_places])), (a_o_axioms, .inl (fx_cI X, 404, .inl f_o_axioms)), (a_o_triples, .inl (fx_cI X, 404, .inl f_o_triples)), (a_o_rules, .inl (fx_cI X, 301, .inl f_o_rules)), (a_o_instances, .inl (fx_cI X, 301, .inl f_o_instances)), (a_o_counts, .inl (fx_cI X, 301, .inl f_o_counts)), (a_o_premises, .inl (fx_cI X, 903, .inl f_o_premises)), (a_o_stated, .inl (fx_cI X, 1204, .inl f_o_stated))]) hD hS hA [0, 1, 2, 3, 4, 5, 6, 7] rfl
    refine va_callv (va_runV (As := [.int p1]) (rest := []) ⟨hx, hb, hml, hown, hts⟩ (cw_X6_work l X a_o a_o_phrases a_o_axioms a_o_triples a_o_rules a_o_instances a_o_counts a_o_premises a_o_stated a_o_marks a_o_text a_o_sizes a_o_places s_o_axiomCount s_o_tripleCount s_o_rows s_o_broken s_o_size f_o_axioms f_o_triples f_o_rules f_o_instances f_o_counts f_o_premises f_o_stated _ p1 _ h) (cwV 1 hts gX6_concludes_X6_work rfl rfl rfl (by decide +kernel) ⟨Nat.le_of_ble_eq_true rfl, Nat.le_of_ble_eq_true rfl⟩) (fx_pvW hP hD hK hG hS hFc (va_recv hK hP (ci := 5) (q0 := 0) rfl rfl) [0, 1, 2, 3, 4, 5, 6, 7] (by decide) rfl) rfl rfl hl.1 rfl (lv_room (Nat.le_of_ble_eq_true rfl)) dX6_concludes_25 ⟨Nat.le_of_ble_eq_true rfl, Nat.le_of_ble_eq_true rfl⟩) hS (fun q _ h => hFc q h) hFc (fun u t H locs ht hvm h hB _ hk hS => ?_)
    obtain ⟨y2, rfl⟩ : ∃ z, z = u := ⟨_, rfl⟩
    obtain ⟨hP, hD⟩ := fx_back (wr := []) (ws' := [(a_o, .inr (5, [.ref a_o_phrases, .ref a_o_axioms, .int s_o_axiomCount, .ref a_o_triples, .int s_o_tripleCount, .ref a_o_rules, .ref a_o_instances, .ref a_o_counts, .ref a_o_premises, .int s_o_rows, .ref a_o_stated, .ref a_o_marks, .int s_o_broken, .ref a_o_text, .int s_o_size, .ref a_o_sizes, .ref a_o_places])), (a_o_axioms, .inl (fx_cI X, 404, .inl f_o_axioms)), (a_o_triples, .inl (fx_cI X, 404, .inl f_o_triples)), (a_o_rules, .inl (fx_cI X, 301, .inl f_o_rules)), (a_o_instances, .inl (fx_cI X, 301, .inl f_o_instances)), (a_o_counts, .inl (fx_cI X, 301, .inl f_o_counts)), (a_o_premises, .inl (fx_cI X, 903, .inl f_o_premises)), (a_o_stated, .inl (fx_cI X, 1204, .inl y2))]) hP hD [0, 1, 2, 3, 4, 5, 6, 7] [] rfl rfl (by decide) (by decide) hk hFc hB ht [0, 1, 2, 3, 4, 5, 6, 7] (by decide) rfl
    refine lv_iconst (v := (nI 1)) hx hb dX6_concludes_28 (by decide) ?_
    refine lv_istore_n (lv' := [(3, .int (nI 1)), (0, .ref a_o), (1, .int p1), (2, .int p2)]) hx hb dX6_concludes_29 rfl hl (by decide) rfl (fun ls hl => ?_)
    refine lv_iconst (v := (nI 0)) hx hb dX6_concludes_30 (by decide) ?_
    refine lv_istore (lv' := [(4, .int (nI 0)), (3, .int (nI 1)), (0, .ref a_o), (1, .int p1), (2, .int p2)]) hx hb dX6_concludes_31 hl (by decide) rfl (fun ls hl => ?_)
    refine fx_loop2 (G := fun (x3 : Int32) (x4 : Int32) => ∀ (H : Heap) (locs : List Loc) (ls : Array Slot), va_P (fx_D X) vwCl [(a_o, .inr (5, [.ref a_o_phrases, .ref a_o_axioms, .int s_o_axiomCount, .ref a_o_triples, .int s_o_tripleCount, .ref a_o_rules, .ref a_o_instances, .ref a_o_counts, .ref a_o_premises, .int s_o_rows, .ref a_o_stated, .ref a_o_marks, .int s_o_broken, .ref a_o_text, .int s_o_size, .ref a_o_sizes, .ref a_o_places])), (a_o_axioms, .inl (fx_cI X, 404, .inl f_o_axioms)), (a_o_triples, .inl (fx_cI X, 404, .inl f_o_triples)), (a_o_rules, .inl (fx_cI X, 301, .inl f_o_rules)), (a_o_instances, .inl (fx_cI X, 301, .inl f_o_instances)), (a_o_counts, .inl (fx_cI X, 301, .inl f_o_counts)), (a_o_premises, .inl (fx_cI X, 903, .inl f_o_premises)), (a_o_stated, .inl (fx_cI X, 1204, .inl y2))] H → va_D A [(a_o, .inr (5, [.ref a_o_phrases, .ref a_o_axioms, .int s_o_axiomCount, .ref a_o_triples, .int s_o_tripleCount, .ref a_o_rules, .ref a_o_instances, .ref a_o_counts, .ref a_o_premises, .int s_o_rows, .ref a_o_stated, .ref a_o_marks, .int s_o_broken, .ref a_o_text, .int s_o_size, .ref a_o_sizes, .ref a_o_places])), (a_o_axioms, .inl (fx_cI X, 404, .inl f_o_axioms)), (a_o_triples, .inl (fx_cI X, 404, .inl f_o_triples)), (a_o_rules, .inl (fx_cI X, 301, .inl f_o_rules)), (a_o_instances, .inl (fx_cI X, 301, .inl f_o_instances)), (a_o_counts, .inl (fx_cI X, 301, .inl f_o_counts)), (a_o_premises, .inl (fx_cI X, 903, .inl f_o_premises)), (a_o_stated, .inl (fx_cI X, 1204, .inl y2))] → va_S A s.heap H locs → lv_has ls 5 [(4, .int x3), (3, .int x4), (0, .ref a_o), (1, .int p1), (2, .int p2)] → W p l e _ s m _ below meth c H locs _ _ _ (F0 m 33 ls [])) (fun rec5 hrec5 x3 x4 h => ?_) h _ _ _ hP hD hS (lv_sub hl [0, 1, 2, 3, 4] rfl)
    intro H locs ls hP hD hS hl
    refine lv_iload hx hb dX6_concludes_33 (lv_at hl 0 rfl) ?_
    refine lv_iconst (v := (nI 4)) hx hb dX6_concludes_35 (by decide) ?_
    refine fx_icmp_ge (tgt := 80) hx hb h dX6_concludes_36 (by decide) (fun h => ?_) (fun h => ?_)
    · refine lv_iload_n hx hb dX6_concludes_80 rfl (lv_at hl 1 rfl) ?_
      exact W.zret (v := x4) hx hb hr (fx_bo_n h) (fun t ht hW => ⟨⟨x4, y2, rfl, h.2, by rw [ht]; exact hP, va_K.moved hW.alike hK, hD⟩, hS.F ht⟩) hS.2.2 dX6_concludes_81
    refine lv_iload_n hx hb dX6_concludes_39 rfl (lv_at hl 1 rfl) ?_
    refine fx_if_eq (tgt := 72) hx hb h dX6_concludes_40 (by decide) (fun h => ?_) (fun h => ?_)
    · refine lv_iconst (v := (nI 0)) hx hb dX6_concludes_72 (by decide) ?_
      refine lv_istore_n (lv' := [(3, .int (nI 0)), (4, .int x3), (0, .ref a_o), (1, .int p1), (2, .int p2)]) hx hb dX6_concludes_73 rfl hl (by decide) rfl (fun ls hl => ?_)
      refine fx_iinc (y := (nI 1)) hx hb h dX6_concludes_74 (by decide) (fun v6 => [(4, .int v6), (3, .int (nI 0)), (0, .ref a_o), (1, .int p1), (2, .int p2)]) hl 1 rfl (by decide) (fun _ => rfl) (fun v6 ls h hl => ?_)
      refine lv_goto (tgt := 33) hx hb dX6_concludes_77 (by decide) ?_
      exact hrec5 _ _ h _ _ _ hP hD hS (lv_sub hl [0, 1, 2, 3, 4] rfl)
    refine lv_aload_n hx hb dX6_concludes_43 rfl (lv_at hl 2 rfl) ?_
    refine va_get (D := fx_D X) (ci := 5) (v := .ref a_o_stated) (C := RX6) (T := TX6) (N := 17) hx hb hts im_X6_concludes_X6 hown hK hP 0 rfl rfl 10 (by decide) k140 (fun _ h9 => h9) rfl dX6_concludes_44 ?_
    refine lv_iconst (v := (nI 4)) hx hb dX6_concludes_47 (by decide) ?_
    refine lv_iload_n hx hb dX6_concludes_48 rfl (lv_at hl 3 rfl) ?_
    refine fx_imul hx hb h dX6_concludes_49 (fun v7 h => ?_)
    refine lv_iload hx hb dX6_concludes_50 (lv_at hl 0 rfl) ?_
    refine fx_iadd hx hb h dX6_concludes_52 (fun v8 h => ?_)
    refine fx_iald hx hb hK hP 7 0 rfl rfl h dX6_concludes_53 (fun v9 h => ?_)
    refine lv_aload_n hx hb dX6_concludes_54 rfl (lv_at hl 2 rfl) ?_
    refine va_get (D := fx_D X) (ci := 5) (v := .ref a_o_triples) (C := RX6) (T := TX6) (N := 17) hx hb hts im_X6_concludes_X6 hown hK hP 0 rfl rfl 3 (by decide) k125 (fun _ h9 => h9) rfl dX6_concludes_55 ?_
    refine lv_iconst (v := (nI 4)) hx hb dX6_concludes_58 (by decide) ?_
    refine lv_iload_n hx hb dX6_concludes_59 rfl (lv_at hl 4 rfl) ?_
    refine fx_imul hx hb h dX6_concludes_60 (fun v11 h => ?_)
    refine lv_iload hx hb dX6_concludes_61 (lv_at hl 0 rfl) ?_
    refine fx_iadd hx hb h dX6_concludes_63 (fun v12 h => ?_)
    refine fx_iald hx hb hK hP 2 0 rfl rfl h dX6_concludes_64 (fun v13 h => ?_)
    refine fx_icmp_ne (tgt := 72) hx hb h dX6_concludes_65 (by decide) (fun h => ?_) (fun h => ?_)
    · refine lv_iconst (v := (nI 0)) hx hb dX6_concludes_72 (by decide) ?_
      refine lv_istore_n (lv' := [(3, .int (nI 0)), (4, .int x3), (0, .ref a_o), (1, .int p1), (2, .int p2)]) hx hb dX6_concludes_73 rfl hl (by decide) rfl (fun ls hl => ?_)
      refine fx_iinc (y := (nI 1)) hx hb h dX6_concludes_74 (by decide) (fun v15 => [(4, .int v15), (3, .int (nI 0)), (0, .ref a_o), (1, .int p1), (2, .int p2)]) hl 1 rfl (by decide) (fun _ => rfl) (fun v15 ls h hl => ?_)
      refine lv_goto (tgt := 33) hx hb dX6_concludes_77 (by decide) ?_
      exact hrec5 _ _ h _ _ _ hP hD hS (lv_sub hl [0, 1, 2, 3, 4] rfl)
    refine lv_iconst (v := (nI 1)) hx hb dX6_concludes_68 (by decide) ?_
    refine lv_goto (tgt := 73) hx hb dX6_concludes_69 (by decide) ?_
    refine lv_istore_n (lv' := [(3, .int (nI 1)), (4, .int x3), (0, .ref a_o), (1, .int p1), (2, .int p2)]) hx hb dX6_concludes_73 rfl hl (by decide) rfl (fun ls hl => ?_)
    refine fx_iinc (y := (nI 1)) hx hb h dX6_concludes_74 (by decide) (fun v16 => [(4, .int v16), (3, .int (nI 1)), (0, .ref a_o), (1, .int p1), (2, .int p2)]) hl 1 rfl (by decide) (fun _ => rfl) (fun v16 ls h hl => ?_)
    refine lv_goto (tgt := 33) hx hb dX6_concludes_77 (by decide) ?_
    exact hrec5 _ _ h _ _ _ hP hD hS (lv_sub hl [0, 1, 2, 3, 4] rfl)
  refine lv_iconst (v := (nI 0)) hx hb dX6_concludes_21 (by decide) ?_
  exact W.zret (v := (nI 0)) hx hb hr rfl (fun t ht hW => ⟨⟨(nI 0), f_o_stated, rfl, h, by rw [ht]; exact hP, va_K.moved hW.alike hK, hD⟩, hS.F ht⟩) hS.2.2 dX6_concludes_22

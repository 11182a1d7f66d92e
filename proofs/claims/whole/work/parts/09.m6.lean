/-- X6_put: its walk -/
def wp_X6_put (post : Int32 → (Nat → Int32) → Prop) (s_o_size : Int32) (f_o_phrases : Nat → Int64) (f_o_text : Nat → Int32) (p1 : Int32) : Prop :=
  fx_wh2 (fun (rec3 : Int32 → Int32 → Prop) (x1 : Int32) (x2 : Int32) => fx_br (p1 ≤ x1) (fx_wh3 (fun (rec7 : Int32 → Int32 → (Nat → Int32) → Prop) (x4 : Int32) (y5 : Int32) (y6 : Nat → Int32) => fx_ix x4 98 (fun k9 => fx_nm (f_o_phrases k9) (fun v8 => fx_nm (lg_cmp v8 (lN 0)) (fun v10 => fx_br (v10 = 0) (post y5 y6) (fx_wh3 (fun (rec14 : Int32 → Int32 → (Nat → Int32) → Prop) (x11 : Int32) (y12 : Int32) (y13 : Nat → Int32) => fx_br (x11 < 0) (fx_nm (x4 + (nI 1)) (fun v15 => rec7 v15 y12 y13)) (fx_ix x4 98 (fun k17 => fx_nm (f_o_phrases k17) (fun v16 => fx_nm (v16 >>> ((x11).toInt64 &&& 63)) (fun v18 => fx_nm (v18 &&& (lN 255)) (fun v19 => fx_nm (v19.toInt32) (fun v20 => fx_br (v20 = 0) (fx_nm (x11 + (-8)) (fun v25 => rec14 v25 y12 y13)) (fx_ix y12 400 (fun k24 => fx_nm (upd y13 k24 v20) (fun g21 => fx_nm (y12 + (nI 1)) (fun v22 => fx_nm (x11 + (-8)) (fun v23 => rec14 v23 v22 g21)))))))))))) (nI 56) y5 y6))))) x2 s_o_size f_o_text) (fx_wh1 (fun (rec27 : Int32 → Prop) (x26 : Int32) => fx_ix x26 98 (fun k29 => fx_nm (f_o_phrases k29) (fun v28 => fx_nm (lg_cmp v28 (lN 0)) (fun v30 => fx_br (v30 = 0) (fx_nm (x26 + (nI 1)) (fun v31 => fx_nm (x1 + (nI 1)) (fun v32 => rec3 v32 v31))) (fx_nm (x26 + (nI 1)) (fun v33 => rec27 v33)))))) x2)) (nI 0) (nI 0)
theorem im_X6_put_X6 : ∀ w ∈ u_ws RX6 TX6 17, w ∈ wsX6_put := by decide +kernel
set_option maxHeartbeats 4000000 in
set_option maxRecDepth 100000 in
theorem cw_X6_put (l : Launch) (X : fx_X) (a_o : Nat) (a_o_phrases : Nat) (a_o_axioms : Nat) (a_o_triples : Nat) (a_o_rules : Nat) (a_o_instances : Nat) (a_o_counts : Nat) (a_o_premises : Nat) (a_o_stated : Nat) (a_o_marks : Nat) (a_o_text : Nat) (a_o_sizes : Nat) (a_o_places : Nat) (s_o_axiomCount : Int32) (s_o_tripleCount : Int32) (s_o_rows : Int32) (s_o_broken : Int32) (s_o_size : Int32) (f_o_phrases : Nat → Int64) (f_o_text : Nat → Int32) (sz : Nat) (p1 : Int32) (post : Int32 → (Nat → Int32) → Prop) (h : wp_X6_put post s_o_size f_o_phrases f_o_text p1) : Met l yX6_put wsX6_put ({ frames := 0, cells := 0, slots := 0, locals := 0 }) (va_Pc [.ref a_o, .int p1] (fx_PW X [(a_o, .inr (5, [.ref a_o_phrases, .ref a_o_axioms, .int s_o_axiomCount, .ref a_o_triples, .int s_o_tripleCount, .ref a_o_rules, .ref a_o_instances, .ref a_o_counts, .ref a_o_premises, .int s_o_rows, .ref a_o_stated, .ref a_o_marks, .int s_o_broken, .ref a_o_text, .int s_o_size, .ref a_o_sizes, .ref a_o_places])), (a_o_phrases, .inl (fx_cJ X, 98, .inr (.inl f_o_phrases))), (a_o_text, .inl (fx_cI X, 400, .inl f_o_text))] sz)) (va_Qv (fun (u : Int32 × (Nat → Int32)) => post u.1 u.2) (fun (u : Int32 × (Nat → Int32)) t => fx_EW X (va_A [(a_o, .inr (5, [.ref a_o_phrases, .ref a_o_axioms, .int s_o_axiomCount, .ref a_o_triples, .int s_o_tripleCount, .ref a_o_rules, .ref a_o_instances, .ref a_o_counts, .ref a_o_premises, .int s_o_rows, .ref a_o_stated, .ref a_o_marks, .int s_o_broken, .ref a_o_text, .int s_o_size, .ref a_o_sizes, .ref a_o_places])), (a_o_phrases, .inl (fx_cJ X, 98, .inr (.inl f_o_phrases))), (a_o_text, .inl (fx_cI X, 400, .inl f_o_text))] sz) [(a_o, .inr (5, [.ref a_o_phrases, .ref a_o_axioms, .int s_o_axiomCount, .ref a_o_triples, .int s_o_tripleCount, .ref a_o_rules, .ref a_o_instances, .ref a_o_counts, .ref a_o_premises, .int s_o_rows, .ref a_o_stated, .ref a_o_marks, .int s_o_broken, .ref a_o_text, .int u.1, .ref a_o_sizes, .ref a_o_places])), (a_o_phrases, .inl (fx_cJ X, 98, .inr (.inl f_o_phrases))), (a_o_text, .inl (fx_cI X, 400, .inl u.2))] t) (va_A [(a_o, .inr (5, [.ref a_o_phrases, .ref a_o_axioms, .int s_o_axiomCount, .ref a_o_triples, .int s_o_tripleCount, .ref a_o_rules, .ref a_o_instances, .ref a_o_counts, .ref a_o_premises, .int s_o_rows, .ref a_o_stated, .ref a_o_marks, .int s_o_broken, .ref a_o_text, .int s_o_size, .ref a_o_sizes, .ref a_o_places])), (a_o_phrases, .inl (fx_cJ X, 98, .inr (.inl f_o_phrases))), (a_o_text, .inl (fx_cI X, 400, .inl f_o_text))] sz)) 0 0 (va_A [(a_o, .inr (5, [.ref a_o_phrases, .ref a_o_axioms, .int s_o_axiomCount, .ref a_o_triples, .int s_o_tripleCount, .ref a_o_rules, .ref a_o_instances, .ref a_o_counts, .ref a_o_premises, .int s_o_rows, .ref a_o_stated, .ref a_o_marks, .int s_o_broken, .ref a_o_text, .int s_o_size, .ref a_o_sizes, .ref a_o_places])), (a_o_phrases, .inl (fx_cJ X, 98, .inr (.inl f_o_phrases))), (a_o_text, .inl (fx_cI X, 400, .inl f_o_text))] sz) := by
  refine Met.ofW (cc := cX6_put) (maxL := 5) (ret := none) (by decide) rfl ?_
  intro p e s m args below meth c s₁ B hml hv
  obtain ⟨rfl, hsz, hP, hK, hD0, hG⟩ := hv
  have hx := B.exec
  have hb := B.bytes
  have hr := B.returns
  have hts := atoms_spec (ws := wsX6_put) B.pre
  have hown : s.vm.findClass RX6 = some m.cls := findClass_of_methodNamed B.named
  have hlocks := B.notSynchronized
  subst hsz
  have hD := hD0.self (sz := s.heap.size)
  generalize hAe : va_A [(a_o, .inr (5, [.ref a_o_phrases, .ref a_o_axioms, .int s_o_axiomCount, .ref a_o_triples, .int s_o_tripleCount, .ref a_o_rules, .ref a_o_instances, .ref a_o_counts, .ref a_o_premises, .int s_o_rows, .ref a_o_stated, .ref a_o_marks, .int s_o_broken, .ref a_o_text, .int s_o_size, .ref a_o_sizes, .ref a_o_places])), (a_o_phrases, .inl (fx_cJ X, 98, .inr (.inl f_o_phrases))), (a_o_text, .inl (fx_cI X, 400, .inl f_o_text))] s.heap.size = A at hD hG ⊢
  have hA : ∀ q : Nat, s.heap.size ≤ q → A q := fun q h => by rw [← hAe]; exact Or.inr h
  have hS : va_S A s.heap s.heap [] := va_S.rf
  have k227 := hts (.constantLong RX6 227 (255)) (by decide +kernel)
  have k229 := hts (.fieldLink RX6 229 "ProofCheckerModel" "size" "I") (by decide +kernel)
  have k147 := hts (.fieldLink RX6 147 "ProofCheckerModel" "text" "[I") (by decide +kernel)
  have k115 := hts (.fieldLink RX6 115 "ProofCheckerModel" "phrases" "[J") (by decide +kernel)
  have hl := lv_entry ([.ref a_o, .int p1]) (n := 5) (Nat.le_of_ble_eq_true rfl)
  rw [lg_entry_eq]
  generalize (lg_sl ([.ref a_o, .int p1]) ++ List.replicate (5 - (lg_sl ([.ref a_o, .int p1])).length) Slot.unset).toArray = ls at hl ⊢
  have hl : lv_has ls 5 [(0, .ref a_o), (1, .int p1)] := hl
  unfold wp_X6_put at h
  refine lv_iconst (v := (nI 0)) hx hb dX6_put_0 (by decide) ?_
  refine lv_istore_n (lv' := [(2, .int (nI 0)), (0, .ref a_o), (1, .int p1)]) hx hb dX6_put_1 rfl hl (by decide) rfl (fun ls hl => ?_)
  refine lv_iconst (v := (nI 0)) hx hb dX6_put_2 (by decide) ?_
  refine lv_istore_n (lv' := [(3, .int (nI 0)), (2, .int (nI 0)), (0, .ref a_o), (1, .int p1)]) hx hb dX6_put_3 rfl hl (by decide) rfl (fun ls hl => ?_)
  refine fx_loop2 (G := fun (x1 : Int32) (x2 : Int32) => ∀ (H : Heap) (locs : List Loc) (ls : Array Slot), va_P (fx_D X) vwCl [(a_o, .inr (5, [.ref a_o_phrases, .ref a_o_axioms, .int s_o_axiomCount, .ref a_o_triples, .int s_o_tripleCount, .ref a_o_rules, .ref a_o_instances, .ref a_o_counts, .ref a_o_premises, .int s_o_rows, .ref a_o_stated, .ref a_o_marks, .int s_o_broken, .ref a_o_text, .int s_o_size, .ref a_o_sizes, .ref a_o_places])), (a_o_phrases, .inl (fx_cJ X, 98, .inr (.inl f_o_phrases))), (a_o_text, .inl (fx_cI X, 400, .inl f_o_text))] H → va_D A [(a_o, .inr (5, [.ref a_o_phrases, .ref a_o_axioms, .int s_o_axiomCount, .ref a_o_triples, .int s_o_tripleCount, .ref a_o_rules, .ref a_o_instances, .ref a_o_counts, .ref a_o_premises, .int s_o_rows, .ref a_o_stated, .ref a_o_marks, .int s_o_broken, .ref a_o_text, .int s_o_size, .ref a_o_sizes, .ref a_o_places])), (a_o_phrases, .inl (fx_cJ X, 98, .inr (.inl f_o_phrases))), (a_o_text, .inl (fx_cI X, 400, .inl f_o_text))] → va_S A s.heap H locs → lv_has ls 5 [(3, .int x1), (2, .int x2), (0, .ref a_o), (1, .int p1)] → W p l e _ s m _ below meth c H locs _ _ _ (F0 m 4 ls [])) (fun rec3 hrec3 x1 x2 h => ?_) h _ _ _ hP hD hS (lv_sub hl [0, 1, 2, 3] rfl)
  intro H locs ls hP hD hS hl
  refine lv_iload_n hx hb dX6_put_4 rfl (lv_at hl 0 rfl) ?_
  refine lv_iload_n hx hb dX6_put_5 rfl (lv_at hl 3 rfl) ?_
  refine fx_icmp_ge (tgt := 35) hx hb h dX6_put_6 (by decide) (fun h => ?_) (fun h => ?_)
  · refine fx_loop3 (G := fun (x4 : Int32) (y5 : Int32) (y6 : Nat → Int32) => ∀ (H : Heap) (locs : List Loc) (ls : Array Slot), va_P (fx_D X) vwCl [(a_o, .inr (5, [.ref a_o_phrases, .ref a_o_axioms, .int s_o_axiomCount, .ref a_o_triples, .int s_o_tripleCount, .ref a_o_rules, .ref a_o_instances, .ref a_o_counts, .ref a_o_premises, .int s_o_rows, .ref a_o_stated, .ref a_o_marks, .int s_o_broken, .ref a_o_text, .int y5, .ref a_o_sizes, .ref a_o_places])), (a_o_phrases, .inl (fx_cJ X, 98, .inr (.inl f_o_phrases))), (a_o_text, .inl (fx_cI X, 400, .inl y6))] H → va_D A [(a_o, .inr (5, [.ref a_o_phrases, .ref a_o_axioms, .int s_o_axiomCount, .ref a_o_triples, .int s_o_tripleCount, .ref a_o_rules, .ref a_o_instances, .ref a_o_counts, .ref a_o_premises, .int s_o_rows, .ref a_o_stated, .ref a_o_marks, .int s_o_broken, .ref a_o_text, .int y5, .ref a_o_sizes, .ref a_o_places])), (a_o_phrases, .inl (fx_cJ X, 98, .inr (.inl f_o_phrases))), (a_o_text, .inl (fx_cI X, 400, .inl y6))] → va_S A s.heap H locs → lv_has ls 5 [(2, .int x4), (0, .ref a_o)] → W p l e _ s m _ below meth c H locs _ _ _ (F0 m 35 ls [])) (fun rec7 hrec7 x4 y5 y6 h => ?_) h _ _ _ hP hD hS (lv_sub hl [1, 2] rfl)
    intro H locs ls hP hD hS hl
    refine lv_aload_n hx hb dX6_put_35 rfl (lv_at hl 1 rfl) ?_
    refine va_get (D := fx_D X) (ci := 5) (v := .ref a_o_phrases) (C := RX6) (T := TX6) (N := 17) hx hb hts im_X6_put_X6 hown hK hP 0 rfl rfl 0 (by decide) k115 (fun _ h9 => h9) rfl dX6_put_36 ?_
    refine lv_iload_n hx hb dX6_put_39 rfl (lv_at hl 0 rfl) ?_
    refine fx_lald hx hb hK hP 1 1 rfl rfl h dX6_put_40 (fun v8 h => ?_)
    refine lv_lconst (v := lN 0) hx hb dX6_put_41 (by decide) ?_
    refine fx_lcmp hx hb h dX6_put_42 (fun v10 h => ?_)
    refine fx_if_eq (tgt := 109) hx hb h dX6_put_43 (by decide) (fun h => ?_) (fun h => ?_)
    · exact W.vret hx hb hr (fun t ht hW => ⟨⟨(y5, y6), rfl, h, by rw [ht]; exact hP, va_K.moved hW.alike hK, hD⟩, hS.F ht⟩) hS.2.2 dX6_put_109
    refine lv_bipush (v := (nI 56)) hx hb dX6_put_46 (by decide) ?_
    refine lv_istore_n (lv' := [(3, .int (nI 56)), (2, .int x4), (0, .ref a_o)]) hx hb dX6_put_48 rfl hl (by decide) rfl (fun ls hl => ?_)
    refine fx_loop3 (G := fun (x11 : Int32) (y12 : Int32) (y13 : Nat → Int32) => ∀ (H : Heap) (locs : List Loc) (ls : Array Slot), va_P (fx_D X) vwCl [(a_o, .inr (5, [.ref a_o_phrases, .ref a_o_axioms, .int s_o_axiomCount, .ref a_o_triples, .int s_o_tripleCount, .ref a_o_rules, .ref a_o_instances, .ref a_o_counts, .ref a_o_premises, .int s_o_rows, .ref a_o_stated, .ref a_o_marks, .int s_o_broken, .ref a_o_text, .int y12, .ref a_o_sizes, .ref a_o_places])), (a_o_phrases, .inl (fx_cJ X, 98, .inr (.inl f_o_phrases))), (a_o_text, .inl (fx_cI X, 400, .inl y13))] H → va_D A [(a_o, .inr (5, [.ref a_o_phrases, .ref a_o_axioms, .int s_o_axiomCount, .ref a_o_triples, .int s_o_tripleCount, .ref a_o_rules, .ref a_o_instances, .ref a_o_counts, .ref a_o_premises, .int s_o_rows, .ref a_o_stated, .ref a_o_marks, .int s_o_broken, .ref a_o_text, .int y12, .ref a_o_sizes, .ref a_o_places])), (a_o_phrases, .inl (fx_cJ X, 98, .inr (.inl f_o_phrases))), (a_o_text, .inl (fx_cI X, 400, .inl y13))] → va_S A s.heap H locs → lv_has ls 5 [(3, .int x11), (2, .int x4), (0, .ref a_o)] → W p l e _ s m _ below meth c H locs _ _ _ (F0 m 49 ls [])) (fun rec14 hrec14 x11 y12 y13 h => ?_) h _ _ _ hP hD hS (lv_sub hl [0, 1, 2] rfl)
    intro H locs ls hP hD hS hl
    refine lv_iload_n hx hb dX6_put_49 rfl (lv_at hl 0 rfl) ?_
    refine fx_if_lt (tgt := 103) hx hb h dX6_put_50 (by decide) (fun h => ?_) (fun h => ?_)
    · refine fx_iinc (y := (nI 1)) hx hb h dX6_put_103 (by decide) (fun v15 => [(2, .int v15), (3, .int x11), (0, .ref a_o)]) hl 1 rfl (by decide) (fun _ => rfl) (fun v15 ls h hl => ?_)
      refine lv_goto (tgt := 35) hx hb dX6_put_106 (by decide) ?_
      exact hrec7 _ _ _ h _ _ _ hP hD hS (lv_sub hl [0, 2] rfl)
    refine lv_aload_n hx hb dX6_put_53 rfl (lv_at hl 2 rfl) ?_
    refine va_get (D := fx_D X) (ci := 5) (v := .ref a_o_phrases) (C := RX6) (T := TX6) (N := 17) hx hb hts im_X6_put_X6 hown hK hP 0 rfl rfl 0 (by decide) k115 (fun _ h9 => h9) rfl dX6_put_54 ?_
    refine lv_iload_n hx hb dX6_put_57 rfl (lv_at hl 1 rfl) ?_
    refine fx_lald hx hb hK hP 1 1 rfl rfl h dX6_put_58 (fun v16 h => ?_)
    refine lv_iload_n hx hb dX6_put_59 rfl (lv_at hl 0 rfl) ?_
    refine fx_lshr hx hb h dX6_put_60 (fun v18 h => ?_)
    refine lv_ldc2 (v := lN 255) hx hb hown k227 dX6_put_61 ?_
    refine fx_land hx hb h dX6_put_64 (fun v19 h => ?_)
    refine fx_l2i hx hb h dX6_put_65 (fun v20 h => ?_)
    refine lv_istore (lv' := [(4, .int v20), (3, .int x11), (2, .int x4), (0, .ref a_o)]) hx hb dX6_put_66 hl (by decide) rfl (fun ls hl => ?_)
    refine lv_iload hx hb dX6_put_68 (lv_at hl 0 rfl) ?_
    refine fx_if_ne (tgt := 76) hx hb h dX6_put_70 (by decide) (fun h => ?_) (fun h => ?_)
    · refine lv_aload_n hx hb dX6_put_76 rfl (lv_at hl 3 rfl) ?_
      refine va_get (D := fx_D X) (ci := 5) (v := .ref a_o_text) (C := RX6) (T := TX6) (N := 17) hx hb hts im_X6_put_X6 hown hK hP 0 rfl rfl 13 (by decide) k147 (fun _ h9 => h9) rfl dX6_put_77 ?_
      refine lv_aload_n hx hb dX6_put_80 rfl (lv_at hl 3 rfl) ?_
      refine va_get (D := fx_D X) (ci := 5) (v := .int y12) (C := RX6) (T := TX6) (N := 17) hx hb hts im_X6_put_X6 hown hK hP 0 rfl rfl 14 (by decide) k229 (fun _ h9 => h9) rfl dX6_put_81 ?_
      refine lv_iload hx hb dX6_put_84 (lv_at hl 0 rfl) ?_
      refine fx_iast hx hb hK hP hD hS 2 0 rfl rfl h dX6_put_86 (fun g21 => [(a_o, .inr (5, [.ref a_o_phrases, .ref a_o_axioms, .int s_o_axiomCount, .ref a_o_triples, .int s_o_tripleCount, .ref a_o_rules, .ref a_o_instances, .ref a_o_counts, .ref a_o_premises, .int s_o_rows, .ref a_o_stated, .ref a_o_marks, .int s_o_broken, .ref a_o_text, .int y12, .ref a_o_sizes, .ref a_o_places])), (a_o_phrases, .inl (fx_cJ X, 98, .inr (.inl f_o_phrases))), (a_o_text, .inl (fx_cI X, 400, .inl g21))]) (fun _ => rfl) (fun H locs g21 h hP hD hS => ?_)
      refine lv_aload_n hx hb dX6_put_87 rfl (lv_at hl 3 rfl) ?_
      refine lv_dup hx hb dX6_put_88 rfl ?_
      refine va_get (D := fx_D X) (ci := 5) (v := .int y12) (C := RX6) (T := TX6) (N := 17) hx hb hts im_X6_put_X6 hown hK hP 0 rfl rfl 14 (by decide) k229 (fun _ h9 => h9) rfl dX6_put_89 ?_
      refine lv_iconst (v := (nI 1)) hx hb dX6_put_92 (by decide) ?_
      refine fx_iadd hx hb h dX6_put_93 (fun v22 h => ?_)
      refine va_put (D := fx_D X) (ci := 5) (v := .int v22) (ty := .int) (C := RX6) (T := TX6) (N := 17) hx hb hts im_X6_put_X6 tyX6 tyX6_ok nmX6 hown hK hP hD hS 0 rfl rfl 14 (by decide) k229 (fun _ h9 => h9) rfl (by decide +kernel) rfl rfl (Nat.le_of_ble_eq_true rfl) dX6_put_94 (fun H locs hP hD hS => ?_)
      have hP : va_P (fx_D X) vwCl [(a_o, .inr (5, [.ref a_o_phrases, .ref a_o_axioms, .int s_o_axiomCount, .ref a_o_triples, .int s_o_tripleCount, .ref a_o_rules, .ref a_o_instances, .ref a_o_counts, .ref a_o_premises, .int s_o_rows, .ref a_o_stated, .ref a_o_marks, .int s_o_broken, .ref a_o_text, .int v22, .ref a_o_sizes, .ref a_o_places])), (a_o_phrases, .inl (fx_cJ X, 98, .inr (.inl f_o_phrases))), (a_o_text, .inl (fx_cI X, 400, .inl g21))] H := hP
      have hD : va_D A [(a_o, .inr (5, [.ref a_o_phrases, .ref a_o_axioms, .int s_o_axiomCount, .ref a_o_triples, .int s_o_tripleCount, .ref a_o_rules, .ref a_o_instances, .ref a_o_counts, .ref a_o_premises, .int s_o_rows, .ref a_o_stated, .ref a_o_marks, .int s_o_broken, .ref a_o_text, .int v22, .ref a_o_sizes, .ref a_o_places])), (a_o_phrases, .inl (fx_cJ X, 98, .inr (.inl f_o_phrases))), (a_o_text, .inl (fx_cI X, 400, .inl g21))] := hD
      refine fx_iinc (y := (-8)) hx hb h dX6_put_97 (by decide) (fun v23 => [(3, .int v23), (4, .int v20), (2, .int x4), (0, .ref a_o)]) hl 1 rfl (by decide) (fun _ => rfl) (fun v23 ls h hl => ?_)
      refine lv_goto (tgt := 49) hx hb dX6_put_100 (by decide) ?_
      exact hrec14 _ _ _ h _ _ _ hP hD hS (lv_sub hl [0, 2, 3] rfl)
    refine lv_goto (tgt := 97) hx hb dX6_put_73 (by decide) ?_
    refine fx_iinc (y := (-8)) hx hb h dX6_put_97 (by decide) (fun v25 => [(3, .int v25), (4, .int v20), (2, .int x4), (0, .ref a_o)]) hl 1 rfl (by decide) (fun _ => rfl) (fun v25 ls h hl => ?_)
    refine lv_goto (tgt := 49) hx hb dX6_put_100 (by decide) ?_
    exact hrec14 _ _ _ h _ _ _ hP hD hS (lv_sub hl [0, 2, 3] rfl)
  refine fx_loop1 (G := fun (x26 : Int32) => ∀ (H : Heap) (locs : List Loc) (ls : Array Slot), va_P (fx_D X) vwCl [(a_o, .inr (5, [.ref a_o_phrases, .ref a_o_axioms, .int s_o_axiomCount, .ref a_o_triples, .int s_o_tripleCount, .ref a_o_rules, .ref a_o_instances, .ref a_o_counts, .ref a_o_premises, .int s_o_rows, .ref a_o_stated, .ref a_o_marks, .int s_o_broken, .ref a_o_text, .int s_o_size, .ref a_o_sizes, .ref a_o_places])), (a_o_phrases, .inl (fx_cJ X, 98, .inr (.inl f_o_phrases))), (a_o_text, .inl (fx_cI X, 400, .inl f_o_text))] H → va_D A [(a_o, .inr (5, [.ref a_o_phrases, .ref a_o_axioms, .int s_o_axiomCount, .ref a_o_triples, .int s_o_tripleCount, .ref a_o_rules, .ref a_o_instances, .ref a_o_counts, .ref a_o_premises, .int s_o_rows, .ref a_o_stated, .ref a_o_marks, .int s_o_broken, .ref a_o_text, .int s_o_size, .ref a_o_sizes, .ref a_o_places])), (a_o_phrases, .inl (fx_cJ X, 98, .inr (.inl f_o_phrases))), (a_o_text, .inl (fx_cI X, 400, .inl f_o_text))] → va_S A s.heap H locs → lv_has ls 5 [(3, .int x1), (2, .int x26), (0, .ref a_o), (1, .int p1)] → W p l e _ s m _ below meth c H locs _ _ _ (F0 m 9 ls [])) (fun rec27 hrec27 x26 h => ?_) h _ _ _ hP hD hS (lv_sub hl [0, 1, 2, 3] rfl)
  intro H locs ls hP hD hS hl
  refine lv_aload_n hx hb dX6_put_9 rfl (lv_at hl 2 rfl) ?_
  refine va_get (D := fx_D X) (ci := 5) (v := .ref a_o_phrases) (C := RX6) (T := TX6) (N := 17) hx hb hts im_X6_put_X6 hown hK hP 0 rfl rfl 0 (by decide) k115 (fun _ h9 => h9) rfl dX6_put_10 ?_
  refine lv_iload_n hx hb dX6_put_13 rfl (lv_at hl 1 rfl) ?_
  refine fx_lald hx hb hK hP 1 1 rfl rfl h dX6_put_14 (fun v28 h => ?_)
  refine lv_lconst (v := lN 0) hx hb dX6_put_15 (by decide) ?_
  refine fx_lcmp hx hb h dX6_put_16 (fun v30 h => ?_)
  refine fx_if_eq (tgt := 26) hx hb h dX6_put_17 (by decide) (fun h => ?_) (fun h => ?_)
  · refine fx_iinc (y := (nI 1)) hx hb h dX6_put_26 (by decide) (fun v31 => [(2, .int v31), (3, .int x1), (0, .ref a_o), (1, .int p1)]) hl 1 rfl (by decide) (fun _ => rfl) (fun v31 ls h hl => ?_)
    refine fx_iinc (y := (nI 1)) hx hb h dX6_put_29 (by decide) (fun v32 => [(3, .int v32), (2, .int v31), (0, .ref a_o), (1, .int p1)]) hl 1 rfl (by decide) (fun _ => rfl) (fun v32 ls h hl => ?_)
    refine lv_goto (tgt := 4) hx hb dX6_put_32 (by decide) ?_
    exact hrec3 _ _ h _ _ _ hP hD hS (lv_sub hl [0, 1, 2, 3] rfl)
  refine fx_iinc (y := (nI 1)) hx hb h dX6_put_20 (by decide) (fun v33 => [(2, .int v33), (3, .int x1), (0, .ref a_o), (1, .int p1)]) hl 1 rfl (by decide) (fun _ => rfl) (fun v33 ls h hl => ?_)
  refine lv_goto (tgt := 9) hx hb dX6_put_23 (by decide) ?_
  exact hrec27 _ h _ _ _ hP hD hS (lv_sub hl [1, 0, 2, 3] rfl)

/-- X6_number: its walk -/
def wp_X6_number (post : Int32 → (Nat → Int32) → Prop) (s_o_size : Int32) (f_o_text : Nat → Int32) (p1 : Int32) : Prop :=
  fx_wh1 (fun (rec2 : Int32 → Prop) (x1 : Int32) => fx_dv x1 (fx_nm (p1 / x1) (fun v3 => fx_br (v3 ≤ (nI 9)) (fx_wh3 (fun (rec7 : Int32 → Int32 → (Nat → Int32) → Prop) (x4 : Int32) (y5 : Int32) (y6 : Nat → Int32) => fx_br (x4 ≤ 0) (post y5 y6) (fx_dv x4 (fx_nm (p1 / x4) (fun v8 => fx_dv (nI 10) (fx_nm (v8 - v8 / (nI 10) * (nI 10)) (fun v9 => fx_nm ((nI 48) + v9) (fun v10 => fx_ix y5 400 (fun k14 => fx_nm (upd y6 k14 v10) (fun g11 => fx_nm (y5 + (nI 1)) (fun v12 => fx_dv (nI 10) (fx_nm (x4 / (nI 10)) (fun v13 => rec7 v13 v12 g11)))))))))))) x1 s_o_size f_o_text) (fx_nm (x1 * (nI 10)) (fun v15 => rec2 v15))))) (nI 1)
theorem im_X6_number_X6 : ∀ w ∈ u_ws RX6 TX6 17, w ∈ wsX6_number := by decide +kernel
set_option maxHeartbeats 4000000 in
set_option maxRecDepth 100000 in
theorem cw_X6_number (l : Launch) (X : fx_X) (a_o : Nat) (a_o_phrases : Nat) (a_o_axioms : Nat) (a_o_triples : Nat) (a_o_rules : Nat) (a_o_instances : Nat) (a_o_counts : Nat) (a_o_premises : Nat) (a_o_stated : Nat) (a_o_marks : Nat) (a_o_text : Nat) (a_o_sizes : Nat) (a_o_places : Nat) (s_o_axiomCount : Int32) (s_o_tripleCount : Int32) (s_o_rows : Int32) (s_o_broken : Int32) (s_o_size : Int32) (f_o_text : Nat → Int32) (sz : Nat) (p1 : Int32) (post : Int32 → (Nat → Int32) → Prop) (h : wp_X6_number post s_o_size f_o_text p1) : Met l yX6_number wsX6_number ({ frames := 0, cells := 0, slots := 0, locals := 0 }) (va_Pc [.ref a_o, .int p1] (fx_PW X [(a_o, .inr (5, [.ref a_o_phrases, .ref a_o_axioms, .int s_o_axiomCount, .ref a_o_triples, .int s_o_tripleCount, .ref a_o_rules, .ref a_o_instances, .ref a_o_counts, .ref a_o_premises, .int s_o_rows, .ref a_o_stated, .ref a_o_marks, .int s_o_broken, .ref a_o_text, .int s_o_size, .ref a_o_sizes, .ref a_o_places])), (a_o_text, .inl (fx_cI X, 400, .inl f_o_text))] sz)) (va_Qv (fun (u : Int32 × (Nat → Int32)) => post u.1 u.2) (fun (u : Int32 × (Nat → Int32)) t => fx_EW X (va_A [(a_o, .inr (5, [.ref a_o_phrases, .ref a_o_axioms, .int s_o_axiomCount, .ref a_o_triples, .int s_o_tripleCount, .ref a_o_rules, .ref a_o_instances, .ref a_o_counts, .ref a_o_premises, .int s_o_rows, .ref a_o_stated, .ref a_o_marks, .int s_o_broken, .ref a_o_text, .int s_o_size, .ref a_o_sizes, .ref a_o_places])), (a_o_text, .inl (fx_cI X, 400, .inl f_o_text))] sz) [(a_o, .inr (5, [.ref a_o_phrases, .ref a_o_axioms, .int s_o_axiomCount, .ref a_o_triples, .int s_o_tripleCount, .ref a_o_rules, .ref a_o_instances, .ref a_o_counts, .ref a_o_premises, .int s_o_rows, .ref a_o_stated, .ref a_o_marks, .int s_o_broken, .ref a_o_text, .int u.1, .ref a_o_sizes, .ref a_o_places])), (a_o_text, .inl (fx_cI X, 400, .inl u.2))] t) (va_A [(a_o, .inr (5, [.ref a_o_phrases, .ref a_o_axioms, .int s_o_axiomCount, .ref a_o_triples, .int s_o_tripleCount, .ref a_o_rules, .ref a_o_instances, .ref a_o_counts, .ref a_o_premises, .int s_o_rows, .ref a_o_stated, .ref a_o_marks, .int s_o_broken, .ref a_o_text, .int s_o_size, .ref a_o_sizes, .ref a_o_places])), (a_o_text, .inl (fx_cI X, 400, .inl f_o_text))] sz)) 0 0 (va_A [(a_o, .inr (5, [.ref a_o_phrases, .ref a_o_axioms, .int s_o_axiomCount, .ref a_o_triples, .int s_o_tripleCount, .ref a_o_rules, .ref a_o_instances, .ref a_o_counts, .ref a_o_premises, .int s_o_rows, .ref a_o_stated, .ref a_o_marks, .int s_o_broken, .ref a_o_text, .int s_o_size, .ref a_o_sizes, .ref a_o_places])), (a_o_text, .inl (fx_cI X, 400, .inl f_o_text))] sz) := by
  refine Met.ofW (cc := cX6_number) (maxL := 4) (ret := none) (by decide) rfl ?_
  intro p e s m args below meth c s₁ B hml hv
  obtain ⟨rfl, hsz, hP, hK, hD0, hG⟩ := hv
  have hx := B.exec
  have hb := B.bytes
  have hr := B.returns
  have hts := atoms_spec (ws := wsX6_number) B.pre
  have hown : s.vm.findClass RX6 = some m.cls := findClass_of_methodNamed B.named
  have hlocks := B.notSynchronized
  subst hsz
  have hD := hD0.self (sz := s.heap.size)
  generalize hAe : va_A [(a_o, .inr (5, [.ref a_o_phrases, .ref a_o_axioms, .int s_o_axiomCount, .ref a_o_triples, .int s_o_tripleCount, .ref a_o_rules, .ref a_o_instances, .ref a_o_counts, .ref a_o_premises, .int s_o_rows, .ref a_o_stated, .ref a_o_marks, .int s_o_broken, .ref a_o_text, .int s_o_size, .ref a_o_sizes, .ref a_o_places])), (a_o_text, .inl (fx_cI X, 400, .inl f_o_text))] s.heap.size = A at hD hG ⊢
  have hA : ∀ q : Nat, s.heap.size ≤ q → A q := fun q h => by rw [← hAe]; exact Or.inr h
  have hS : va_S A s.heap s.heap [] := va_S.rf
  have k229 := hts (.fieldLink RX6 229 "ProofCheckerModel" "size" "I") (by decide +kernel)
  have k147 := hts (.fieldLink RX6 147 "ProofCheckerModel" "text" "[I") (by decide +kernel)
  have hl := lv_entry ([.ref a_o, .int p1]) (n := 4) (Nat.le_of_ble_eq_true rfl)
  rw [lg_entry_eq]
  generalize (lg_sl ([.ref a_o, .int p1]) ++ List.replicate (4 - (lg_sl ([.ref a_o, .int p1])).length) Slot.unset).toArray = ls at hl ⊢
  have hl : lv_has ls 4 [(0, .ref a_o), (1, .int p1)] := hl
  unfold wp_X6_number at h
  refine lv_iconst (v := (nI 1)) hx hb dX6_number_0 (by decide) ?_
  refine lv_istore_n (lv' := [(2, .int (nI 1)), (0, .ref a_o), (1, .int p1)]) hx hb dX6_number_1 rfl hl (by decide) rfl (fun ls hl => ?_)
  refine fx_loop1 (G := fun (x1 : Int32) => ∀ (H : Heap) (locs : List Loc) (ls : Array Slot), va_P (fx_D X) vwCl [(a_o, .inr (5, [.ref a_o_phrases, .ref a_o_axioms, .int s_o_axiomCount, .ref a_o_triples, .int s_o_tripleCount, .ref a_o_rules, .ref a_o_instances, .ref a_o_counts, .ref a_o_premises, .int s_o_rows, .ref a_o_stated, .ref a_o_marks, .int s_o_broken, .ref a_o_text, .int s_o_size, .ref a_o_sizes, .ref a_o_places])), (a_o_text, .inl (fx_cI X, 400, .inl f_o_text))] H → va_D A [(a_o, .inr (5, [.ref a_o_phrases, .ref a_o_axioms, .int s_o_axiomCount, .ref a_o_triples, .int s_o_tripleCount, .ref a_o_rules, .ref a_o_instances, .ref a_o_counts, .ref a_o_premises, .int s_o_rows, .ref a_o_stated, .ref a_o_marks, .int s_o_broken, .ref a_o_text, .int s_o_size, .ref a_o_sizes, .ref a_o_places])), (a_o_text, .inl (fx_cI X, 400, .inl f_o_text))] → va_S A s.heap H locs → lv_has ls 4 [(2, .int x1), (0, .ref a_o), (1, .int p1)] → W p l e _ s m _ below meth c H locs _ _ _ (F0 m 2 ls [])) (fun rec2 hrec2 x1 h => ?_) h _ _ _ hP hD hS (lv_sub hl [0, 1, 2] rfl)
  intro H locs ls hP hD hS hl
  refine lv_iload_n hx hb dX6_number_2 rfl (lv_at hl 2 rfl) ?_
  refine lv_iload_n hx hb dX6_number_3 rfl (lv_at hl 0 rfl) ?_
  refine fx_idiv hx hb h dX6_number_4 (fun v3 h => ?_)
  refine lv_bipush (v := (nI 9)) hx hb dX6_number_5 (by decide) ?_
  refine fx_icmp_le (tgt := 18) hx hb h dX6_number_7 (by decide) (fun h => ?_) (fun h => ?_)
  · refine lv_iload_n hx hb dX6_number_18 rfl (lv_at hl 0 rfl) ?_
    refine lv_istore_n (lv' := [(3, .int x1), (2, .int x1), (0, .ref a_o), (1, .int p1)]) hx hb dX6_number_19 rfl hl (by decide) rfl (fun ls hl => ?_)
    refine fx_loop3 (G := fun (x4 : Int32) (y5 : Int32) (y6 : Nat → Int32) => ∀ (H : Heap) (locs : List Loc) (ls : Array Slot), va_P (fx_D X) vwCl [(a_o, .inr (5, [.ref a_o_phrases, .ref a_o_axioms, .int s_o_axiomCount, .ref a_o_triples, .int s_o_tripleCount, .ref a_o_rules, .ref a_o_instances, .ref a_o_counts, .ref a_o_premises, .int s_o_rows, .ref a_o_stated, .ref a_o_marks, .int s_o_broken, .ref a_o_text, .int y5, .ref a_o_sizes, .ref a_o_places])), (a_o_text, .inl (fx_cI X, 400, .inl y6))] H → va_D A [(a_o, .inr (5, [.ref a_o_phrases, .ref a_o_axioms, .int s_o_axiomCount, .ref a_o_triples, .int s_o_tripleCount, .ref a_o_rules, .ref a_o_instances, .ref a_o_counts, .ref a_o_premises, .int s_o_rows, .ref a_o_stated, .ref a_o_marks, .int s_o_broken, .ref a_o_text, .int y5, .ref a_o_sizes, .ref a_o_places])), (a_o_text, .inl (fx_cI X, 400, .inl y6))] → va_S A s.heap H locs → lv_has ls 4 [(3, .int x4), (0, .ref a_o), (1, .int p1)] → W p l e _ s m _ below meth c H locs _ _ _ (F0 m 20 ls [])) (fun rec7 hrec7 x4 y5 y6 h => ?_) h _ _ _ hP hD hS (lv_sub hl [0, 2, 3] rfl)
    intro H locs ls hP hD hS hl
    refine lv_iload_n hx hb dX6_number_20 rfl (lv_at hl 0 rfl) ?_
    refine fx_if_le (tgt := 60) hx hb h dX6_number_21 (by decide) (fun h => ?_) (fun h => ?_)
    · exact W.vret hx hb hr (fun t ht hW => ⟨⟨(y5, y6), rfl, h, by rw [ht]; exact hP, va_K.moved hW.alike hK, hD⟩, hS.F ht⟩) hS.2.2 dX6_number_60
    refine lv_aload_n hx hb dX6_number_24 rfl (lv_at hl 1 rfl) ?_
    refine va_get (D := fx_D X) (ci := 5) (v := .ref a_o_text) (C := RX6) (T := TX6) (N := 17) hx hb hts im_X6_number_X6 hown hK hP 0 rfl rfl 13 (by decide) k147 (fun _ h9 => h9) rfl dX6_number_25 ?_
    refine lv_aload_n hx hb dX6_number_28 rfl (lv_at hl 1 rfl) ?_
    refine va_get (D := fx_D X) (ci := 5) (v := .int y5) (C := RX6) (T := TX6) (N := 17) hx hb hts im_X6_number_X6 hown hK hP 0 rfl rfl 14 (by decide) k229 (fun _ h9 => h9) rfl dX6_number_29 ?_
    refine lv_bipush (v := (nI 48)) hx hb dX6_number_32 (by decide) ?_
    refine lv_iload_n hx hb dX6_number_34 rfl (lv_at hl 2 rfl) ?_
    refine lv_iload_n hx hb dX6_number_35 rfl (lv_at hl 0 rfl) ?_
    refine fx_idiv hx hb h dX6_number_36 (fun v8 h => ?_)
    refine lv_bipush (v := (nI 10)) hx hb dX6_number_37 (by decide) ?_
    refine fx_irem hx hb h dX6_number_39 (fun v9 h => ?_)
    refine fx_iadd hx hb h dX6_number_40 (fun v10 h => ?_)
    refine fx_iast hx hb hK hP hD hS 1 0 rfl rfl h dX6_number_41 (fun g11 => [(a_o, .inr (5, [.ref a_o_phrases, .ref a_o_axioms, .int s_o_axiomCount, .ref a_o_triples, .int s_o_tripleCount, .ref a_o_rules, .ref a_o_instances, .ref a_o_counts, .ref a_o_premises, .int s_o_rows, .ref a_o_stated, .ref a_o_marks, .int s_o_broken, .ref a_o_text, .int y5, .ref a_o_sizes, .ref a_o_places])), (a_o_text, .inl (fx_cI X, 400, .inl g11))]) (fun _ => rfl) (fun H locs g11 h hP hD hS => ?_)
    refine lv_aload_n hx hb dX6_number_42 rfl (lv_at hl 1 rfl) ?_
    refine lv_dup hx hb dX6_number_43 rfl ?_
    refine va_get (D := fx_D X) (ci := 5) (v := .int y5) (C := RX6) (T := TX6) (N := 17) hx hb hts im_X6_number_X6 hown hK hP 0 rfl rfl 14 (by decide) k229 (fun _ h9 => h9) rfl dX6_number_44 ?_
    refine lv_iconst (v := (nI 1)) hx hb dX6_number_47 (by decide) ?_
    refine fx_iadd hx hb h dX6_number_48 (fun v12 h => ?_)
    refine va_put (D := fx_D X) (ci := 5) (v := .int v12) (ty := .int) (C := RX6) (T := TX6) (N := 17) hx hb hts im_X6_number_X6 tyX6 tyX6_ok nmX6 hown hK hP hD hS 0 rfl rfl 14 (by decide) k229 (fun _ h9 => h9) rfl (by decide +kernel) rfl rfl (Nat.le_of_ble_eq_true rfl) dX6_number_49 (fun H locs hP hD hS => ?_)
    have hP : va_P (fx_D X) vwCl [(a_o, .inr (5, [.ref a_o_phrases, .ref a_o_axioms, .int s_o_axiomCount, .ref a_o_triples, .int s_o_tripleCount, .ref a_o_rules, .ref a_o_instances, .ref a_o_counts, .ref a_o_premises, .int s_o_rows, .ref a_o_stated, .ref a_o_marks, .int s_o_broken, .ref a_o_text, .int v12, .ref a_o_sizes, .ref a_o_places])), (a_o_text, .inl (fx_cI X, 400, .inl g11))] H := hP
    have hD : va_D A [(a_o, .inr (5, [.ref a_o_phrases, .ref a_o_axioms, .int s_o_axiomCount, .ref a_o_triples, .int s_o_tripleCount, .ref a_o_rules, .ref a_o_instances, .ref a_o_counts, .ref a_o_premises, .int s_o_rows, .ref a_o_stated, .ref a_o_marks, .int s_o_broken, .ref a_o_text, .int v12, .ref a_o_sizes, .ref a_o_places])), (a_o_text, .inl (fx_cI X, 400, .inl g11))] := hD
    refine lv_iload_n hx hb dX6_number_52 rfl (lv_at hl 0 rfl) ?_
    refine lv_bipush (v := (nI 10)) hx hb dX6_number_53 (by decide) ?_
    refine fx_idiv hx hb h dX6_number_55 (fun v13 h => ?_)
    refine lv_istore_n (lv' := [(3, .int v13), (0, .ref a_o), (1, .int p1)]) hx hb dX6_number_56 rfl hl (by decide) rfl (fun ls hl => ?_)
    refine lv_goto (tgt := 20) hx hb dX6_number_57 (by decide) ?_
    exact hrec7 _ _ _ h _ _ _ hP hD hS (lv_sub hl [0, 1, 2] rfl)
  refine lv_iload_n hx hb dX6_number_10 rfl (lv_at hl 0 rfl) ?_
  refine lv_bipush (v := (nI 10)) hx hb dX6_number_11 (by decide) ?_
  refine fx_imul hx hb h dX6_number_13 (fun v15 h => ?_)
  refine lv_istore_n (lv' := [(2, .int v15), (0, .ref a_o), (1, .int p1)]) hx hb dX6_number_14 rfl hl (by decide) rfl (fun ls hl => ?_)
  refine lv_goto (tgt := 2) hx hb dX6_number_15 (by decide) ?_
  exact hrec2 _ h _ _ _ hP hD hS (lv_sub hl [0, 1, 2] rfl)

/-- X6_wordOf: its walk -/
def wp_X6_wordOf (post : Int32 → Prop) (p1 : Int32) : Prop :=
  fx_br (p1 = (nI 0)) (post (nI 0)) (fx_br (p1 = (nI 1)) (post (nI 1)) (fx_br (p1 = (nI 2)) (post (nI 2)) (fx_br (p1 = (nI 3)) (post (nI 3)) (fx_br (p1 = (nI 4)) (post (nI 4)) (fx_br (p1 = (nI 5)) (post (nI 5)) (fx_br (p1 = (nI 6)) (post (nI 6)) (fx_br (p1 = (nI 7)) (post (nI 7)) (fx_br (p1 = (nI 8)) (post (nI 8)) (fx_br (p1 = (nI 9)) (post (nI 9)) (fx_br (p1 = (nI 10)) (post (nI 10)) (fx_br (p1 = (nI 11)) (post (nI 11)) (fx_br (p1 = (nI 12)) (post (nI 12)) (fx_br (p1 = (nI 13)) (post (nI 13)) (fx_br (p1 = (nI 14)) (post (nI 14)) (fx_br (p1 = (nI 15)) (post (nI 15)) (fx_br (p1 = (nI 16)) (post (nI 16)) (post (nI 17))))))))))))))))))
set_option maxHeartbeats 4000000 in
set_option maxRecDepth 100000 in
theorem cw_X6_wordOf (l : Launch) (X : fx_X)   (p1 : Int32) (post : Int32 → Prop) (h : wp_X6_wordOf post p1) : Met l yX6_wordOf wsX6_wordOf ({ frames := 0, cells := 0, slots := 0, locals := 0 }) (va_Pc [.int p1] (fx_PP X [])) (vp_Si post) 0 0 (fun _ => False) := by
  refine Met.ofW (cc := cX6_wordOf) (maxL := 1) (ret := (some .int)) (by decide) rfl ?_
  intro p e s m args below meth c s₁ B hml hv
  obtain ⟨rfl, hP, hK, hG⟩ := hv
  have hx := B.exec
  have hb := B.bytes
  have hr := B.returns
  have hts := atoms_spec (ws := wsX6_wordOf) B.pre
  have hown : s.vm.findClass RX6 = some m.cls := findClass_of_methodNamed B.named
  have hlocks := B.notSynchronized
  have hS : va_S (fun _ => False) s.heap s.heap [] := va_S.rf
  have hl := lv_entry ([.int p1]) (n := 1) (Nat.le_of_ble_eq_true rfl)
  rw [lg_entry_eq]
  generalize (lg_sl ([.int p1]) ++ List.replicate (1 - (lg_sl ([.int p1])).length) Slot.unset).toArray = ls at hl ⊢
  have hl : lv_has ls 1 [(0, .int p1)] := hl
  unfold wp_X6_wordOf at h
  refine lv_iload_n hx hb dX6_wordOf_0 rfl (lv_at hl 0 rfl) ?_
  by_cases z0 : p1 = (nI 0)
  · have h := h.1 z0
    refine lv_tableIn (tgt := 84) hx hb dX6_wordOf_1 (by rw [z0]; decide) (by rw [z0]; decide) (by rw [z0]; rfl) (by decide) ?_
    refine lv_iconst (v := (nI 0)) hx hb dX6_wordOf_84 (by decide) ?_
    exact W.iret (v := (nI 0)) hx hb hr  (fun t ht hW => ⟨_, rfl, h, ht⟩) (fun q hq => by cases hq) dX6_wordOf_85
  have h := h.2 z0
  by_cases z1 : p1 = (nI 1)
  · have h := h.1 z1
    refine lv_tableIn (tgt := 86) hx hb dX6_wordOf_1 (by rw [z1]; decide) (by rw [z1]; decide) (by rw [z1]; rfl) (by decide) ?_
    refine lv_iconst (v := (nI 1)) hx hb dX6_wordOf_86 (by decide) ?_
    exact W.iret (v := (nI 1)) hx hb hr  (fun t ht hW => ⟨_, rfl, h, ht⟩) (fun q hq => by cases hq) dX6_wordOf_87
  have h := h.2 z1
  by_cases z2 : p1 = (nI 2)
  · have h := h.1 z2
    refine lv_tableIn (tgt := 88) hx hb dX6_wordOf_1 (by rw [z2]; decide) (by rw [z2]; decide) (by rw [z2]; rfl) (by decide) ?_
    refine lv_iconst (v := (nI 2)) hx hb dX6_wordOf_88 (by decide) ?_
    exact W.iret (v := (nI 2)) hx hb hr  (fun t ht hW => ⟨_, rfl, h, ht⟩) (fun q hq => by cases hq) dX6_wordOf_89
  have h := h.2 z2
  by_cases z3 : p1 = (nI 3)
  · have h := h.1 z3
    refine lv_tableIn (tgt := 90) hx hb dX6_wordOf_1 (by rw [z3]; decide) (by rw [z3]; decide) (by rw [z3]; rfl) (by decide) ?_
    refine lv_iconst (v := (nI 3)) hx hb dX6_wordOf_90 (by decide) ?_
    exact W.iret (v := (nI 3)) hx hb hr  (fun t ht hW => ⟨_, rfl, h, ht⟩) (fun q hq => by cases hq) dX6_wordOf_91
  have h := h.2 z3
  by_cases z4 : p1 = (nI 4)
  · have h := h.1 z4
    refine lv_tableIn (tgt := 92) hx hb dX6_wordOf_1 (by rw [z4]; decide) (by rw [z4]; decide) (by rw [z4]; rfl) (by decide) ?_
    refine lv_iconst (v := (nI 4)) hx hb dX6_wordOf_92 (by decide) ?_
    exact W.iret (v := (nI 4)) hx hb hr  (fun t ht hW => ⟨_, rfl, h, ht⟩) (fun q hq => by cases hq) dX6_wordOf_93
  have h := h.2 z4
  by_cases z5 : p1 = (nI 5)
  · have h := h.1 z5
    refine lv_tableIn (tgt := 94) hx hb dX6_wordOf_1 (by rw [z5]; decide) (by rw [z5]; decide) (by rw [z5]; rfl) (by decide) ?_
    refine lv_iconst (v := (nI 5)) hx hb dX6_wordOf_94 (by decide) ?_
    exact W.iret (v := (nI 5)) hx hb hr  (fun t ht hW => ⟨_, rfl, h, ht⟩) (fun q hq => by cases hq) dX6_wordOf_95
  have h := h.2 z5
  by_cases z6 : p1 = (nI 6)
  · have h := h.1 z6
    refine lv_tableIn (tgt := 96) hx hb dX6_wordOf_1 (by rw [z6]; decide) (by rw [z6]; decide) (by rw [z6]; rfl) (by decide) ?_
    refine lv_bipush (v := (nI 6)) hx hb dX6_wordOf_96 (by decide) ?_
    exact W.iret (v := (nI 6)) hx hb hr  (fun t ht hW => ⟨_, rfl, h, ht⟩) (fun q hq => by cases hq) dX6_wordOf_98
  have h := h.2 z6
  by_cases z7 : p1 = (nI 7)
  · have h := h.1 z7
    refine lv_tableIn (tgt := 99) hx hb dX6_wordOf_1 (by rw [z7]; decide) (by rw [z7]; decide) (by rw [z7]; rfl) (by decide) ?_
    refine lv_bipush (v := (nI 7)) hx hb dX6_wordOf_99 (by decide) ?_
    exact W.iret (v := (nI 7)) hx hb hr  (fun t ht hW => ⟨_, rfl, h, ht⟩) (fun q hq => by cases hq) dX6_wordOf_101
  have h := h.2 z7
  by_cases z8 : p1 = (nI 8)
  · have h := h.1 z8
    refine lv_tableIn (tgt := 102) hx hb dX6_wordOf_1 (by rw [z8]; decide) (by rw [z8]; decide) (by rw [z8]; rfl) (by decide) ?_
    refine lv_bipush (v := (nI 8)) hx hb dX6_wordOf_102 (by decide) ?_
    exact W.iret (v := (nI 8)) hx hb hr  (fun t ht hW => ⟨_, rfl, h, ht⟩) (fun q hq => by cases hq) dX6_wordOf_104
  have h := h.2 z8
  by_cases z9 : p1 = (nI 9)
  · have h := h.1 z9
    refine lv_tableIn (tgt := 105) hx hb dX6_wordOf_1 (by rw [z9]; decide) (by rw [z9]; decide) (by rw [z9]; rfl) (by decide) ?_
    refine lv_bipush (v := (nI 9)) hx hb dX6_wordOf_105 (by decide) ?_
    exact W.iret (v := (nI 9)) hx hb hr  (fun t ht hW => ⟨_, rfl, h, ht⟩) (fun q hq => by cases hq) dX6_wordOf_107
  have h := h.2 z9
  by_cases z10 : p1 = (nI 10)
  · have h := h.1 z10
    refine lv_tableIn (tgt := 108) hx hb dX6_wordOf_1 (by rw [z10]; decide) (by rw [z10]; decide) (by rw [z10]; rfl) (by decide) ?_
    refine lv_bipush (v := (nI 10)) hx hb dX6_wordOf_108 (by decide) ?_
    exact W.iret (v := (nI 10)) hx hb hr  (fun t ht hW => ⟨_, rfl, h, ht⟩) (fun q hq => by cases hq) dX6_wordOf_110
  have h := h.2 z10
  by_cases z11 : p1 = (nI 11)
  · have h := h.1 z11
    refine lv_tableIn (tgt := 111) hx hb dX6_wordOf_1 (by rw [z11]; decide) (by rw [z11]; decide) (by rw [z11]; rfl) (by decide) ?_
    refine lv_bipush (v := (nI 11)) hx hb dX6_wordOf_111 (by decide) ?_
    exact W.iret (v := (nI 11)) hx hb hr  (fun t ht hW => ⟨_, rfl, h, ht⟩) (fun q hq => by cases hq) dX6_wordOf_113
  have h := h.2 z11
  by_cases z12 : p1 = (nI 12)
  · have h := h.1 z12
    refine lv_tableIn (tgt := 114) hx hb dX6_wordOf_1 (by rw [z12]; decide) (by rw [z12]; decide) (by rw [z12]; rfl) (by decide) ?_
    refine lv_bipush (v := (nI 12)) hx hb dX6_wordOf_114 (by decide) ?_
    exact W.iret (v := (nI 12)) hx hb hr  (fun t ht hW => ⟨_, rfl, h, ht⟩) (fun q hq => by cases hq) dX6_wordOf_116
  have h := h.2 z12
  by_cases z13 : p1 = (nI 13)
  · have h := h.1 z13
    refine lv_tableIn (tgt := 117) hx hb dX6_wordOf_1 (by rw [z13]; decide) (by rw [z13]; decide) (by rw [z13]; rfl) (by decide) ?_
    refine lv_bipush (v := (nI 13)) hx hb dX6_wordOf_117 (by decide) ?_
    exact W.iret (v := (nI 13)) hx hb hr  (fun t ht hW => ⟨_, rfl, h, ht⟩) (fun q hq => by cases hq) dX6_wordOf_119
  have h := h.2 z13
  by_cases z14 : p1 = (nI 14)
  · have h := h.1 z14
    refine lv_tableIn (tgt := 120) hx hb dX6_wordOf_1 (by rw [z14]; decide) (by rw [z14]; decide) (by rw [z14]; rfl) (by decide) ?_
    refine lv_bipush (v := (nI 14)) hx hb dX6_wordOf_120 (by decide) ?_
    exact W.iret (v := (nI 14)) hx hb hr  (fun t ht hW => ⟨_, rfl, h, ht⟩) (fun q hq => by cases hq) dX6_wordOf_122
  have h := h.2 z14
  by_cases z15 : p1 = (nI 15)
  · have h := h.1 z15
    refine lv_tableIn (tgt := 123) hx hb dX6_wordOf_1 (by rw [z15]; decide) (by rw [z15]; decide) (by rw [z15]; rfl) (by decide) ?_
    refine lv_bipush (v := (nI 15)) hx hb dX6_wordOf_123 (by decide) ?_
    exact W.iret (v := (nI 15)) hx hb hr  (fun t ht hW => ⟨_, rfl, h, ht⟩) (fun q hq => by cases hq) dX6_wordOf_125
  have h := h.2 z15
  by_cases z16 : p1 = (nI 16)
  · have h := h.1 z16
    refine lv_tableIn (tgt := 126) hx hb dX6_wordOf_1 (by rw [z16]; decide) (by rw [z16]; decide) (by rw [z16]; rfl) (by decide) ?_
    refine lv_bipush (v := (nI 16)) hx hb dX6_wordOf_126 (by decide) ?_
    exact W.iret (v := (nI 16)) hx hb hr  (fun t ht hW => ⟨_, rfl, h, ht⟩) (fun q hq => by cases hq) dX6_wordOf_128
  have h := h.2 z16
  refine lv_tableOut (tgt := 129) hx hb dX6_wordOf_1 (fx_sw17_0 z0 z1 z2 z3 z4 z5 z6 z7 z8 z9 z10 z11 z12 z13 z14 z15 z16) (by decide) ?_
  refine lv_bipush (v := (nI 17)) hx hb dX6_wordOf_129 (by decide) ?_
  exact W.iret (v := (nI 17)) hx hb hr  (fun t ht hW => ⟨_, rfl, h, ht⟩) (fun q hq => by cases hq) dX6_wordOf_131

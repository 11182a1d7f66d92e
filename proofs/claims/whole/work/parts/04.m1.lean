/-- X6_isTerm: its walk -/
def wp_X6_isTerm (post : Int32 → Prop) (p1 : Int32) : Prop :=
  fx_br (p1 < 0) (post (nI 0)) (fx_br ((nI 1000) ≤ p1) (post (nI 0)) (post (nI 1)))
set_option maxHeartbeats 4000000 in
set_option maxRecDepth 100000 in
theorem cw_X6_isTerm (l : Launch) (X : fx_X)   (p1 : Int32) (post : Int32 → Prop) (h : wp_X6_isTerm post p1) : Met l yX6_isTerm wsX6_isTerm ({ frames := 0, cells := 0, slots := 0, locals := 0 }) (va_Pc [.int p1] (fx_PP X [])) (vp_Si post) 0 0 (fun _ => False) := by
  refine Met.ofW (cc := cX6_isTerm) (maxL := 1) (ret := (some .boolean)) (by decide) rfl ?_
  intro p e s m args below meth c s₁ B hml hv
  obtain ⟨rfl, hP, hK, hG⟩ := hv
  have hx := B.exec
  have hb := B.bytes
  have hr := B.returns
  have hts := atoms_spec (ws := wsX6_isTerm) B.pre
  have hown : s.vm.findClass RX6 = some m.cls := findClass_of_methodNamed B.named
  have hlocks := B.notSynchronized
  have hS : va_S (fun _ => False) s.heap s.heap [] := va_S.rf
  have hl := lv_entry ([.int p1]) (n := 1) (Nat.le_of_ble_eq_true rfl)
  rw [lg_entry_eq]
  generalize (lg_sl ([.int p1]) ++ List.replicate (1 - (lg_sl ([.int p1])).length) Slot.unset).toArray = ls at hl ⊢
  have hl : lv_has ls 1 [(0, .int p1)] := hl
  unfold wp_X6_isTerm at h
  refine lv_iload_n hx hb dX6_isTerm_0 rfl (lv_at hl 0 rfl) ?_
  refine fx_if_lt (tgt := 15) hx hb h dX6_isTerm_1 (by decide) (fun h => ?_) (fun h => ?_)
  · refine lv_iconst (v := (nI 0)) hx hb dX6_isTerm_15 (by decide) ?_
    exact W.zret (v := (nI 0)) hx hb hr rfl (fun t ht hW => ⟨_, rfl, h, ht⟩) (fun q hq => by cases hq) dX6_isTerm_16
  refine lv_iload_n hx hb dX6_isTerm_4 rfl (lv_at hl 0 rfl) ?_
  refine lv_sipush (v := (nI 1000)) hx hb dX6_isTerm_5 (by decide) ?_
  refine fx_icmp_ge (tgt := 15) hx hb h dX6_isTerm_8 (by decide) (fun h => ?_) (fun h => ?_)
  · refine lv_iconst (v := (nI 0)) hx hb dX6_isTerm_15 (by decide) ?_
    exact W.zret (v := (nI 0)) hx hb hr rfl (fun t ht hW => ⟨_, rfl, h, ht⟩) (fun q hq => by cases hq) dX6_isTerm_16
  refine lv_iconst (v := (nI 1)) hx hb dX6_isTerm_11 (by decide) ?_
  refine lv_goto (tgt := 16) hx hb dX6_isTerm_12 (by decide) ?_
  exact W.zret (v := (nI 1)) hx hb hr rfl (fun t ht hW => ⟨_, rfl, h, ht⟩) (fun q hq => by cases hq) dX6_isTerm_16

/-- X6_takes: its walk -/
def wp_X6_takes (post : Int32 → Prop) (p1 : Int32) : Prop :=
  fx_br ((nI 3) ≤ p1) (fx_br (p1 = (nI 12)) (post (nI 1)) (fx_br (p1 = (nI 17)) (post (nI 1)) (fx_br (p1 = (nI 10)) (post (nI 3)) (fx_br (p1 = (nI 14)) (post (nI 3)) (fx_br (p1 = (nI 15)) (post (nI 3)) (post (nI 2))))))) (post (nI 0))
set_option maxHeartbeats 4000000 in
set_option maxRecDepth 100000 in
theorem cw_X6_takes (l : Launch) (X : fx_X)   (p1 : Int32) (post : Int32 → Prop) (h : wp_X6_takes post p1) : Met l yX6_takes wsX6_takes ({ frames := 0, cells := 0, slots := 0, locals := 0 }) (va_Pc [.int p1] (fx_PP X [])) (vp_Si post) 0 0 (fun _ => False) := by
  refine Met.ofW (cc := cX6_takes) (maxL := 1) (ret := (some .int)) (by decide) rfl ?_
  intro p e s m args below meth c s₁ B hml hv
  obtain ⟨rfl, hP, hK, hG⟩ := hv
  have hx := B.exec
  have hb := B.bytes
  have hr := B.returns
  have hts := atoms_spec (ws := wsX6_takes) B.pre
  have hown : s.vm.findClass RX6 = some m.cls := findClass_of_methodNamed B.named
  have hlocks := B.notSynchronized
  have hS : va_S (fun _ => False) s.heap s.heap [] := va_S.rf
  have hl := lv_entry ([.int p1]) (n := 1) (Nat.le_of_ble_eq_true rfl)
  rw [lg_entry_eq]
  generalize (lg_sl ([.int p1]) ++ List.replicate (1 - (lg_sl ([.int p1])).length) Slot.unset).toArray = ls at hl ⊢
  have hl : lv_has ls 1 [(0, .int p1)] := hl
  unfold wp_X6_takes at h
  refine lv_iload_n hx hb dX6_takes_0 rfl (lv_at hl 0 rfl) ?_
  refine lv_iconst (v := (nI 3)) hx hb dX6_takes_1 (by decide) ?_
  refine fx_icmp_ge (tgt := 7) hx hb h dX6_takes_2 (by decide) (fun h => ?_) (fun h => ?_)
  · refine lv_iload_n hx hb dX6_takes_7 rfl (lv_at hl 0 rfl) ?_
    refine lv_bipush (v := (nI 12)) hx hb dX6_takes_8 (by decide) ?_
    refine fx_icmp_eq (tgt := 19) hx hb h dX6_takes_10 (by decide) (fun h => ?_) (fun h => ?_)
    · refine lv_iconst (v := (nI 1)) hx hb dX6_takes_19 (by decide) ?_
      exact W.iret (v := (nI 1)) hx hb hr  (fun t ht hW => ⟨_, rfl, h, ht⟩) (fun q hq => by cases hq) dX6_takes_20
    refine lv_iload_n hx hb dX6_takes_13 rfl (lv_at hl 0 rfl) ?_
    refine lv_bipush (v := (nI 17)) hx hb dX6_takes_14 (by decide) ?_
    refine fx_icmp_ne (tgt := 21) hx hb h dX6_takes_16 (by decide) (fun h => ?_) (fun h => ?_)
    · refine lv_iload_n hx hb dX6_takes_21 rfl (lv_at hl 0 rfl) ?_
      refine lv_bipush (v := (nI 10)) hx hb dX6_takes_22 (by decide) ?_
      refine fx_icmp_eq (tgt := 39) hx hb h dX6_takes_24 (by decide) (fun h => ?_) (fun h => ?_)
      · refine lv_iconst (v := (nI 3)) hx hb dX6_takes_39 (by decide) ?_
        refine lv_goto (tgt := 44) hx hb dX6_takes_40 (by decide) ?_
        exact W.iret (v := (nI 3)) hx hb hr  (fun t ht hW => ⟨_, rfl, h, ht⟩) (fun q hq => by cases hq) dX6_takes_44
      refine lv_iload_n hx hb dX6_takes_27 rfl (lv_at hl 0 rfl) ?_
      refine lv_bipush (v := (nI 14)) hx hb dX6_takes_28 (by decide) ?_
      refine fx_icmp_eq (tgt := 39) hx hb h dX6_takes_30 (by decide) (fun h => ?_) (fun h => ?_)
      · refine lv_iconst (v := (nI 3)) hx hb dX6_takes_39 (by decide) ?_
        refine lv_goto (tgt := 44) hx hb dX6_takes_40 (by decide) ?_
        exact W.iret (v := (nI 3)) hx hb hr  (fun t ht hW => ⟨_, rfl, h, ht⟩) (fun q hq => by cases hq) dX6_takes_44
      refine lv_iload_n hx hb dX6_takes_33 rfl (lv_at hl 0 rfl) ?_
      refine lv_bipush (v := (nI 15)) hx hb dX6_takes_34 (by decide) ?_
      refine fx_icmp_ne (tgt := 43) hx hb h dX6_takes_36 (by decide) (fun h => ?_) (fun h => ?_)
      · refine lv_iconst (v := (nI 2)) hx hb dX6_takes_43 (by decide) ?_
        exact W.iret (v := (nI 2)) hx hb hr  (fun t ht hW => ⟨_, rfl, h, ht⟩) (fun q hq => by cases hq) dX6_takes_44
      refine lv_iconst (v := (nI 3)) hx hb dX6_takes_39 (by decide) ?_
      refine lv_goto (tgt := 44) hx hb dX6_takes_40 (by decide) ?_
      exact W.iret (v := (nI 3)) hx hb hr  (fun t ht hW => ⟨_, rfl, h, ht⟩) (fun q hq => by cases hq) dX6_takes_44
    refine lv_iconst (v := (nI 1)) hx hb dX6_takes_19 (by decide) ?_
    exact W.iret (v := (nI 1)) hx hb hr  (fun t ht hW => ⟨_, rfl, h, ht⟩) (fun q hq => by cases hq) dX6_takes_20
  refine lv_iconst (v := (nI 0)) hx hb dX6_takes_5 (by decide) ?_
  exact W.iret (v := (nI 0)) hx hb hr  (fun t ht hW => ⟨_, rfl, h, ht⟩) (fun q hq => by cases hq) dX6_takes_6

/-- X6_isRow: its walk -/
def wp_X6_isRow (post : Int32 → Prop) (s_o_rows : Int32) (p1 : Int32) : Prop :=
  fx_br (p1 ≤ 0) (post (nI 0)) (fx_br (s_o_rows < p1) (post (nI 0)) (post (nI 1)))
theorem im_X6_isRow_X6 : ∀ w ∈ u_ws RX6 TX6 17, w ∈ wsX6_isRow := by decide +kernel
set_option maxHeartbeats 4000000 in
set_option maxRecDepth 100000 in
theorem cw_X6_isRow (l : Launch) (X : fx_X) (a_o : Nat) (a_o_phrases : Nat) (a_o_axioms : Nat) (a_o_triples : Nat) (a_o_rules : Nat) (a_o_instances : Nat) (a_o_counts : Nat) (a_o_premises : Nat) (a_o_stated : Nat) (a_o_marks : Nat) (a_o_text : Nat) (a_o_sizes : Nat) (a_o_places : Nat) (s_o_axiomCount : Int32) (s_o_tripleCount : Int32) (s_o_rows : Int32) (s_o_broken : Int32) (s_o_size : Int32) (p1 : Int32) (post : Int32 → Prop) (h : wp_X6_isRow post s_o_rows p1) : Met l yX6_isRow wsX6_isRow ({ frames := 0, cells := 0, slots := 0, locals := 0 }) (va_Pc [.ref a_o, .int p1] (fx_PP X [(a_o, .inr (5, [.ref a_o_phrases, .ref a_o_axioms, .int s_o_axiomCount, .ref a_o_triples, .int s_o_tripleCount, .ref a_o_rules, .ref a_o_instances, .ref a_o_counts, .ref a_o_premises, .int s_o_rows, .ref a_o_stated, .ref a_o_marks, .int s_o_broken, .ref a_o_text, .int s_o_size, .ref a_o_sizes, .ref a_o_places]))])) (vp_Si post) 0 0 (fun _ => False) := by
  refine Met.ofW (cc := cX6_isRow) (maxL := 2) (ret := (some .boolean)) (by decide) rfl ?_
  intro p e s m args below meth c s₁ B hml hv
  obtain ⟨rfl, hP, hK, hG⟩ := hv
  have hx := B.exec
  have hb := B.bytes
  have hr := B.returns
  have hts := atoms_spec (ws := wsX6_isRow) B.pre
  have hown : s.vm.findClass RX6 = some m.cls := findClass_of_methodNamed B.named
  have hlocks := B.notSynchronized
  have hS : va_S (fun _ => False) s.heap s.heap [] := va_S.rf
  have k167 := hts (.fieldLink RX6 167 "ProofCheckerModel" "rows" "I") (by decide +kernel)
  have hl := lv_entry ([.ref a_o, .int p1]) (n := 2) (Nat.le_of_ble_eq_true rfl)
  rw [lg_entry_eq]
  generalize (lg_sl ([.ref a_o, .int p1]) ++ List.replicate (2 - (lg_sl ([.ref a_o, .int p1])).length) Slot.unset).toArray = ls at hl ⊢
  have hl : lv_has ls 2 [(0, .ref a_o), (1, .int p1)] := hl
  unfold wp_X6_isRow at h
  refine lv_iload_n hx hb dX6_isRow_0 rfl (lv_at hl 1 rfl) ?_
  refine fx_if_le (tgt := 16) hx hb h dX6_isRow_1 (by decide) (fun h => ?_) (fun h => ?_)
  · refine lv_iconst (v := (nI 0)) hx hb dX6_isRow_16 (by decide) ?_
    exact W.zret (v := (nI 0)) hx hb hr rfl (fun t ht hW => ⟨_, rfl, h, ht⟩) (fun q hq => by cases hq) dX6_isRow_17
  refine lv_iload_n hx hb dX6_isRow_4 rfl (lv_at hl 1 rfl) ?_
  refine lv_aload_n hx hb dX6_isRow_5 rfl (lv_at hl 0 rfl) ?_
  refine va_get (D := fx_D X) (ci := 5) (v := .int s_o_rows) (C := RX6) (T := TX6) (N := 17) hx hb hts im_X6_isRow_X6 hown hK hP 0 rfl rfl 9 (by decide) k167 (fun _ h9 => h9) rfl dX6_isRow_6 ?_
  refine fx_icmp_gt (tgt := 16) hx hb h dX6_isRow_9 (by decide) (fun h => ?_) (fun h => ?_)
  · refine lv_iconst (v := (nI 0)) hx hb dX6_isRow_16 (by decide) ?_
    exact W.zret (v := (nI 0)) hx hb hr rfl (fun t ht hW => ⟨_, rfl, h, ht⟩) (fun q hq => by cases hq) dX6_isRow_17
  refine lv_iconst (v := (nI 1)) hx hb dX6_isRow_12 (by decide) ?_
  refine lv_goto (tgt := 17) hx hb dX6_isRow_13 (by decide) ?_
  exact W.zret (v := (nI 1)) hx hb hr rfl (fun t ht hW => ⟨_, rfl, h, ht⟩) (fun q hq => by cases hq) dX6_isRow_17

/-- X6_isInstance: its walk -/
def wp_X6_isInstance (post : Int32 → Prop) (s_o_axiomCount : Int32) (s_o_tripleCount : Int32) (p1 : Int32) (p2 : Int32) : Prop :=
  fx_br (p1 = 0) (fx_br (p2 ≤ 0) (post (nI 0)) (fx_br (s_o_axiomCount < p2) (post (nI 0)) (post (nI 1)))) (fx_br (p1 = (nI 1)) (fx_br (p2 ≤ 0) (post (nI 0)) (fx_br (s_o_tripleCount < p2) (post (nI 0)) (post (nI 1)))) (fx_br (p1 = (nI 17)) (fx_br (p2 ≤ 0) (post (nI 0)) (fx_br (s_o_tripleCount < p2) (post (nI 0)) (post (nI 1)))) (fx_br (p1 = (nI 2)) (wp_X6_isTerm (fun r1 => fx_br (r1 = 0) (post (nI 0)) (post (nI 1))) p2) (post (nI 1)))))
theorem im_X6_isInstance_X6 : ∀ w ∈ u_ws RX6 TX6 17, w ∈ wsX6_isInstance := by decide +kernel
set_option maxHeartbeats 4000000 in
set_option maxRecDepth 100000 in
theorem cw_X6_isInstance (l : Launch) (X : fx_X) (a_o : Nat) (a_o_phrases : Nat) (a_o_axioms : Nat) (a_o_triples : Nat) (a_o_rules : Nat) (a_o_instances : Nat) (a_o_counts : Nat) (a_o_premises : Nat) (a_o_stated : Nat) (a_o_marks : Nat) (a_o_text : Nat) (a_o_sizes : Nat) (a_o_places : Nat) (s_o_axiomCount : Int32) (s_o_tripleCount : Int32) (s_o_rows : Int32) (s_o_broken : Int32) (s_o_size : Int32) (p1 : Int32) (p2 : Int32) (post : Int32 → Prop) (h : wp_X6_isInstance post s_o_axiomCount s_o_tripleCount p1 p2) : Met l yX6_isInstance wsX6_isInstance ({ frames := 1, cells := 0, slots := 0, locals := 20 }) (va_Pc [.ref a_o, .int p1, .int p2] (fx_PP X [(a_o, .inr (5, [.ref a_o_phrases, .ref a_o_axioms, .int s_o_axiomCount, .ref a_o_triples, .int s_o_tripleCount, .ref a_o_rules, .ref a_o_instances, .ref a_o_counts, .ref a_o_premises, .int s_o_rows, .ref a_o_stated, .ref a_o_marks, .int s_o_broken, .ref a_o_text, .int s_o_size, .ref a_o_sizes, .ref a_o_places]))])) (vp_Si post) 0 0 (fun _ => False) := by
  refine Met.ofW (cc := cX6_isInstance) (maxL := 3) (ret := (some .boolean)) (by decide) rfl ?_
  intro p e s m args below meth c s₁ B hml hv
  obtain ⟨rfl, hP, hK, hG⟩ := hv
  have hx := B.exec
  have hb := B.bytes
  have hr := B.returns
  have hts := atoms_spec (ws := wsX6_isInstance) B.pre
  have hown : s.vm.findClass RX6 = some m.cls := findClass_of_methodNamed B.named
  have hlocks := B.notSynchronized
  have hS : va_S (fun _ => False) s.heap s.heap [] := va_S.rf
  have k164 := hts (.fieldLink RX6 164 "ProofCheckerModel" "tripleCount" "I") (by decide +kernel)
  have k160 := hts (.fieldLink RX6 160 "ProofCheckerModel" "axiomCount" "I") (by decide +kernel)
  have hl := lv_entry ([.ref a_o, .int p1, .int p2]) (n := 3) (Nat.le_of_ble_eq_true rfl)
  rw [lg_entry_eq]
  generalize (lg_sl ([.ref a_o, .int p1, .int p2]) ++ List.replicate (3 - (lg_sl ([.ref a_o, .int p1, .int p2])).length) Slot.unset).toArray = ls at hl ⊢
  have hl : lv_has ls 3 [(0, .ref a_o), (1, .int p1), (2, .int p2)] := hl
  unfold wp_X6_isInstance at h
  refine lv_iload_n hx hb dX6_isInstance_0 rfl (lv_at hl 1 rfl) ?_
  refine fx_if_ne (tgt := 22) hx hb h dX6_isInstance_1 (by decide) (fun h => ?_) (fun h => ?_)
  · refine lv_iload_n hx hb dX6_isInstance_22 rfl (lv_at hl 1 rfl) ?_
    refine lv_iconst (v := (nI 1)) hx hb dX6_isInstance_23 (by decide) ?_
    refine fx_icmp_eq (tgt := 33) hx hb h dX6_isInstance_24 (by decide) (fun h => ?_) (fun h => ?_)
    · refine lv_iload_n hx hb dX6_isInstance_33 rfl (lv_at hl 2 rfl) ?_
      refine fx_if_le (tgt := 49) hx hb h dX6_isInstance_34 (by decide) (fun h => ?_) (fun h => ?_)
      · refine lv_iconst (v := (nI 0)) hx hb dX6_isInstance_49 (by decide) ?_
        exact W.zret (v := (nI 0)) hx hb hr rfl (fun t ht hW => ⟨_, rfl, h, ht⟩) (fun q hq => by cases hq) dX6_isInstance_50
      refine lv_iload_n hx hb dX6_isInstance_37 rfl (lv_at hl 2 rfl) ?_
      refine lv_aload_n hx hb dX6_isInstance_38 rfl (lv_at hl 0 rfl) ?_
      refine va_get (D := fx_D X) (ci := 5) (v := .int s_o_tripleCount) (C := RX6) (T := TX6) (N := 17) hx hb hts im_X6_isInstance_X6 hown hK hP 0 rfl rfl 4 (by decide) k164 (fun _ h9 => h9) rfl dX6_isInstance_39 ?_
      refine fx_icmp_gt (tgt := 49) hx hb h dX6_isInstance_42 (by decide) (fun h => ?_) (fun h => ?_)
      · refine lv_iconst (v := (nI 0)) hx hb dX6_isInstance_49 (by decide) ?_
        exact W.zret (v := (nI 0)) hx hb hr rfl (fun t ht hW => ⟨_, rfl, h, ht⟩) (fun q hq => by cases hq) dX6_isInstance_50
      refine lv_iconst (v := (nI 1)) hx hb dX6_isInstance_45 (by decide) ?_
      refine lv_goto (tgt := 50) hx hb dX6_isInstance_46 (by decide) ?_
      exact W.zret (v := (nI 1)) hx hb hr rfl (fun t ht hW => ⟨_, rfl, h, ht⟩) (fun q hq => by cases hq) dX6_isInstance_50
    refine lv_iload_n hx hb dX6_isInstance_27 rfl (lv_at hl 1 rfl) ?_
    refine lv_bipush (v := (nI 17)) hx hb dX6_isInstance_28 (by decide) ?_
    refine fx_icmp_ne (tgt := 51) hx hb h dX6_isInstance_30 (by decide) (fun h => ?_) (fun h => ?_)
    · refine lv_iload_n hx hb dX6_isInstance_51 rfl (lv_at hl 1 rfl) ?_
      refine lv_iconst (v := (nI 2)) hx hb dX6_isInstance_52 (by decide) ?_
      refine fx_icmp_ne (tgt := 63) hx hb h dX6_isInstance_53 (by decide) (fun h => ?_) (fun h => ?_)
      · refine lv_iconst (v := (nI 1)) hx hb dX6_isInstance_63 (by decide) ?_
        refine lv_goto (tgt := 68) hx hb dX6_isInstance_64 (by decide) ?_
        exact W.zret (v := (nI 1)) hx hb hr rfl (fun t ht hW => ⟨_, rfl, h, ht⟩) (fun q hq => by cases hq) dX6_isInstance_68
      refine lv_iload_n hx hb dX6_isInstance_56 rfl (lv_at hl 2 rfl) ?_
      refine vp_callSi (W.runS (As := [.int p2]) (rest := []) ⟨hx, hb, hml, hown, hts⟩ (cw_X6_isTerm l X   p2 _ h) (va_cwS 1 hts gX6_isInstance_X6_isTerm rfl rfl rfl (by decide +kernel) ⟨Nat.le_of_ble_eq_true rfl, Nat.le_of_ble_eq_true rfl⟩) (fx_ps (wc := []) hP hK hG hS [] rfl) rfl rfl hl.1 rfl (lv_room (Nat.le_of_ble_eq_true rfl)) dX6_isInstance_57 ⟨Nat.le_of_ble_eq_true rfl, Nat.le_of_ble_eq_true rfl⟩) (fun r1 h => ?_)
      refine fx_if_eq (tgt := 67) hx hb h dX6_isInstance_60 (by decide) (fun h => ?_) (fun h => ?_)
      · refine lv_iconst (v := (nI 0)) hx hb dX6_isInstance_67 (by decide) ?_
        exact W.zret (v := (nI 0)) hx hb hr rfl (fun t ht hW => ⟨_, rfl, h, ht⟩) (fun q hq => by cases hq) dX6_isInstance_68
      refine lv_iconst (v := (nI 1)) hx hb dX6_isInstance_63 (by decide) ?_
      refine lv_goto (tgt := 68) hx hb dX6_isInstance_64 (by decide) ?_
      exact W.zret (v := (nI 1)) hx hb hr rfl (fun t ht hW => ⟨_, rfl, h, ht⟩) (fun q hq => by cases hq) dX6_isInstance_68
    refine lv_iload_n hx hb dX6_isInstance_33 rfl (lv_at hl 2 rfl) ?_
    refine fx_if_le (tgt := 49) hx hb h dX6_isInstance_34 (by decide) (fun h => ?_) (fun h => ?_)
    · refine lv_iconst (v := (nI 0)) hx hb dX6_isInstance_49 (by decide) ?_
      exact W.zret (v := (nI 0)) hx hb hr rfl (fun t ht hW => ⟨_, rfl, h, ht⟩) (fun q hq => by cases hq) dX6_isInstance_50
    refine lv_iload_n hx hb dX6_isInstance_37 rfl (lv_at hl 2 rfl) ?_
    refine lv_aload_n hx hb dX6_isInstance_38 rfl (lv_at hl 0 rfl) ?_
    refine va_get (D := fx_D X) (ci := 5) (v := .int s_o_tripleCount) (C := RX6) (T := TX6) (N := 17) hx hb hts im_X6_isInstance_X6 hown hK hP 0 rfl rfl 4 (by decide) k164 (fun _ h9 => h9) rfl dX6_isInstance_39 ?_
    refine fx_icmp_gt (tgt := 49) hx hb h dX6_isInstance_42 (by decide) (fun h => ?_) (fun h => ?_)
    · refine lv_iconst (v := (nI 0)) hx hb dX6_isInstance_49 (by decide) ?_
      exact W.zret (v := (nI 0)) hx hb hr rfl (fun t ht hW => ⟨_, rfl, h, ht⟩) (fun q hq => by cases hq) dX6_isInstance_50
    refine lv_iconst (v := (nI 1)) hx hb dX6_isInstance_45 (by decide) ?_
    refine lv_goto (tgt := 50) hx hb dX6_isInstance_46 (by decide) ?_
    exact W.zret (v := (nI 1)) hx hb hr rfl (fun t ht hW => ⟨_, rfl, h, ht⟩) (fun q hq => by cases hq) dX6_isInstance_50
  refine lv_iload_n hx hb dX6_isInstance_4 rfl (lv_at hl 2 rfl) ?_
  refine fx_if_le (tgt := 20) hx hb h dX6_isInstance_5 (by decide) (fun h => ?_) (fun h => ?_)
  · refine lv_iconst (v := (nI 0)) hx hb dX6_isInstance_20 (by decide) ?_
    exact W.zret (v := (nI 0)) hx hb hr rfl (fun t ht hW => ⟨_, rfl, h, ht⟩) (fun q hq => by cases hq) dX6_isInstance_21
  refine lv_iload_n hx hb dX6_isInstance_8 rfl (lv_at hl 2 rfl) ?_
  refine lv_aload_n hx hb dX6_isInstance_9 rfl (lv_at hl 0 rfl) ?_
  refine va_get (D := fx_D X) (ci := 5) (v := .int s_o_axiomCount) (C := RX6) (T := TX6) (N := 17) hx hb hts im_X6_isInstance_X6 hown hK hP 0 rfl rfl 2 (by decide) k160 (fun _ h9 => h9) rfl dX6_isInstance_10 ?_
  refine fx_icmp_gt (tgt := 20) hx hb h dX6_isInstance_13 (by decide) (fun h => ?_) (fun h => ?_)
  · refine lv_iconst (v := (nI 0)) hx hb dX6_isInstance_20 (by decide) ?_
    exact W.zret (v := (nI 0)) hx hb hr rfl (fun t ht hW => ⟨_, rfl, h, ht⟩) (fun q hq => by cases hq) dX6_isInstance_21
  refine lv_iconst (v := (nI 1)) hx hb dX6_isInstance_16 (by decide) ?_
  refine lv_goto (tgt := 21) hx hb dX6_isInstance_17 (by decide) ?_
  exact W.zret (v := (nI 1)) hx hb hr rfl (fun t ht hW => ⟨_, rfl, h, ht⟩) (fun q hq => by cases hq) dX6_isInstance_21

/-- X6_axiom: its walk -/
def wp_X6_axiom (post : Int32 → Int32 → (Nat → Int32) → Prop) (s_o_axiomCount : Int32) (f_o_axioms : Nat → Int32) (p1 : Int32) (p2 : Int32) (p3 : Int32) : Prop :=
  fx_jn1 (fun (x1 : Int32) => fx_br (p1 < (nI 1)) (post (-2) s_o_axiomCount f_o_axioms) (fx_br ((nI 10) < p1) (post (-2) s_o_axiomCount f_o_axioms) (wp_X6_isTerm (fun r3 => fx_br (r3 = 0) (post (-2) s_o_axiomCount f_o_axioms) (fx_br (x1 = 0) (wp_X6_isTerm (fun r22 => fx_br (r22 = 0) (post (-2) s_o_axiomCount f_o_axioms) (fx_br (s_o_axiomCount = (nI 100)) (post (-4) s_o_axiomCount f_o_axioms) (fx_nm (s_o_axiomCount + (nI 1)) (fun v23 => fx_nm ((nI 4) * v23) (fun v24 => fx_ix v24 404 (fun k40 => fx_nm (upd f_o_axioms k40 p1) (fun g25 => fx_nm ((nI 4) * v23) (fun v26 => fx_nm (v26 + (nI 1)) (fun v27 => fx_ix v27 404 (fun k39 => fx_nm (upd g25 k39 p2) (fun g28 => fx_nm ((nI 4) * v23) (fun v29 => fx_nm (v29 + (nI 2)) (fun v30 => fx_jn1 (fun (x31 : Int32) => fx_ix v30 404 (fun k38 => fx_nm (upd g28 k38 x31) (fun g33 => fx_nm ((nI 4) * v23) (fun v34 => fx_nm (v34 + (nI 3)) (fun v35 => fx_ix v35 404 (fun k37 => fx_nm (upd g33 k37 (nI 0)) (fun g36 => post v23 v23 g36))))))) (fun K32 => fx_br (x1 = 0) (K32 p3) (K32 (nI 0)))))))))))))))) p3) (fx_br (s_o_axiomCount = (nI 100)) (post (-4) s_o_axiomCount f_o_axioms) (fx_nm (s_o_axiomCount + (nI 1)) (fun v4 => fx_nm ((nI 4) * v4) (fun v5 => fx_ix v5 404 (fun k21 => fx_nm (upd f_o_axioms k21 p1) (fun g6 => fx_nm ((nI 4) * v4) (fun v7 => fx_nm (v7 + (nI 1)) (fun v8 => fx_ix v8 404 (fun k20 => fx_nm (upd g6 k20 p2) (fun g9 => fx_nm ((nI 4) * v4) (fun v10 => fx_nm (v10 + (nI 2)) (fun v11 => fx_jn1 (fun (x12 : Int32) => fx_ix v11 404 (fun k19 => fx_nm (upd g9 k19 x12) (fun g14 => fx_nm ((nI 4) * v4) (fun v15 => fx_nm (v15 + (nI 3)) (fun v16 => fx_ix v16 404 (fun k18 => fx_nm (upd g14 k18 (nI 0)) (fun g17 => post v4 v4 g17))))))) (fun K13 => fx_br (x1 = 0) (K13 p3) (K13 (nI 0))))))))))))))))) p2))) (fun K2 => fx_br (p1 = (nI 6)) (K2 (nI 1)) (fx_br (p1 = (nI 7)) (K2 (nI 1)) (fx_br (p1 = (nI 9)) (K2 (nI 1)) (K2 (nI 0)))))
theorem im_X6_axiom_X6 : ∀ w ∈ u_ws RX6 TX6 17, w ∈ wsX6_axiom := by decide +kernel
set_option maxHeartbeats 4000000 in
set_option maxRecDepth 100000 in
theorem cw_X6_axiom (l : Launch) (X : fx_X) (a_o : Nat) (a_o_phrases : Nat) (a_o_axioms : Nat) (a_o_triples : Nat) (a_o_rules : Nat) (a_o_instances : Nat) (a_o_counts : Nat) (a_o_premises : Nat) (a_o_stated : Nat) (a_o_marks : Nat) (a_o_text : Nat) (a_o_sizes : Nat) (a_o_places : Nat) (s_o_axiomCount : Int32) (s_o_tripleCount : Int32) (s_o_rows : Int32) (s_o_broken : Int32) (s_o_size : Int32) (f_o_axioms : Nat → Int32) (sz : Nat) (p1 : Int32) (p2 : Int32) (p3 : Int32) (post : Int32 → Int32 → (Nat → Int32) → Prop) (h : wp_X6_axiom post s_o_axiomCount f_o_axioms p1 p2 p3) : Met l yX6_axiom wsX6_axiom ({ frames := 1, cells := 0, slots := 0, locals := 20 }) (va_Pc [.ref a_o, .int p1, .int p2, .int p3] (fx_PW X [(a_o, .inr (5, [.ref a_o_phrases, .ref a_o_axioms, .int s_o_axiomCount, .ref a_o_triples, .int s_o_tripleCount, .ref a_o_rules, .ref a_o_instances, .ref a_o_counts, .ref a_o_premises, .int s_o_rows, .ref a_o_stated, .ref a_o_marks, .int s_o_broken, .ref a_o_text, .int s_o_size, .ref a_o_sizes, .ref a_o_places])), (a_o_axioms, .inl (fx_cI X, 404, .inl f_o_axioms))] sz)) (va_Qi (fun r (u : Int32 × (Nat → Int32)) => post r u.1 u.2) (fun (u : Int32 × (Nat → Int32)) t => fx_EW X (va_A [(a_o, .inr (5, [.ref a_o_phrases, .ref a_o_axioms, .int s_o_axiomCount, .ref a_o_triples, .int s_o_tripleCount, .ref a_o_rules, .ref a_o_instances, .ref a_o_counts, .ref a_o_premises, .int s_o_rows, .ref a_o_stated, .ref a_o_marks, .int s_o_broken, .ref a_o_text, .int s_o_size, .ref a_o_sizes, .ref a_o_places])), (a_o_axioms, .inl (fx_cI X, 404, .inl f_o_axioms))] sz) [(a_o, .inr (5, [.ref a_o_phrases, .ref a_o_axioms, .int u.1, .ref a_o_triples, .int s_o_tripleCount, .ref a_o_rules, .ref a_o_instances, .ref a_o_counts, .ref a_o_premises, .int s_o_rows, .ref a_o_stated, .ref a_o_marks, .int s_o_broken, .ref a_o_text, .int s_o_size, .ref a_o_sizes, .ref a_o_places])), (a_o_axioms, .inl (fx_cI X, 404, .inl u.2))] t) (va_A [(a_o, .inr (5, [.ref a_o_phrases, .ref a_o_axioms, .int s_o_axiomCount, .ref a_o_triples, .int s_o_tripleCount, .ref a_o_rules, .ref a_o_instances, .ref a_o_counts, .ref a_o_premises, .int s_o_rows, .ref a_o_stated, .ref a_o_marks, .int s_o_broken, .ref a_o_text, .int s_o_size, .ref a_o_sizes, .ref a_o_places])), (a_o_axioms, .inl (fx_cI X, 404, .inl f_o_axioms))] sz)) 0 0 (va_A [(a_o, .inr (5, [.ref a_o_phrases, .ref a_o_axioms, .int s_o_axiomCount, .ref a_o_triples, .int s_o_tripleCount, .ref a_o_rules, .ref a_o_instances, .ref a_o_counts, .ref a_o_premises, .int s_o_rows, .ref a_o_stated, .ref a_o_marks, .int s_o_broken, .ref a_o_text, .int s_o_size, .ref a_o_sizes, .ref a_o_places])), (a_o_axioms, .inl (fx_cI X, 404, .inl f_o_axioms))] sz) := by
  refine Met.ofW (cc := cX6_axiom) (maxL := 5) (ret := (some .int)) (by decide) rfl ?_
  intro p e s m args below meth c s₁ B hml hv
  obtain ⟨rfl, hsz, hP, hK, hD0, hG⟩ := hv
  have hx := B.exec
  have hb := B.bytes
  have hr := B.returns
  have hts := atoms_spec (ws := wsX6_axiom) B.pre
  have hown : s.vm.findClass RX6 = some m.cls := findClass_of_methodNamed B.named
  have hlocks := B.notSynchronized
  subst hsz
  have hD := hD0.self (sz := s.heap.size)
  generalize hAe : va_A [(a_o, .inr (5, [.ref a_o_phrases, .ref a_o_axioms, .int s_o_axiomCount, .ref a_o_triples, .int s_o_tripleCount, .ref a_o_rules, .ref a_o_instances, .ref a_o_counts, .ref a_o_premises, .int s_o_rows, .ref a_o_stated, .ref a_o_marks, .int s_o_broken, .ref a_o_text, .int s_o_size, .ref a_o_sizes, .ref a_o_places])), (a_o_axioms, .inl (fx_cI X, 404, .inl f_o_axioms))] s.heap.size = A at hD hG ⊢
  have hA : ∀ q : Nat, s.heap.size ≤ q → A q := fun q h => by rw [← hAe]; exact Or.inr h
  have hS : va_S A s.heap s.heap [] := va_S.rf
  have k160 := hts (.fieldLink RX6 160 "ProofCheckerModel" "axiomCount" "I") (by decide +kernel)
  have k121 := hts (.fieldLink RX6 121 "ProofCheckerModel" "axioms" "[I") (by decide +kernel)
  have hl := lv_entry ([.ref a_o, .int p1, .int p2, .int p3]) (n := 5) (Nat.le_of_ble_eq_true rfl)
  rw [lg_entry_eq]
  generalize (lg_sl ([.ref a_o, .int p1, .int p2, .int p3]) ++ List.replicate (5 - (lg_sl ([.ref a_o, .int p1, .int p2, .int p3])).length) Slot.unset).toArray = ls at hl ⊢
  have hl : lv_has ls 5 [(0, .ref a_o), (1, .int p1), (2, .int p2), (3, .int p3)] := hl
  unfold wp_X6_axiom at h
  refine lv_iload_n hx hb dX6_axiom_0 rfl (lv_at hl 1 rfl) ?_
  refine lv_bipush (v := (nI 6)) hx hb dX6_axiom_1 (by decide) ?_
  refine fx_join1 (G := fun (x1 : Int32) (R : Room) (av : Array Value) (Q : State → Prop) => ∀ (H : Heap) (locs : List Loc) (ls : Array Slot), va_P (fx_D X) vwCl [(a_o, .inr (5, [.ref a_o_phrases, .ref a_o_axioms, .int s_o_axiomCount, .ref a_o_triples, .int s_o_tripleCount, .ref a_o_rules, .ref a_o_instances, .ref a_o_counts, .ref a_o_premises, .int s_o_rows, .ref a_o_stated, .ref a_o_marks, .int s_o_broken, .ref a_o_text, .int s_o_size, .ref a_o_sizes, .ref a_o_places])), (a_o_axioms, .inl (fx_cI X, 404, .inl f_o_axioms))] H → va_D A [(a_o, .inr (5, [.ref a_o_phrases, .ref a_o_axioms, .int s_o_axiomCount, .ref a_o_triples, .int s_o_tripleCount, .ref a_o_rules, .ref a_o_instances, .ref a_o_counts, .ref a_o_premises, .int s_o_rows, .ref a_o_stated, .ref a_o_marks, .int s_o_broken, .ref a_o_text, .int s_o_size, .ref a_o_sizes, .ref a_o_places])), (a_o_axioms, .inl (fx_cI X, 404, .inl f_o_axioms))] → va_S A s.heap H locs → lv_has ls 5 [(0, .ref a_o), (1, .int p1), (2, .int p2), (3, .int p3)] → W p l e R s m av below meth c H locs 0 0 Q (F0 m 23 ls [.int x1])) h (fun x1 h => ?_) (fun K2 hK2 h => ?_)
  · intro H locs ls hP hD hS hl
    refine lv_istore (lv' := [(4, .int x1), (0, .ref a_o), (1, .int p1), (2, .int p2), (3, .int p3)]) hx hb dX6_axiom_23 hl (by decide) rfl (fun ls hl => ?_)
    refine lv_iload_n hx hb dX6_axiom_25 rfl (lv_at hl 2 rfl) ?_
    refine lv_iconst (v := (nI 1)) hx hb dX6_axiom_26 (by decide) ?_
    refine fx_icmp_lt (tgt := 55) hx hb h dX6_axiom_27 (by decide) (fun h => ?_) (fun h => ?_)
    · refine lv_bipush (v := (-2)) hx hb dX6_axiom_55 (by decide) ?_
      exact W.iret (v := (-2)) hx hb hr  (fun t ht hW => ⟨⟨(-2), (s_o_axiomCount, f_o_axioms), rfl, h, by rw [ht]; exact hP, va_K.moved hW.alike hK, hD⟩, hS.F ht⟩) hS.2.2 dX6_axiom_57
    refine lv_iload_n hx hb dX6_axiom_30 rfl (lv_at hl 2 rfl) ?_
    refine lv_bipush (v := (nI 10)) hx hb dX6_axiom_31 (by decide) ?_
    refine fx_icmp_gt (tgt := 55) hx hb h dX6_axiom_33 (by decide) (fun h => ?_) (fun h => ?_)
    · refine lv_bipush (v := (-2)) hx hb dX6_axiom_55 (by decide) ?_
      exact W.iret (v := (-2)) hx hb hr  (fun t ht hW => ⟨⟨(-2), (s_o_axiomCount, f_o_axioms), rfl, h, by rw [ht]; exact hP, va_K.moved hW.alike hK, hD⟩, hS.F ht⟩) hS.2.2 dX6_axiom_57
    refine lv_iload_n hx hb dX6_axiom_36 rfl (lv_at hl 3 rfl) ?_
    refine vp_callSi (W.runS (As := [.int p2]) (rest := []) ⟨hx, hb, hml, hown, hts⟩ (cw_X6_isTerm l X   p2 _ h) (va_cwS 1 hts gX6_axiom_X6_isTerm rfl rfl rfl (by decide +kernel) ⟨Nat.le_of_ble_eq_true rfl, Nat.le_of_ble_eq_true rfl⟩) (fx_ps (wc := []) hP hK hG hS [] rfl) rfl rfl hl.1 rfl (lv_room (Nat.le_of_ble_eq_true rfl)) dX6_axiom_37 ⟨Nat.le_of_ble_eq_true rfl, Nat.le_of_ble_eq_true rfl⟩) (fun r3 h => ?_)
    refine fx_if_eq (tgt := 55) hx hb h dX6_axiom_40 (by decide) (fun h => ?_) (fun h => ?_)
    · refine lv_bipush (v := (-2)) hx hb dX6_axiom_55 (by decide) ?_
      exact W.iret (v := (-2)) hx hb hr  (fun t ht hW => ⟨⟨(-2), (s_o_axiomCount, f_o_axioms), rfl, h, by rw [ht]; exact hP, va_K.moved hW.alike hK, hD⟩, hS.F ht⟩) hS.2.2 dX6_axiom_57
    refine lv_iload hx hb dX6_axiom_43 (lv_at hl 0 rfl) ?_
    refine fx_if_ne (tgt := 58) hx hb h dX6_axiom_45 (by decide) (fun h => ?_) (fun h => ?_)
    · refine lv_aload_n hx hb dX6_axiom_58 rfl (lv_at hl 1 rfl) ?_
      refine va_get (D := fx_D X) (ci := 5) (v := .int s_o_axiomCount) (C := RX6) (T := TX6) (N := 17) hx hb hts im_X6_axiom_X6 hown hK hP 0 rfl rfl 2 (by decide) k160 (fun _ h9 => h9) rfl dX6_axiom_59 ?_
      refine lv_bipush (v := (nI 100)) hx hb dX6_axiom_62 (by decide) ?_
      refine fx_icmp_ne (tgt := 70) hx hb h dX6_axiom_64 (by decide) (fun h => ?_) (fun h => ?_)
      · refine lv_aload_n hx hb dX6_axiom_70 rfl (lv_at hl 1 rfl) ?_
        refine lv_dup hx hb dX6_axiom_71 rfl ?_
        refine va_get (D := fx_D X) (ci := 5) (v := .int s_o_axiomCount) (C := RX6) (T := TX6) (N := 17) hx hb hts im_X6_axiom_X6 hown hK hP 0 rfl rfl 2 (by decide) k160 (fun _ h9 => h9) rfl dX6_axiom_72 ?_
        refine lv_iconst (v := (nI 1)) hx hb dX6_axiom_75 (by decide) ?_
        refine fx_iadd hx hb h dX6_axiom_76 (fun v4 h => ?_)
        refine va_put (D := fx_D X) (ci := 5) (v := .int v4) (ty := .int) (C := RX6) (T := TX6) (N := 17) hx hb hts im_X6_axiom_X6 tyX6 tyX6_ok nmX6 hown hK hP hD hS 0 rfl rfl 2 (by decide) k160 (fun _ h9 => h9) rfl (by decide +kernel) rfl rfl (Nat.le_of_ble_eq_true rfl) dX6_axiom_77 (fun H locs hP hD hS => ?_)
        have hP : va_P (fx_D X) vwCl [(a_o, .inr (5, [.ref a_o_phrases, .ref a_o_axioms, .int v4, .ref a_o_triples, .int s_o_tripleCount, .ref a_o_rules, .ref a_o_instances, .ref a_o_counts, .ref a_o_premises, .int s_o_rows, .ref a_o_stated, .ref a_o_marks, .int s_o_broken, .ref a_o_text, .int s_o_size, .ref a_o_sizes, .ref a_o_places])), (a_o_axioms, .inl (fx_cI X, 404, .inl f_o_axioms))] H := hP
        have hD : va_D A [(a_o, .inr (5, [.ref a_o_phrases, .ref a_o_axioms, .int v4, .ref a_o_triples, .int s_o_tripleCount, .ref a_o_rules, .ref a_o_instances, .ref a_o_counts, .ref a_o_premises, .int s_o_rows, .ref a_o_stated, .ref a_o_marks, .int s_o_broken, .ref a_o_text, .int s_o_size, .ref a_o_sizes, .ref a_o_places])), (a_o_axioms, .inl (fx_cI X, 404, .inl f_o_axioms))] := hD
        refine lv_aload_n hx hb dX6_axiom_80 rfl (lv_at hl 1 rfl) ?_
        refine va_get (D := fx_D X) (ci := 5) (v := .ref a_o_axioms) (C := RX6) (T := TX6) (N := 17) hx hb hts im_X6_axiom_X6 hown hK hP 0 rfl rfl 1 (by decide) k121 (fun _ h9 => h9) rfl dX6_axiom_81 ?_
        refine lv_iconst (v := (nI 4)) hx hb dX6_axiom_84 (by decide) ?_
        refine lv_aload_n hx hb dX6_axiom_85 rfl (lv_at hl 1 rfl) ?_
        refine va_get (D := fx_D X) (ci := 5) (v := .int v4) (C := RX6) (T := TX6) (N := 17) hx hb hts im_X6_axiom_X6 hown hK hP 0 rfl rfl 2 (by decide) k160 (fun _ h9 => h9) rfl dX6_axiom_86 ?_
        refine fx_imul hx hb h dX6_axiom_89 (fun v5 h => ?_)
        refine lv_iload_n hx hb dX6_axiom_90 rfl (lv_at hl 2 rfl) ?_
        refine fx_iast hx hb hK hP hD hS 1 0 rfl rfl h dX6_axiom_91 (fun g6 => [(a_o, .inr (5, [.ref a_o_phrases, .ref a_o_axioms, .int v4, .ref a_o_triples, .int s_o_tripleCount, .ref a_o_rules, .ref a_o_instances, .ref a_o_counts, .ref a_o_premises, .int s_o_rows, .ref a_o_stated, .ref a_o_marks, .int s_o_broken, .ref a_o_text, .int s_o_size, .ref a_o_sizes, .ref a_o_places])), (a_o_axioms, .inl (fx_cI X, 404, .inl g6))]) (fun _ => rfl) (fun H locs g6 h hP hD hS => ?_)
        refine lv_aload_n hx hb dX6_axiom_92 rfl (lv_at hl 1 rfl) ?_
        refine va_get (D := fx_D X) (ci := 5) (v := .ref a_o_axioms) (C := RX6) (T := TX6) (N := 17) hx hb hts im_X6_axiom_X6 hown hK hP 0 rfl rfl 1 (by decide) k121 (fun _ h9 => h9) rfl dX6_axiom_93 ?_
        refine lv_iconst (v := (nI 4)) hx hb dX6_axiom_96 (by decide) ?_
        refine lv_aload_n hx hb dX6_axiom_97 rfl (lv_at hl 1 rfl) ?_
        refine va_get (D := fx_D X) (ci := 5) (v := .int v4) (C := RX6) (T := TX6) (N := 17) hx hb hts im_X6_axiom_X6 hown hK hP 0 rfl rfl 2 (by decide) k160 (fun _ h9 => h9) rfl dX6_axiom_98 ?_
        refine fx_imul hx hb h dX6_axiom_101 (fun v7 h => ?_)
        refine lv_iconst (v := (nI 1)) hx hb dX6_axiom_102 (by decide) ?_
        refine fx_iadd hx hb h dX6_axiom_103 (fun v8 h => ?_)
        refine lv_iload_n hx hb dX6_axiom_104 rfl (lv_at hl 3 rfl) ?_
        refine fx_iast hx hb hK hP hD hS 1 0 rfl rfl h dX6_axiom_105 (fun g9 => [(a_o, .inr (5, [.ref a_o_phrases, .ref a_o_axioms, .int v4, .ref a_o_triples, .int s_o_tripleCount, .ref a_o_rules, .ref a_o_instances, .ref a_o_counts, .ref a_o_premises, .int s_o_rows, .ref a_o_stated, .ref a_o_marks, .int s_o_broken, .ref a_o_text, .int s_o_size, .ref a_o_sizes, .ref a_o_places])), (a_o_axioms, .inl (fx_cI X, 404, .inl g9))]) (fun _ => rfl) (fun H locs g9 h hP hD hS => ?_)
        refine lv_aload_n hx hb dX6_axiom_106 rfl (lv_at hl 1 rfl) ?_
        refine va_get (D := fx_D X) (ci := 5) (v := .ref a_o_axioms) (C := RX6) (T := TX6) (N := 17) hx hb hts im_X6_axiom_X6 hown hK hP 0 rfl rfl 1 (by decide) k121 (fun _ h9 => h9) rfl dX6_axiom_107 ?_
        refine lv_iconst (v := (nI 4)) hx hb dX6_axiom_110 (by decide) ?_
        refine lv_aload_n hx hb dX6_axiom_111 rfl (lv_at hl 1 rfl) ?_
        refine va_get (D := fx_D X) (ci := 5) (v := .int v4) (C := RX6) (T := TX6) (N := 17) hx hb hts im_X6_axiom_X6 hown hK hP 0 rfl rfl 2 (by decide) k160 (fun _ h9 => h9) rfl dX6_axiom_112 ?_
        refine fx_imul hx hb h dX6_axiom_115 (fun v10 h => ?_)
        refine lv_iconst (v := (nI 2)) hx hb dX6_axiom_116 (by decide) ?_
        refine fx_iadd hx hb h dX6_axiom_117 (fun v11 h => ?_)
        refine lv_iload hx hb dX6_axiom_118 (lv_at hl 0 rfl) ?_
        refine fx_join1 (G := fun (x12 : Int32) (R : Room) (av : Array Value) (Q : State → Prop) => ∀ (H : Heap) (locs : List Loc) (ls : Array Slot), va_P (fx_D X) vwCl [(a_o, .inr (5, [.ref a_o_phrases, .ref a_o_axioms, .int v4, .ref a_o_triples, .int s_o_tripleCount, .ref a_o_rules, .ref a_o_instances, .ref a_o_counts, .ref a_o_premises, .int s_o_rows, .ref a_o_stated, .ref a_o_marks, .int s_o_broken, .ref a_o_text, .int s_o_size, .ref a_o_sizes, .ref a_o_places])), (a_o_axioms, .inl (fx_cI X, 404, .inl g9))] H → va_D A [(a_o, .inr (5, [.ref a_o_phrases, .ref a_o_axioms, .int v4, .ref a_o_triples, .int s_o_tripleCount, .ref a_o_rules, .ref a_o_instances, .ref a_o_counts, .ref a_o_premises, .int s_o_rows, .ref a_o_stated, .ref a_o_marks, .int s_o_broken, .ref a_o_text, .int s_o_size, .ref a_o_sizes, .ref a_o_places])), (a_o_axioms, .inl (fx_cI X, 404, .inl g9))] → va_S A s.heap H locs → lv_has ls 5 [(0, .ref a_o)] → W p l e R s m av below meth c H locs 0 0 Q (F0 m 128 ls [.int x12, .int v11, .ref a_o_axioms])) h (fun x12 h => ?_) (fun K13 hK13 h => ?_)
        · intro H locs ls hP hD hS hl
          refine fx_iast hx hb hK hP hD hS 1 0 rfl rfl h dX6_axiom_128 (fun g14 => [(a_o, .inr (5, [.ref a_o_phrases, .ref a_o_axioms, .int v4, .ref a_o_triples, .int s_o_tripleCount, .ref a_o_rules, .ref a_o_instances, .ref a_o_counts, .ref a_o_premises, .int s_o_rows, .ref a_o_stated, .ref a_o_marks, .int s_o_broken, .ref a_o_text, .int s_o_size, .ref a_o_sizes, .ref a_o_places])), (a_o_axioms, .inl (fx_cI X, 404, .inl g14))]) (fun _ => rfl) (fun H locs g14 h hP hD hS => ?_)
          refine lv_aload_n hx hb dX6_axiom_129 rfl (lv_at hl 0 rfl) ?_
          refine va_get (D := fx_D X) (ci := 5) (v := .ref a_o_axioms) (C := RX6) (T := TX6) (N := 17) hx hb hts im_X6_axiom_X6 hown hK hP 0 rfl rfl 1 (by decide) k121 (fun _ h9 => h9) rfl dX6_axiom_130 ?_
          refine lv_iconst (v := (nI 4)) hx hb dX6_axiom_133 (by decide) ?_
          refine lv_aload_n hx hb dX6_axiom_134 rfl (lv_at hl 0 rfl) ?_
          refine va_get (D := fx_D X) (ci := 5) (v := .int v4) (C := RX6) (T := TX6) (N := 17) hx hb hts im_X6_axiom_X6 hown hK hP 0 rfl rfl 2 (by decide) k160 (fun _ h9 => h9) rfl dX6_axiom_135 ?_
          refine fx_imul hx hb h dX6_axiom_138 (fun v15 h => ?_)
          refine lv_iconst (v := (nI 3)) hx hb dX6_axiom_139 (by decide) ?_
          refine fx_iadd hx hb h dX6_axiom_140 (fun v16 h => ?_)
          refine lv_iconst (v := (nI 0)) hx hb dX6_axiom_141 (by decide) ?_
          refine fx_iast hx hb hK hP hD hS 1 0 rfl rfl h dX6_axiom_142 (fun g17 => [(a_o, .inr (5, [.ref a_o_phrases, .ref a_o_axioms, .int v4, .ref a_o_triples, .int s_o_tripleCount, .ref a_o_rules, .ref a_o_instances, .ref a_o_counts, .ref a_o_premises, .int s_o_rows, .ref a_o_stated, .ref a_o_marks, .int s_o_broken, .ref a_o_text, .int s_o_size, .ref a_o_sizes, .ref a_o_places])), (a_o_axioms, .inl (fx_cI X, 404, .inl g17))]) (fun _ => rfl) (fun H locs g17 h hP hD hS => ?_)
          refine lv_aload_n hx hb dX6_axiom_143 rfl (lv_at hl 0 rfl) ?_
          refine va_get (D := fx_D X) (ci := 5) (v := .int v4) (C := RX6) (T := TX6) (N := 17) hx hb hts im_X6_axiom_X6 hown hK hP 0 rfl rfl 2 (by decide) k160 (fun _ h9 => h9) rfl dX6_axiom_144 ?_
          exact W.iret (v := v4) hx hb hr  (fun t ht hW => ⟨⟨v4, (v4, g17), rfl, h, by rw [ht]; exact hP, va_K.moved hW.alike hK, hD⟩, hS.F ht⟩) hS.2.2 dX6_axiom_147
        refine fx_if_eq (tgt := 127) hx hb h dX6_axiom_120 (by decide) (fun h => ?_) (fun h => ?_)
        · refine lv_iload_n hx hb dX6_axiom_127 rfl (lv_at hl 4 rfl) ?_
          exact hK13 _ h _ _ _ hP hD hS (lv_sub hl [1] rfl)
        refine lv_iconst (v := (nI 0)) hx hb dX6_axiom_123 (by decide) ?_
        refine lv_goto (tgt := 128) hx hb dX6_axiom_124 (by decide) ?_
        exact hK13 _ h _ _ _ hP hD hS (lv_sub hl [1] rfl)
      refine lv_bipush (v := (-4)) hx hb dX6_axiom_67 (by decide) ?_
      exact W.iret (v := (-4)) hx hb hr  (fun t ht hW => ⟨⟨(-4), (s_o_axiomCount, f_o_axioms), rfl, h, by rw [ht]; exact hP, va_K.moved hW.alike hK, hD⟩, hS.F ht⟩) hS.2.2 dX6_axiom_69
    refine lv_iload_n hx hb dX6_axiom_48 rfl (lv_at hl 4 rfl) ?_
    refine vp_callSi (W.runS (As := [.int p3]) (rest := []) ⟨hx, hb, hml, hown, hts⟩ (cw_X6_isTerm l X   p3 _ h) (va_cwS 1 hts gX6_axiom_X6_isTerm rfl rfl rfl (by decide +kernel) ⟨Nat.le_of_ble_eq_true rfl, Nat.le_of_ble_eq_true rfl⟩) (fx_ps (wc := []) hP hK hG hS [] rfl) rfl rfl hl.1 rfl (lv_room (Nat.le_of_ble_eq_true rfl)) dX6_axiom_49 ⟨Nat.le_of_ble_eq_true rfl, Nat.le_of_ble_eq_true rfl⟩) (fun r22 h => ?_)
    refine fx_if_ne (tgt := 58) hx hb h dX6_axiom_52 (by decide) (fun h => ?_) (fun h => ?_)
    · refine lv_aload_n hx hb dX6_axiom_58 rfl (lv_at hl 1 rfl) ?_
      refine va_get (D := fx_D X) (ci := 5) (v := .int s_o_axiomCount) (C := RX6) (T := TX6) (N := 17) hx hb hts im_X6_axiom_X6 hown hK hP 0 rfl rfl 2 (by decide) k160 (fun _ h9 => h9) rfl dX6_axiom_59 ?_
      refine lv_bipush (v := (nI 100)) hx hb dX6_axiom_62 (by decide) ?_
      refine fx_icmp_ne (tgt := 70) hx hb h dX6_axiom_64 (by decide) (fun h => ?_) (fun h => ?_)
      · refine lv_aload_n hx hb dX6_axiom_70 rfl (lv_at hl 1 rfl) ?_
        refine lv_dup hx hb dX6_axiom_71 rfl ?_
        refine va_get (D := fx_D X) (ci := 5) (v := .int s_o_axiomCount) (C := RX6) (T := TX6) (N := 17) hx hb hts im_X6_axiom_X6 hown hK hP 0 rfl rfl 2 (by decide) k160 (fun _ h9 => h9) rfl dX6_axiom_72 ?_
        refine lv_iconst (v := (nI 1)) hx hb dX6_axiom_75 (by decide) ?_
        refine fx_iadd hx hb h dX6_axiom_76 (fun v23 h => ?_)
        refine va_put (D := fx_D X) (ci := 5) (v := .int v23) (ty := .int) (C := RX6) (T := TX6) (N := 17) hx hb hts im_X6_axiom_X6 tyX6 tyX6_ok nmX6 hown hK hP hD hS 0 rfl rfl 2 (by decide) k160 (fun _ h9 => h9) rfl (by decide +kernel) rfl rfl (Nat.le_of_ble_eq_true rfl) dX6_axiom_77 (fun H locs hP hD hS => ?_)
        have hP : va_P (fx_D X) vwCl [(a_o, .inr (5, [.ref a_o_phrases, .ref a_o_axioms, .int v23, .ref a_o_triples, .int s_o_tripleCount, .ref a_o_rules, .ref a_o_instances, .ref a_o_counts, .ref a_o_premises, .int s_o_rows, .ref a_o_stated, .ref a_o_marks, .int s_o_broken, .ref a_o_text, .int s_o_size, .ref a_o_sizes, .ref a_o_places])), (a_o_axioms, .inl (fx_cI X, 404, .inl f_o_axioms))] H := hP
        have hD : va_D A [(a_o, .inr (5, [.ref a_o_phrases, .ref a_o_axioms, .int v23, .ref a_o_triples, .int s_o_tripleCount, .ref a_o_rules, .ref a_o_instances, .ref a_o_counts, .ref a_o_premises, .int s_o_rows, .ref a_o_stated, .ref a_o_marks, .int s_o_broken, .ref a_o_text, .int s_o_size, .ref a_o_sizes, .ref a_o_places])), (a_o_axioms, .inl (fx_cI X, 404, .inl f_o_axioms))] := hD
        refine lv_aload_n hx hb dX6_axiom_80 rfl (lv_at hl 1 rfl) ?_
        refine va_get (D := fx_D X) (ci := 5) (v := .ref a_o_axioms) (C := RX6) (T := TX6) (N := 17) hx hb hts im_X6_axiom_X6 hown hK hP 0 rfl rfl 1 (by decide) k121 (fun _ h9 => h9) rfl dX6_axiom_81 ?_
        refine lv_iconst (v := (nI 4)) hx hb dX6_axiom_84 (by decide) ?_
        refine lv_aload_n hx hb dX6_axiom_85 rfl (lv_at hl 1 rfl) ?_
        refine va_get (D := fx_D X) (ci := 5) (v := .int v23) (C := RX6) (T := TX6) (N := 17) hx hb hts im_X6_axiom_X6 hown hK hP 0 rfl rfl 2 (by decide) k160 (fun _ h9 => h9) rfl dX6_axiom_86 ?_
        refine fx_imul hx hb h dX6_axiom_89 (fun v24 h => ?_)
        refine lv_iload_n hx hb dX6_axiom_90 rfl (lv_at hl 2 rfl) ?_
        refine fx_iast hx hb hK hP hD hS 1 0 rfl rfl h dX6_axiom_91 (fun g25 => [(a_o, .inr (5, [.ref a_o_phrases, .ref a_o_axioms, .int v23, .ref a_o_triples, .int s_o_tripleCount, .ref a_o_rules, .ref a_o_instances, .ref a_o_counts, .ref a_o_premises, .int s_o_rows, .ref a_o_stated, .ref a_o_marks, .int s_o_broken, .ref a_o_text, .int s_o_size, .ref a_o_sizes, .ref a_o_places])), (a_o_axioms, .inl (fx_cI X, 404, .inl g25))]) (fun _ => rfl) (fun H locs g25 h hP hD hS => ?_)
        refine lv_aload_n hx hb dX6_axiom_92 rfl (lv_at hl 1 rfl) ?_
        refine va_get (D := fx_D X) (ci := 5) (v := .ref a_o_axioms) (C := RX6) (T := TX6) (N := 17) hx hb hts im_X6_axiom_X6 hown hK hP 0 rfl rfl 1 (by decide) k121 (fun _ h9 => h9) rfl dX6_axiom_93 ?_
        refine lv_iconst (v := (nI 4)) hx hb dX6_axiom_96 (by decide) ?_
        refine lv_aload_n hx hb dX6_axiom_97 rfl (lv_at hl 1 rfl) ?_
        refine va_get (D := fx_D X) (ci := 5) (v := .int v23) (C := RX6) (T := TX6) (N := 17) hx hb hts im_X6_axiom_X6 hown hK hP 0 rfl rfl 2 (by decide) k160 (fun _ h9 => h9) rfl dX6_axiom_98 ?_
        refine fx_imul hx hb h dX6_axiom_101 (fun v26 h => ?_)
        refine lv_iconst (v := (nI 1)) hx hb dX6_axiom_102 (by decide) ?_
        refine fx_iadd hx hb h dX6_axiom_103 (fun v27 h => ?_)
        refine lv_iload_n hx hb dX6_axiom_104 rfl (lv_at hl 3 rfl) ?_
        refine fx_iast hx hb hK hP hD hS 1 0 rfl rfl h dX6_axiom_105 (fun g28 => [(a_o, .inr (5, [.ref a_o_phrases, .ref a_o_axioms, .int v23, .ref a_o_triples, .int s_o_tripleCount, .ref a_o_rules, .ref a_o_instances, .ref a_o_counts, .ref a_o_premises, .int s_o_rows, .ref a_o_stated, .ref a_o_marks, .int s_o_broken, .ref a_o_text, .int s_o_size, .ref a_o_sizes, .ref a_o_places])), (a_o_axioms, .inl (fx_cI X, 404, .inl g28))]) (fun _ => rfl) (fun H locs g28 h hP hD hS => ?_)
        refine lv_aload_n hx hb dX6_axiom_106 rfl (lv_at hl 1 rfl) ?_
        refine va_get (D := fx_D X) (ci := 5) (v := .ref a_o_axioms) (C := RX6) (T := TX6) (N := 17) hx hb hts im_X6_axiom_X6 hown hK hP 0 rfl rfl 1 (by decide) k121 (fun _ h9 => h9) rfl dX6_axiom_107 ?_
        refine lv_iconst (v := (nI 4)) hx hb dX6_axiom_110 (by decide) ?_
        refine lv_aload_n hx hb dX6_axiom_111 rfl (lv_at hl 1 rfl) ?_
        refine va_get (D := fx_D X) (ci := 5) (v := .int v23) (C := RX6) (T := TX6) (N := 17) hx hb hts im_X6_axiom_X6 hown hK hP 0 rfl rfl 2 (by decide) k160 (fun _ h9 => h9) rfl dX6_axiom_112 ?_
        refine fx_imul hx hb h dX6_axiom_115 (fun v29 h => ?_)
        refine lv_iconst (v := (nI 2)) hx hb dX6_axiom_116 (by decide) ?_
        refine fx_iadd hx hb h dX6_axiom_117 (fun v30 h => ?_)
        refine lv_iload hx hb dX6_axiom_118 (lv_at hl 0 rfl) ?_
        refine fx_join1 (G := fun (x31 : Int32) (R : Room) (av : Array Value) (Q : State → Prop) => ∀ (H : Heap) (locs : List Loc) (ls : Array Slot), va_P (fx_D X) vwCl [(a_o, .inr (5, [.ref a_o_phrases, .ref a_o_axioms, .int v23, .ref a_o_triples, .int s_o_tripleCount, .ref a_o_rules, .ref a_o_instances, .ref a_o_counts, .ref a_o_premises, .int s_o_rows, .ref a_o_stated, .ref a_o_marks, .int s_o_broken, .ref a_o_text, .int s_o_size, .ref a_o_sizes, .ref a_o_places])), (a_o_axioms, .inl (fx_cI X, 404, .inl g28))] H → va_D A [(a_o, .inr (5, [.ref a_o_phrases, .ref a_o_axioms, .int v23, .ref a_o_triples, .int s_o_tripleCount, .ref a_o_rules, .ref a_o_instances, .ref a_o_counts, .ref a_o_premises, .int s_o_rows, .ref a_o_stated, .ref a_o_marks, .int s_o_broken, .ref a_o_text, .int s_o_size, .ref a_o_sizes, .ref a_o_places])), (a_o_axioms, .inl (fx_cI X, 404, .inl g28))] → va_S A s.heap H locs → lv_has ls 5 [(0, .ref a_o)] → W p l e R s m av below meth c H locs 0 0 Q (F0 m 128 ls [.int x31, .int v30, .ref a_o_axioms])) h (fun x31 h => ?_) (fun K32 hK32 h => ?_)
        · intro H locs ls hP hD hS hl
          refine fx_iast hx hb hK hP hD hS 1 0 rfl rfl h dX6_axiom_128 (fun g33 => [(a_o, .inr (5, [.ref a_o_phrases, .ref a_o_axioms, .int v23, .ref a_o_triples, .int s_o_tripleCount, .ref a_o_rules, .ref a_o_instances, .ref a_o_counts, .ref a_o_premises, .int s_o_rows, .ref a_o_stated, .ref a_o_marks, .int s_o_broken, .ref a_o_text, .int s_o_size, .ref a_o_sizes, .ref a_o_places])), (a_o_axioms, .inl (fx_cI X, 404, .inl g33))]) (fun _ => rfl) (fun H locs g33 h hP hD hS => ?_)
          refine lv_aload_n hx hb dX6_axiom_129 rfl (lv_at hl 0 rfl) ?_
          refine va_get (D := fx_D X) (ci := 5) (v := .ref a_o_axioms) (C := RX6) (T := TX6) (N := 17) hx hb hts im_X6_axiom_X6 hown hK hP 0 rfl rfl 1 (by decide) k121 (fun _ h9 => h9) rfl dX6_axiom_130 ?_
          refine lv_iconst (v := (nI 4)) hx hb dX6_axiom_133 (by decide) ?_
          refine lv_aload_n hx hb dX6_axiom_134 rfl (lv_at hl 0 rfl) ?_
          refine va_get (D := fx_D X) (ci := 5) (v := .int v23) (C := RX6) (T := TX6) (N := 17) hx hb hts im_X6_axiom_X6 hown hK hP 0 rfl rfl 2 (by decide) k160 (fun _ h9 => h9) rfl dX6_axiom_135 ?_
          refine fx_imul hx hb h dX6_axiom_138 (fun v34 h => ?_)
          refine lv_iconst (v := (nI 3)) hx hb dX6_axiom_139 (by decide) ?_
          refine fx_iadd hx hb h dX6_axiom_140 (fun v35 h => ?_)
          refine lv_iconst (v := (nI 0)) hx hb dX6_axiom_141 (by decide) ?_
          refine fx_iast hx hb hK hP hD hS 1 0 rfl rfl h dX6_axiom_142 (fun g36 => [(a_o, .inr (5, [.ref a_o_phrases, .ref a_o_axioms, .int v23, .ref a_o_triples, .int s_o_tripleCount, .ref a_o_rules, .ref a_o_instances, .ref a_o_counts, .ref a_o_premises, .int s_o_rows, .ref a_o_stated, .ref a_o_marks, .int s_o_broken, .ref a_o_text, .int s_o_size, .ref a_o_sizes, .ref a_o_places])), (a_o_axioms, .inl (fx_cI X, 404, .inl g36))]) (fun _ => rfl) (fun H locs g36 h hP hD hS => ?_)
          refine lv_aload_n hx hb dX6_axiom_143 rfl (lv_at hl 0 rfl) ?_
          refine va_get (D := fx_D X) (ci := 5) (v := .int v23) (C := RX6) (T := TX6) (N := 17) hx hb hts im_X6_axiom_X6 hown hK hP 0 rfl rfl 2 (by decide) k160 (fun _ h9 => h9) rfl dX6_axiom_144 ?_
          exact W.iret (v := v23) hx hb hr  (fun t ht hW => ⟨⟨v23, (v23, g36), rfl, h, by rw [ht]; exact hP, va_K.moved hW.alike hK, hD⟩, hS.F ht⟩) hS.2.2 dX6_axiom_147
        refine fx_if_eq (tgt := 127) hx hb h dX6_axiom_120 (by decide) (fun h => ?_) (fun h => ?_)
        · refine lv_iload_n hx hb dX6_axiom_127 rfl (lv_at hl 4 rfl) ?_
          exact hK32 _ h _ _ _ hP hD hS (lv_sub hl [1] rfl)
        refine lv_iconst (v := (nI 0)) hx hb dX6_axiom_123 (by decide) ?_
        refine lv_goto (tgt := 128) hx hb dX6_axiom_124 (by decide) ?_
        exact hK32 _ h _ _ _ hP hD hS (lv_sub hl [1] rfl)
      refine lv_bipush (v := (-4)) hx hb dX6_axiom_67 (by decide) ?_
      exact W.iret (v := (-4)) hx hb hr  (fun t ht hW => ⟨⟨(-4), (s_o_axiomCount, f_o_axioms), rfl, h, by rw [ht]; exact hP, va_K.moved hW.alike hK, hD⟩, hS.F ht⟩) hS.2.2 dX6_axiom_69
    refine lv_bipush (v := (-2)) hx hb dX6_axiom_55 (by decide) ?_
    exact W.iret (v := (-2)) hx hb hr  (fun t ht hW => ⟨⟨(-2), (s_o_axiomCount, f_o_axioms), rfl, h, by rw [ht]; exact hP, va_K.moved hW.alike hK, hD⟩, hS.F ht⟩) hS.2.2 dX6_axiom_57
  refine fx_icmp_eq (tgt := 18) hx hb h dX6_axiom_3 (by decide) (fun h => ?_) (fun h => ?_)
  · refine lv_iconst (v := (nI 1)) hx hb dX6_axiom_18 (by decide) ?_
    refine lv_goto (tgt := 23) hx hb dX6_axiom_19 (by decide) ?_
    exact hK2 _ h _ _ _ hP hD hS (lv_sub hl [0, 1, 2, 3] rfl)
  refine lv_iload_n hx hb dX6_axiom_6 rfl (lv_at hl 1 rfl) ?_
  refine lv_bipush (v := (nI 7)) hx hb dX6_axiom_7 (by decide) ?_
  refine fx_icmp_eq (tgt := 18) hx hb h dX6_axiom_9 (by decide) (fun h => ?_) (fun h => ?_)
  · refine lv_iconst (v := (nI 1)) hx hb dX6_axiom_18 (by decide) ?_
    refine lv_goto (tgt := 23) hx hb dX6_axiom_19 (by decide) ?_
    exact hK2 _ h _ _ _ hP hD hS (lv_sub hl [0, 1, 2, 3] rfl)
  refine lv_iload_n hx hb dX6_axiom_12 rfl (lv_at hl 1 rfl) ?_
  refine lv_bipush (v := (nI 9)) hx hb dX6_axiom_13 (by decide) ?_
  refine fx_icmp_ne (tgt := 22) hx hb h dX6_axiom_15 (by decide) (fun h => ?_) (fun h => ?_)
  · refine lv_iconst (v := (nI 0)) hx hb dX6_axiom_22 (by decide) ?_
    exact hK2 _ h _ _ _ hP hD hS (lv_sub hl [0, 1, 2, 3] rfl)
  refine lv_iconst (v := (nI 1)) hx hb dX6_axiom_18 (by decide) ?_
  refine lv_goto (tgt := 23) hx hb dX6_axiom_19 (by decide) ?_
  exact hK2 _ h _ _ _ hP hD hS (lv_sub hl [0, 1, 2, 3] rfl)

/-- X6_triple: its walk -/
def wp_X6_triple (post : Int32 → Int32 → (Nat → Int32) → Prop) (s_o_tripleCount : Int32) (f_o_triples : Nat → Int32) (p1 : Int32) (p2 : Int32) (p3 : Int32) : Prop :=
  wp_X6_isTerm (fun r1 => fx_br (r1 = 0) (post (-2) s_o_tripleCount f_o_triples) (wp_X6_isTerm (fun r2 => fx_br (r2 = 0) (post (-2) s_o_tripleCount f_o_triples) (wp_X6_isTerm (fun r3 => fx_br (r3 = 0) (post (-2) s_o_tripleCount f_o_triples) (fx_wh1 (fun (rec5 : Int32 → Prop) (x4 : Int32) => fx_br (s_o_tripleCount < x4) (fx_br (s_o_tripleCount = (nI 100)) (post (-4) s_o_tripleCount f_o_triples) (fx_nm (s_o_tripleCount + (nI 1)) (fun v6 => fx_nm ((nI 4) * v6) (fun v7 => fx_ix v7 404 (fun k21 => fx_nm (upd f_o_triples k21 (nI 11)) (fun g8 => fx_nm ((nI 4) * v6) (fun v9 => fx_nm (v9 + (nI 1)) (fun v10 => fx_ix v10 404 (fun k20 => fx_nm (upd g8 k20 p1) (fun g11 => fx_nm ((nI 4) * v6) (fun v12 => fx_nm (v12 + (nI 2)) (fun v13 => fx_ix v13 404 (fun k19 => fx_nm (upd g11 k19 p2) (fun g14 => fx_nm ((nI 4) * v6) (fun v15 => fx_nm (v15 + (nI 3)) (fun v16 => fx_ix v16 404 (fun k18 => fx_nm (upd g14 k18 p3) (fun g17 => post v6 v6 g17)))))))))))))))))) (fx_nm ((nI 4) * x4) (fun v22 => fx_nm (v22 + (nI 1)) (fun v23 => fx_ix v23 404 (fun k25 => fx_nm (f_o_triples k25) (fun v24 => fx_br (v24 = p1) (fx_nm ((nI 4) * x4) (fun v27 => fx_nm (v27 + (nI 2)) (fun v28 => fx_ix v28 404 (fun k30 => fx_nm (f_o_triples k30) (fun v29 => fx_br (v29 = p2) (fx_nm ((nI 4) * x4) (fun v32 => fx_nm (v32 + (nI 3)) (fun v33 => fx_ix v33 404 (fun k35 => fx_nm (f_o_triples k35) (fun v34 => fx_br (v34 = p3) (post x4 s_o_tripleCount f_o_triples) (fx_nm (x4 + (nI 1)) (fun v36 => rec5 v36))))))) (fx_nm (x4 + (nI 1)) (fun v31 => rec5 v31))))))) (fx_nm (x4 + (nI 1)) (fun v26 => rec5 v26)))))))) (nI 1))) p3)) p2)) p1
theorem im_X6_triple_X6 : ∀ w ∈ u_ws RX6 TX6 17, w ∈ wsX6_triple := by decide +kernel
set_option maxHeartbeats 4000000 in
set_option maxRecDepth 100000 in
theorem cw_X6_triple (l : Launch) (X : fx_X) (a_o : Nat) (a_o_phrases : Nat) (a_o_axioms : Nat) (a_o_triples : Nat) (a_o_rules : Nat) (a_o_instances : Nat) (a_o_counts : Nat) (a_o_premises : Nat) (a_o_stated : Nat) (a_o_marks : Nat) (a_o_text : Nat) (a_o_sizes : Nat) (a_o_places : Nat) (s_o_axiomCount : Int32) (s_o_tripleCount : Int32) (s_o_rows : Int32) (s_o_broken : Int32) (s_o_size : Int32) (f_o_triples : Nat → Int32) (sz : Nat) (p1 : Int32) (p2 : Int32) (p3 : Int32) (post : Int32 → Int32 → (Nat → Int32) → Prop) (h : wp_X6_triple post s_o_tripleCount f_o_triples p1 p2 p3) : Met l yX6_triple wsX6_triple ({ frames := 1, cells := 0, slots := 0, locals := 20 }) (va_Pc [.ref a_o, .int p1, .int p2, .int p3] (fx_PW X [(a_o, .inr (5, [.ref a_o_phrases, .ref a_o_axioms, .int s_o_axiomCount, .ref a_o_triples, .int s_o_tripleCount, .ref a_o_rules, .ref a_o_instances, .ref a_o_counts, .ref a_o_premises, .int s_o_rows, .ref a_o_stated, .ref a_o_marks, .int s_o_broken, .ref a_o_text, .int s_o_size, .ref a_o_sizes, .ref a_o_places])), (a_o_triples, .inl (fx_cI X, 404, .inl f_o_triples))] sz)) (va_Qi (fun r (u : Int32 × (Nat → Int32)) => post r u.1 u.2) (fun (u : Int32 × (Nat → Int32)) t => fx_EW X (va_A [(a_o, .inr (5, [.ref a_o_phrases, .ref a_o_axioms, .int s_o_axiomCount, .ref a_o_triples, .int s_o_tripleCount, .ref a_o_rules, .ref a_o_instances, .ref a_o_counts, .ref a_o_premises, .int s_o_rows, .ref a_o_stated, .ref a_o_marks, .int s_o_broken, .ref a_o_text, .int s_o_size, .ref a_o_sizes, .ref a_o_places])), (a_o_triples, .inl (fx_cI X, 404, .inl f_o_triples))] sz) [(a_o, .inr (5, [.ref a_o_phrases, .ref a_o_axioms, .int s_o_axiomCount, .ref a_o_triples, .int u.1, .ref a_o_rules, .ref a_o_instances, .ref a_o_counts, .ref a_o_premises, .int s_o_rows, .ref a_o_stated, .ref a_o_marks, .int s_o_broken, .ref a_o_text, .int s_o_size, .ref a_o_sizes, .ref a_o_places])), (a_o_triples, .inl (fx_cI X, 404, .inl u.2))] t) (va_A [(a_o, .inr (5, [.ref a_o_phrases, .ref a_o_axioms, .int s_o_axiomCount, .ref a_o_triples, .int s_o_tripleCount, .ref a_o_rules, .ref a_o_instances, .ref a_o_counts, .ref a_o_premises, .int s_o_rows, .ref a_o_stated, .ref a_o_marks, .int s_o_broken, .ref a_o_text, .int s_o_size, .ref a_o_sizes, .ref a_o_places])), (a_o_triples, .inl (fx_cI X, 404, .inl f_o_triples))] sz)) 0 0 (va_A [(a_o, .inr (5, [.ref a_o_phrases, .ref a_o_axioms, .int s_o_axiomCount, .ref a_o_triples, .int s_o_tripleCount, .ref a_o_rules, .ref a_o_instances, .ref a_o_counts, .ref a_o_premises, .int s_o_rows, .ref a_o_stated, .ref a_o_marks, .int s_o_broken, .ref a_o_text, .int s_o_size, .ref a_o_sizes, .ref a_o_places])), (a_o_triples, .inl (fx_cI X, 404, .inl f_o_triples))] sz) := by
  refine Met.ofW (cc := cX6_triple) (maxL := 5) (ret := (some .int)) (by decide) rfl ?_
  intro p e s m args below meth c s₁ B hml hv
  obtain ⟨rfl, hsz, hP, hK, hD0, hG⟩ := hv
  have hx := B.exec
  have hb := B.bytes
  have hr := B.returns
  have hts := atoms_spec (ws := wsX6_triple) B.pre
  have hown : s.vm.findClass RX6 = some m.cls := findClass_of_methodNamed B.named
  have hlocks := B.notSynchronized
  subst hsz
  have hD := hD0.self (sz := s.heap.size)
  generalize hAe : va_A [(a_o, .inr (5, [.ref a_o_phrases, .ref a_o_axioms, .int s_o_axiomCount, .ref a_o_triples, .int s_o_tripleCount, .ref a_o_rules, .ref a_o_instances, .ref a_o_counts, .ref a_o_premises, .int s_o_rows, .ref a_o_stated, .ref a_o_marks, .int s_o_broken, .ref a_o_text, .int s_o_size, .ref a_o_sizes, .ref a_o_places])), (a_o_triples, .inl (fx_cI X, 404, .inl f_o_triples))] s.heap.size = A at hD hG ⊢
  have hA : ∀ q : Nat, s.heap.size ≤ q → A q := fun q h => by rw [← hAe]; exact Or.inr h
  have hS : va_S A s.heap s.heap [] := va_S.rf
  have k164 := hts (.fieldLink RX6 164 "ProofCheckerModel" "tripleCount" "I") (by decide +kernel)
  have k125 := hts (.fieldLink RX6 125 "ProofCheckerModel" "triples" "[I") (by decide +kernel)
  have hl := lv_entry ([.ref a_o, .int p1, .int p2, .int p3]) (n := 5) (Nat.le_of_ble_eq_true rfl)
  rw [lg_entry_eq]
  generalize (lg_sl ([.ref a_o, .int p1, .int p2, .int p3]) ++ List.replicate (5 - (lg_sl ([.ref a_o, .int p1, .int p2, .int p3])).length) Slot.unset).toArray = ls at hl ⊢
  have hl : lv_has ls 5 [(0, .ref a_o), (1, .int p1), (2, .int p2), (3, .int p3)] := hl
  unfold wp_X6_triple at h
  refine lv_iload_n hx hb dX6_triple_0 rfl (lv_at hl 1 rfl) ?_
  refine vp_callSi (W.runS (As := [.int p1]) (rest := []) ⟨hx, hb, hml, hown, hts⟩ (cw_X6_isTerm l X   p1 _ h) (va_cwS 1 hts gX6_triple_X6_isTerm rfl rfl rfl (by decide +kernel) ⟨Nat.le_of_ble_eq_true rfl, Nat.le_of_ble_eq_true rfl⟩) (fx_ps (wc := []) hP hK hG hS [] rfl) rfl rfl hl.1 rfl (lv_room (Nat.le_of_ble_eq_true rfl)) dX6_triple_1 ⟨Nat.le_of_ble_eq_true rfl, Nat.le_of_ble_eq_true rfl⟩) (fun r1 h => ?_)
  refine fx_if_eq (tgt := 21) hx hb h dX6_triple_4 (by decide) (fun h => ?_) (fun h => ?_)
  · refine lv_bipush (v := (-2)) hx hb dX6_triple_21 (by decide) ?_
    exact W.iret (v := (-2)) hx hb hr  (fun t ht hW => ⟨⟨(-2), (s_o_tripleCount, f_o_triples), rfl, h, by rw [ht]; exact hP, va_K.moved hW.alike hK, hD⟩, hS.F ht⟩) hS.2.2 dX6_triple_23
  refine lv_iload_n hx hb dX6_triple_7 rfl (lv_at hl 2 rfl) ?_
  refine vp_callSi (W.runS (As := [.int p2]) (rest := []) ⟨hx, hb, hml, hown, hts⟩ (cw_X6_isTerm l X   p2 _ h) (va_cwS 1 hts gX6_triple_X6_isTerm rfl rfl rfl (by decide +kernel) ⟨Nat.le_of_ble_eq_true rfl, Nat.le_of_ble_eq_true rfl⟩) (fx_ps (wc := []) hP hK hG hS [] rfl) rfl rfl hl.1 rfl (lv_room (Nat.le_of_ble_eq_true rfl)) dX6_triple_8 ⟨Nat.le_of_ble_eq_true rfl, Nat.le_of_ble_eq_true rfl⟩) (fun r2 h => ?_)
  refine fx_if_eq (tgt := 21) hx hb h dX6_triple_11 (by decide) (fun h => ?_) (fun h => ?_)
  · refine lv_bipush (v := (-2)) hx hb dX6_triple_21 (by decide) ?_
    exact W.iret (v := (-2)) hx hb hr  (fun t ht hW => ⟨⟨(-2), (s_o_tripleCount, f_o_triples), rfl, h, by rw [ht]; exact hP, va_K.moved hW.alike hK, hD⟩, hS.F ht⟩) hS.2.2 dX6_triple_23
  refine lv_iload_n hx hb dX6_triple_14 rfl (lv_at hl 3 rfl) ?_
  refine vp_callSi (W.runS (As := [.int p3]) (rest := []) ⟨hx, hb, hml, hown, hts⟩ (cw_X6_isTerm l X   p3 _ h) (va_cwS 1 hts gX6_triple_X6_isTerm rfl rfl rfl (by decide +kernel) ⟨Nat.le_of_ble_eq_true rfl, Nat.le_of_ble_eq_true rfl⟩) (fx_ps (wc := []) hP hK hG hS [] rfl) rfl rfl hl.1 rfl (lv_room (Nat.le_of_ble_eq_true rfl)) dX6_triple_15 ⟨Nat.le_of_ble_eq_true rfl, Nat.le_of_ble_eq_true rfl⟩) (fun r3 h => ?_)
  refine fx_if_ne (tgt := 24) hx hb h dX6_triple_18 (by decide) (fun h => ?_) (fun h => ?_)
  · refine lv_iconst (v := (nI 1)) hx hb dX6_triple_24 (by decide) ?_
    refine lv_istore (lv' := [(4, .int (nI 1)), (0, .ref a_o), (1, .int p1), (2, .int p2), (3, .int p3)]) hx hb dX6_triple_25 hl (by decide) rfl (fun ls hl => ?_)
    refine fx_loop1 (G := fun (x4 : Int32) => ∀ (H : Heap) (locs : List Loc) (ls : Array Slot), va_P (fx_D X) vwCl [(a_o, .inr (5, [.ref a_o_phrases, .ref a_o_axioms, .int s_o_axiomCount, .ref a_o_triples, .int s_o_tripleCount, .ref a_o_rules, .ref a_o_instances, .ref a_o_counts, .ref a_o_premises, .int s_o_rows, .ref a_o_stated, .ref a_o_marks, .int s_o_broken, .ref a_o_text, .int s_o_size, .ref a_o_sizes, .ref a_o_places])), (a_o_triples, .inl (fx_cI X, 404, .inl f_o_triples))] H → va_D A [(a_o, .inr (5, [.ref a_o_phrases, .ref a_o_axioms, .int s_o_axiomCount, .ref a_o_triples, .int s_o_tripleCount, .ref a_o_rules, .ref a_o_instances, .ref a_o_counts, .ref a_o_premises, .int s_o_rows, .ref a_o_stated, .ref a_o_marks, .int s_o_broken, .ref a_o_text, .int s_o_size, .ref a_o_sizes, .ref a_o_places])), (a_o_triples, .inl (fx_cI X, 404, .inl f_o_triples))] → va_S A s.heap H locs → lv_has ls 5 [(4, .int x4), (0, .ref a_o), (1, .int p1), (2, .int p2), (3, .int p3)] → W p l e _ s m _ below meth c H locs _ _ _ (F0 m 27 ls [])) (fun rec5 hrec5 x4 h => ?_) h _ _ _ hP hD hS (lv_sub hl [0, 1, 2, 3, 4] rfl)
    intro H locs ls hP hD hS hl
    refine lv_iload hx hb dX6_triple_27 (lv_at hl 0 rfl) ?_
    refine lv_aload_n hx hb dX6_triple_29 rfl (lv_at hl 1 rfl) ?_
    refine va_get (D := fx_D X) (ci := 5) (v := .int s_o_tripleCount) (C := RX6) (T := TX6) (N := 17) hx hb hts im_X6_triple_X6 hown hK hP 0 rfl rfl 4 (by decide) k164 (fun _ h9 => h9) rfl dX6_triple_30 ?_
    refine fx_icmp_gt (tgt := 90) hx hb h dX6_triple_33 (by decide) (fun h => ?_) (fun h => ?_)
    · refine lv_aload_n hx hb dX6_triple_90 rfl (lv_at hl 1 rfl) ?_
      refine va_get (D := fx_D X) (ci := 5) (v := .int s_o_tripleCount) (C := RX6) (T := TX6) (N := 17) hx hb hts im_X6_triple_X6 hown hK hP 0 rfl rfl 4 (by decide) k164 (fun _ h9 => h9) rfl dX6_triple_91 ?_
      refine lv_bipush (v := (nI 100)) hx hb dX6_triple_94 (by decide) ?_
      refine fx_icmp_ne (tgt := 102) hx hb h dX6_triple_96 (by decide) (fun h => ?_) (fun h => ?_)
      · refine lv_aload_n hx hb dX6_triple_102 rfl (lv_at hl 1 rfl) ?_
        refine lv_dup hx hb dX6_triple_103 rfl ?_
        refine va_get (D := fx_D X) (ci := 5) (v := .int s_o_tripleCount) (C := RX6) (T := TX6) (N := 17) hx hb hts im_X6_triple_X6 hown hK hP 0 rfl rfl 4 (by decide) k164 (fun _ h9 => h9) rfl dX6_triple_104 ?_
        refine lv_iconst (v := (nI 1)) hx hb dX6_triple_107 (by decide) ?_
        refine fx_iadd hx hb h dX6_triple_108 (fun v6 h => ?_)
        refine va_put (D := fx_D X) (ci := 5) (v := .int v6) (ty := .int) (C := RX6) (T := TX6) (N := 17) hx hb hts im_X6_triple_X6 tyX6 tyX6_ok nmX6 hown hK hP hD hS 0 rfl rfl 4 (by decide) k164 (fun _ h9 => h9) rfl (by decide +kernel) rfl rfl (Nat.le_of_ble_eq_true rfl) dX6_triple_109 (fun H locs hP hD hS => ?_)
        have hP : va_P (fx_D X) vwCl [(a_o, .inr (5, [.ref a_o_phrases, .ref a_o_axioms, .int s_o_axiomCount, .ref a_o_triples, .int v6, .ref a_o_rules, .ref a_o_instances, .ref a_o_counts, .ref a_o_premises, .int s_o_rows, .ref a_o_stated, .ref a_o_marks, .int s_o_broken, .ref a_o_text, .int s_o_size, .ref a_o_sizes, .ref a_o_places])), (a_o_triples, .inl (fx_cI X, 404, .inl f_o_triples))] H := hP
        have hD : va_D A [(a_o, .inr (5, [.ref a_o_phrases, .ref a_o_axioms, .int s_o_axiomCount, .ref a_o_triples, .int v6, .ref a_o_rules, .ref a_o_instances, .ref a_o_counts, .ref a_o_premises, .int s_o_rows, .ref a_o_stated, .ref a_o_marks, .int s_o_broken, .ref a_o_text, .int s_o_size, .ref a_o_sizes, .ref a_o_places])), (a_o_triples, .inl (fx_cI X, 404, .inl f_o_triples))] := hD
        refine lv_aload_n hx hb dX6_triple_112 rfl (lv_at hl 1 rfl) ?_
        refine va_get (D := fx_D X) (ci := 5) (v := .ref a_o_triples) (C := RX6) (T := TX6) (N := 17) hx hb hts im_X6_triple_X6 hown hK hP 0 rfl rfl 3 (by decide) k125 (fun _ h9 => h9) rfl dX6_triple_113 ?_
        refine lv_iconst (v := (nI 4)) hx hb dX6_triple_116 (by decide) ?_
        refine lv_aload_n hx hb dX6_triple_117 rfl (lv_at hl 1 rfl) ?_
        refine va_get (D := fx_D X) (ci := 5) (v := .int v6) (C := RX6) (T := TX6) (N := 17) hx hb hts im_X6_triple_X6 hown hK hP 0 rfl rfl 4 (by decide) k164 (fun _ h9 => h9) rfl dX6_triple_118 ?_
        refine fx_imul hx hb h dX6_triple_121 (fun v7 h => ?_)
        refine lv_bipush (v := (nI 11)) hx hb dX6_triple_122 (by decide) ?_
        refine fx_iast hx hb hK hP hD hS 1 0 rfl rfl h dX6_triple_124 (fun g8 => [(a_o, .inr (5, [.ref a_o_phrases, .ref a_o_axioms, .int s_o_axiomCount, .ref a_o_triples, .int v6, .ref a_o_rules, .ref a_o_instances, .ref a_o_counts, .ref a_o_premises, .int s_o_rows, .ref a_o_stated, .ref a_o_marks, .int s_o_broken, .ref a_o_text, .int s_o_size, .ref a_o_sizes, .ref a_o_places])), (a_o_triples, .inl (fx_cI X, 404, .inl g8))]) (fun _ => rfl) (fun H locs g8 h hP hD hS => ?_)
        refine lv_aload_n hx hb dX6_triple_125 rfl (lv_at hl 1 rfl) ?_
        refine va_get (D := fx_D X) (ci := 5) (v := .ref a_o_triples) (C := RX6) (T := TX6) (N := 17) hx hb hts im_X6_triple_X6 hown hK hP 0 rfl rfl 3 (by decide) k125 (fun _ h9 => h9) rfl dX6_triple_126 ?_
        refine lv_iconst (v := (nI 4)) hx hb dX6_triple_129 (by decide) ?_
        refine lv_aload_n hx hb dX6_triple_130 rfl (lv_at hl 1 rfl) ?_
        refine va_get (D := fx_D X) (ci := 5) (v := .int v6) (C := RX6) (T := TX6) (N := 17) hx hb hts im_X6_triple_X6 hown hK hP 0 rfl rfl 4 (by decide) k164 (fun _ h9 => h9) rfl dX6_triple_131 ?_
        refine fx_imul hx hb h dX6_triple_134 (fun v9 h => ?_)
        refine lv_iconst (v := (nI 1)) hx hb dX6_triple_135 (by decide) ?_
        refine fx_iadd hx hb h dX6_triple_136 (fun v10 h => ?_)
        refine lv_iload_n hx hb dX6_triple_137 rfl (lv_at hl 2 rfl) ?_
        refine fx_iast hx hb hK hP hD hS 1 0 rfl rfl h dX6_triple_138 (fun g11 => [(a_o, .inr (5, [.ref a_o_phrases, .ref a_o_axioms, .int s_o_axiomCount, .ref a_o_triples, .int v6, .ref a_o_rules, .ref a_o_instances, .ref a_o_counts, .ref a_o_premises, .int s_o_rows, .ref a_o_stated, .ref a_o_marks, .int s_o_broken, .ref a_o_text, .int s_o_size, .ref a_o_sizes, .ref a_o_places])), (a_o_triples, .inl (fx_cI X, 404, .inl g11))]) (fun _ => rfl) (fun H locs g11 h hP hD hS => ?_)
        refine lv_aload_n hx hb dX6_triple_139 rfl (lv_at hl 1 rfl) ?_
        refine va_get (D := fx_D X) (ci := 5) (v := .ref a_o_triples) (C := RX6) (T := TX6) (N := 17) hx hb hts im_X6_triple_X6 hown hK hP 0 rfl rfl 3 (by decide) k125 (fun _ h9 => h9) rfl dX6_triple_140 ?_
        refine lv_iconst (v := (nI 4)) hx hb dX6_triple_143 (by decide) ?_
        refine lv_aload_n hx hb dX6_triple_144 rfl (lv_at hl 1 rfl) ?_
        refine va_get (D := fx_D X) (ci := 5) (v := .int v6) (C := RX6) (T := TX6) (N := 17) hx hb hts im_X6_triple_X6 hown hK hP 0 rfl rfl 4 (by decide) k164 (fun _ h9 => h9) rfl dX6_triple_145 ?_
        refine fx_imul hx hb h dX6_triple_148 (fun v12 h => ?_)
        refine lv_iconst (v := (nI 2)) hx hb dX6_triple_149 (by decide) ?_
        refine fx_iadd hx hb h dX6_triple_150 (fun v13 h => ?_)
        refine lv_iload_n hx hb dX6_triple_151 rfl (lv_at hl 3 rfl) ?_
        refine fx_iast hx hb hK hP hD hS 1 0 rfl rfl h dX6_triple_152 (fun g14 => [(a_o, .inr (5, [.ref a_o_phrases, .ref a_o_axioms, .int s_o_axiomCount, .ref a_o_triples, .int v6, .ref a_o_rules, .ref a_o_instances, .ref a_o_counts, .ref a_o_premises, .int s_o_rows, .ref a_o_stated, .ref a_o_marks, .int s_o_broken, .ref a_o_text, .int s_o_size, .ref a_o_sizes, .ref a_o_places])), (a_o_triples, .inl (fx_cI X, 404, .inl g14))]) (fun _ => rfl) (fun H locs g14 h hP hD hS => ?_)
        refine lv_aload_n hx hb dX6_triple_153 rfl (lv_at hl 1 rfl) ?_
        refine va_get (D := fx_D X) (ci := 5) (v := .ref a_o_triples) (C := RX6) (T := TX6) (N := 17) hx hb hts im_X6_triple_X6 hown hK hP 0 rfl rfl 3 (by decide) k125 (fun _ h9 => h9) rfl dX6_triple_154 ?_
        refine lv_iconst (v := (nI 4)) hx hb dX6_triple_157 (by decide) ?_
        refine lv_aload_n hx hb dX6_triple_158 rfl (lv_at hl 1 rfl) ?_
        refine va_get (D := fx_D X) (ci := 5) (v := .int v6) (C := RX6) (T := TX6) (N := 17) hx hb hts im_X6_triple_X6 hown hK hP 0 rfl rfl 4 (by decide) k164 (fun _ h9 => h9) rfl dX6_triple_159 ?_
        refine fx_imul hx hb h dX6_triple_162 (fun v15 h => ?_)
        refine lv_iconst (v := (nI 3)) hx hb dX6_triple_163 (by decide) ?_
        refine fx_iadd hx hb h dX6_triple_164 (fun v16 h => ?_)
        refine lv_iload_n hx hb dX6_triple_165 rfl (lv_at hl 4 rfl) ?_
        refine fx_iast hx hb hK hP hD hS 1 0 rfl rfl h dX6_triple_166 (fun g17 => [(a_o, .inr (5, [.ref a_o_phrases, .ref a_o_axioms, .int s_o_axiomCount, .ref a_o_triples, .int v6, .ref a_o_rules, .ref a_o_instances, .ref a_o_counts, .ref a_o_premises, .int s_o_rows, .ref a_o_stated, .ref a_o_marks, .int s_o_broken, .ref a_o_text, .int s_o_size, .ref a_o_sizes, .ref a_o_places])), (a_o_triples, .inl (fx_cI X, 404, .inl g17))]) (fun _ => rfl) (fun H locs g17 h hP hD hS => ?_)
        refine lv_aload_n hx hb dX6_triple_167 rfl (lv_at hl 1 rfl) ?_
        refine va_get (D := fx_D X) (ci := 5) (v := .int v6) (C := RX6) (T := TX6) (N := 17) hx hb hts im_X6_triple_X6 hown hK hP 0 rfl rfl 4 (by decide) k164 (fun _ h9 => h9) rfl dX6_triple_168 ?_
        exact W.iret (v := v6) hx hb hr  (fun t ht hW => ⟨⟨v6, (v6, g17), rfl, h, by rw [ht]; exact hP, va_K.moved hW.alike hK, hD⟩, hS.F ht⟩) hS.2.2 dX6_triple_171
      refine lv_bipush (v := (-4)) hx hb dX6_triple_99 (by decide) ?_
      exact W.iret (v := (-4)) hx hb hr  (fun t ht hW => ⟨⟨(-4), (s_o_tripleCount, f_o_triples), rfl, h, by rw [ht]; exact hP, va_K.moved hW.alike hK, hD⟩, hS.F ht⟩) hS.2.2 dX6_triple_101
    refine lv_aload_n hx hb dX6_triple_36 rfl (lv_at hl 1 rfl) ?_
    refine va_get (D := fx_D X) (ci := 5) (v := .ref a_o_triples) (C := RX6) (T := TX6) (N := 17) hx hb hts im_X6_triple_X6 hown hK hP 0 rfl rfl 3 (by decide) k125 (fun _ h9 => h9) rfl dX6_triple_37 ?_
    refine lv_iconst (v := (nI 4)) hx hb dX6_triple_40 (by decide) ?_
    refine lv_iload hx hb dX6_triple_41 (lv_at hl 0 rfl) ?_
    refine fx_imul hx hb h dX6_triple_43 (fun v22 h => ?_)
    refine lv_iconst (v := (nI 1)) hx hb dX6_triple_44 (by decide) ?_
    refine fx_iadd hx hb h dX6_triple_45 (fun v23 h => ?_)
    refine fx_iald hx hb hK hP 1 0 rfl rfl h dX6_triple_46 (fun v24 h => ?_)
    refine lv_iload_n hx hb dX6_triple_47 rfl (lv_at hl 2 rfl) ?_
    refine fx_icmp_ne (tgt := 84) hx hb h dX6_triple_48 (by decide) (fun h => ?_) (fun h => ?_)
    · refine fx_iinc (y := (nI 1)) hx hb h dX6_triple_84 (by decide) (fun v26 => [(4, .int v26), (0, .ref a_o), (1, .int p1), (2, .int p2), (3, .int p3)]) hl 0 rfl (by decide) (fun _ => rfl) (fun v26 ls h hl => ?_)
      refine lv_goto (tgt := 27) hx hb dX6_triple_87 (by decide) ?_
      exact hrec5 _ h _ _ _ hP hD hS (lv_sub hl [0, 1, 2, 3, 4] rfl)
    refine lv_aload_n hx hb dX6_triple_51 rfl (lv_at hl 1 rfl) ?_
    refine va_get (D := fx_D X) (ci := 5) (v := .ref a_o_triples) (C := RX6) (T := TX6) (N := 17) hx hb hts im_X6_triple_X6 hown hK hP 0 rfl rfl 3 (by decide) k125 (fun _ h9 => h9) rfl dX6_triple_52 ?_
    refine lv_iconst (v := (nI 4)) hx hb dX6_triple_55 (by decide) ?_
    refine lv_iload hx hb dX6_triple_56 (lv_at hl 0 rfl) ?_
    refine fx_imul hx hb h dX6_triple_58 (fun v27 h => ?_)
    refine lv_iconst (v := (nI 2)) hx hb dX6_triple_59 (by decide) ?_
    refine fx_iadd hx hb h dX6_triple_60 (fun v28 h => ?_)
    refine fx_iald hx hb hK hP 1 0 rfl rfl h dX6_triple_61 (fun v29 h => ?_)
    refine lv_iload_n hx hb dX6_triple_62 rfl (lv_at hl 3 rfl) ?_
    refine fx_icmp_ne (tgt := 84) hx hb h dX6_triple_63 (by decide) (fun h => ?_) (fun h => ?_)
    · refine fx_iinc (y := (nI 1)) hx hb h dX6_triple_84 (by decide) (fun v31 => [(4, .int v31), (0, .ref a_o), (1, .int p1), (2, .int p2), (3, .int p3)]) hl 0 rfl (by decide) (fun _ => rfl) (fun v31 ls h hl => ?_)
      refine lv_goto (tgt := 27) hx hb dX6_triple_87 (by decide) ?_
      exact hrec5 _ h _ _ _ hP hD hS (lv_sub hl [0, 1, 2, 3, 4] rfl)
    refine lv_aload_n hx hb dX6_triple_66 rfl (lv_at hl 1 rfl) ?_
    refine va_get (D := fx_D X) (ci := 5) (v := .ref a_o_triples) (C := RX6) (T := TX6) (N := 17) hx hb hts im_X6_triple_X6 hown hK hP 0 rfl rfl 3 (by decide) k125 (fun _ h9 => h9) rfl dX6_triple_67 ?_
    refine lv_iconst (v := (nI 4)) hx hb dX6_triple_70 (by decide) ?_
    refine lv_iload hx hb dX6_triple_71 (lv_at hl 0 rfl) ?_
    refine fx_imul hx hb h dX6_triple_73 (fun v32 h => ?_)
    refine lv_iconst (v := (nI 3)) hx hb dX6_triple_74 (by decide) ?_
    refine fx_iadd hx hb h dX6_triple_75 (fun v33 h => ?_)
    refine fx_iald hx hb hK hP 1 0 rfl rfl h dX6_triple_76 (fun v34 h => ?_)
    refine lv_iload_n hx hb dX6_triple_77 rfl (lv_at hl 4 rfl) ?_
    refine fx_icmp_ne (tgt := 84) hx hb h dX6_triple_78 (by decide) (fun h => ?_) (fun h => ?_)
    · refine fx_iinc (y := (nI 1)) hx hb h dX6_triple_84 (by decide) (fun v36 => [(4, .int v36), (0, .ref a_o), (1, .int p1), (2, .int p2), (3, .int p3)]) hl 0 rfl (by decide) (fun _ => rfl) (fun v36 ls h hl => ?_)
      refine lv_goto (tgt := 27) hx hb dX6_triple_87 (by decide) ?_
      exact hrec5 _ h _ _ _ hP hD hS (lv_sub hl [0, 1, 2, 3, 4] rfl)
    refine lv_iload hx hb dX6_triple_81 (lv_at hl 0 rfl) ?_
    exact W.iret (v := x4) hx hb hr  (fun t ht hW => ⟨⟨x4, (s_o_tripleCount, f_o_triples), rfl, h, by rw [ht]; exact hP, va_K.moved hW.alike hK, hD⟩, hS.F ht⟩) hS.2.2 dX6_triple_83
  refine lv_bipush (v := (-2)) hx hb dX6_triple_21 (by decide) ?_
  exact W.iret (v := (-2)) hx hb hr  (fun t ht hW => ⟨⟨(-2), (s_o_tripleCount, f_o_triples), rfl, h, by rw [ht]; exact hP, va_K.moved hW.alike hK, hD⟩, hS.F ht⟩) hS.2.2 dX6_triple_23

/-- X6_lay: its walk -/
def wp_X6_lay (post : (Nat → Int32) → (Nat → Int32) → Prop) (f_o_counts : Nat → Int32) (f_o_premises : Nat → Int32) (p1 : Int32) (p2 : Int32) : Prop :=
  fx_nm ((nI 3) * p1) (fun v1 => fx_ix p1 301 (fun k3 => fx_nm (f_o_counts k3) (fun v2 => fx_nm (v1 + v2) (fun v4 => fx_ix v4 903 (fun k11 => fx_nm (upd f_o_premises k11 p2) (fun g5 => fx_ix p1 301 (fun k7 => fx_nm (f_o_counts k7) (fun v6 => fx_nm (v6 + (nI 1)) (fun v8 => fx_ix p1 301 (fun k10 => fx_nm (upd f_o_counts k10 v8) (fun g9 => post g9 g5)))))))))))
theorem im_X6_lay_X6 : ∀ w ∈ u_ws RX6 TX6 17, w ∈ wsX6_lay := by decide +kernel
set_option maxHeartbeats 4000000 in
set_option maxRecDepth 100000 in
theorem cw_X6_lay (l : Launch) (X : fx_X) (a_o : Nat) (a_o_phrases : Nat) (a_o_axioms : Nat) (a_o_triples : Nat) (a_o_rules : Nat) (a_o_instances : Nat) (a_o_counts : Nat) (a_o_premises : Nat) (a_o_stated : Nat) (a_o_marks : Nat) (a_o_text : Nat) (a_o_sizes : Nat) (a_o_places : Nat) (s_o_axiomCount : Int32) (s_o_tripleCount : Int32) (s_o_rows : Int32) (s_o_broken : Int32) (s_o_size : Int32) (f_o_counts : Nat → Int32) (f_o_premises : Nat → Int32) (sz : Nat) (p1 : Int32) (p2 : Int32) (post : (Nat → Int32) → (Nat → Int32) → Prop) (h : wp_X6_lay post f_o_counts f_o_premises p1 p2) : Met l yX6_lay wsX6_lay ({ frames := 0, cells := 0, slots := 0, locals := 0 }) (va_Pc [.ref a_o, .int p1, .int p2] (fx_PW X [(a_o, .inr (5, [.ref a_o_phrases, .ref a_o_axioms, .int s_o_axiomCount, .ref a_o_triples, .int s_o_tripleCount, .ref a_o_rules, .ref a_o_instances, .ref a_o_counts, .ref a_o_premises, .int s_o_rows, .ref a_o_stated, .ref a_o_marks, .int s_o_broken, .ref a_o_text, .int s_o_size, .ref a_o_sizes, .ref a_o_places])), (a_o_counts, .inl (fx_cI X, 301, .inl f_o_counts)), (a_o_premises, .inl (fx_cI X, 903, .inl f_o_premises))] sz)) (va_Qv (fun (u : (Nat → Int32) × (Nat → Int32)) => post u.1 u.2) (fun (u : (Nat → Int32) × (Nat → Int32)) t => fx_EW X (va_A [(a_o, .inr (5, [.ref a_o_phrases, .ref a_o_axioms, .int s_o_axiomCount, .ref a_o_triples, .int s_o_tripleCount, .ref a_o_rules, .ref a_o_instances, .ref a_o_counts, .ref a_o_premises, .int s_o_rows, .ref a_o_stated, .ref a_o_marks, .int s_o_broken, .ref a_o_text, .int s_o_size, .ref a_o_sizes, .ref a_o_places])), (a_o_counts, .inl (fx_cI X, 301, .inl f_o_counts)), (a_o_premises, .inl (fx_cI X, 903, .inl f_o_premises))] sz) [(a_o, .inr (5, [.ref a_o_phrases, .ref a_o_axioms, .int s_o_axiomCount, .ref a_o_triples, .int s_o_tripleCount, .ref a_o_rules, .ref a_o_instances, .ref a_o_counts, .ref a_o_premises, .int s_o_rows, .ref a_o_stated, .ref a_o_marks, .int s_o_broken, .ref a_o_text, .int s_o_size, .ref a_o_sizes, .ref a_o_places])), (a_o_counts, .inl (fx_cI X, 301, .inl u.1)), (a_o_premises, .inl (fx_cI X, 903, .inl u.2))] t) (va_A [(a_o, .inr (5, [.ref a_o_phrases, .ref a_o_axioms, .int s_o_axiomCount, .ref a_o_triples, .int s_o_tripleCount, .ref a_o_rules, .ref a_o_instances, .ref a_o_counts, .ref a_o_premises, .int s_o_rows, .ref a_o_stated, .ref a_o_marks, .int s_o_broken, .ref a_o_text, .int s_o_size, .ref a_o_sizes, .ref a_o_places])), (a_o_counts, .inl (fx_cI X, 301, .inl f_o_counts)), (a_o_premises, .inl (fx_cI X, 903, .inl f_o_premises))] sz)) 0 0 (va_A [(a_o, .inr (5, [.ref a_o_phrases, .ref a_o_axioms, .int s_o_axiomCount, .ref a_o_triples, .int s_o_tripleCount, .ref a_o_rules, .ref a_o_instances, .ref a_o_counts, .ref a_o_premises, .int s_o_rows, .ref a_o_stated, .ref a_o_marks, .int s_o_broken, .ref a_o_text, .int s_o_size, .ref a_o_sizes, .ref a_o_places])), (a_o_counts, .inl (fx_cI X, 301, .inl f_o_counts)), (a_o_premises, .inl (fx_cI X, 903, .inl f_o_premises))] sz) := by
  refine Met.ofW (cc := cX6_lay) (maxL := 3) (ret := none) (by decide) rfl ?_
  intro p e s m args below meth c s₁ B hml hv
  obtain ⟨rfl, hsz, hP, hK, hD0, hG⟩ := hv
  have hx := B.exec
  have hb := B.bytes
  have hr := B.returns
  have hts := atoms_spec (ws := wsX6_lay) B.pre
  have hown : s.vm.findClass RX6 = some m.cls := findClass_of_methodNamed B.named
  have hlocks := B.notSynchronized
  subst hsz
  have hD := hD0.self (sz := s.heap.size)
  generalize hAe : va_A [(a_o, .inr (5, [.ref a_o_phrases, .ref a_o_axioms, .int s_o_axiomCount, .ref a_o_triples, .int s_o_tripleCount, .ref a_o_rules, .ref a_o_instances, .ref a_o_counts, .ref a_o_premises, .int s_o_rows, .ref a_o_stated, .ref a_o_marks, .int s_o_broken, .ref a_o_text, .int s_o_size, .ref a_o_sizes, .ref a_o_places])), (a_o_counts, .inl (fx_cI X, 301, .inl f_o_counts)), (a_o_premises, .inl (fx_cI X, 903, .inl f_o_premises))] s.heap.size = A at hD hG ⊢
  have hA : ∀ q : Nat, s.heap.size ≤ q → A q := fun q h => by rw [← hAe]; exact Or.inr h
  have hS : va_S A s.heap s.heap [] := va_S.rf
  have k134 := hts (.fieldLink RX6 134 "ProofCheckerModel" "counts" "[I") (by decide +kernel)
  have k137 := hts (.fieldLink RX6 137 "ProofCheckerModel" "premises" "[I") (by decide +kernel)
  have hl := lv_entry ([.ref a_o, .int p1, .int p2]) (n := 3) (Nat.le_of_ble_eq_true rfl)
  rw [lg_entry_eq]
  generalize (lg_sl ([.ref a_o, .int p1, .int p2]) ++ List.replicate (3 - (lg_sl ([.ref a_o, .int p1, .int p2])).length) Slot.unset).toArray = ls at hl ⊢
  have hl : lv_has ls 3 [(0, .ref a_o), (1, .int p1), (2, .int p2)] := hl
  unfold wp_X6_lay at h
  refine lv_aload_n hx hb dX6_lay_0 rfl (lv_at hl 0 rfl) ?_
  refine va_get (D := fx_D X) (ci := 5) (v := .ref a_o_premises) (C := RX6) (T := TX6) (N := 17) hx hb hts im_X6_lay_X6 hown hK hP 0 rfl rfl 8 (by decide) k137 (fun _ h9 => h9) rfl dX6_lay_1 ?_
  refine lv_iconst (v := (nI 3)) hx hb dX6_lay_4 (by decide) ?_
  refine lv_iload_n hx hb dX6_lay_5 rfl (lv_at hl 1 rfl) ?_
  refine fx_imul hx hb h dX6_lay_6 (fun v1 h => ?_)
  refine lv_aload_n hx hb dX6_lay_7 rfl (lv_at hl 0 rfl) ?_
  refine va_get (D := fx_D X) (ci := 5) (v := .ref a_o_counts) (C := RX6) (T := TX6) (N := 17) hx hb hts im_X6_lay_X6 hown hK hP 0 rfl rfl 7 (by decide) k134 (fun _ h9 => h9) rfl dX6_lay_8 ?_
  refine lv_iload_n hx hb dX6_lay_11 rfl (lv_at hl 1 rfl) ?_
  refine fx_iald hx hb hK hP 1 0 rfl rfl h dX6_lay_12 (fun v2 h => ?_)
  refine fx_iadd hx hb h dX6_lay_13 (fun v4 h => ?_)
  refine lv_iload_n hx hb dX6_lay_14 rfl (lv_at hl 2 rfl) ?_
  refine fx_iast hx hb hK hP hD hS 2 0 rfl rfl h dX6_lay_15 (fun g5 => [(a_o, .inr (5, [.ref a_o_phrases, .ref a_o_axioms, .int s_o_axiomCount, .ref a_o_triples, .int s_o_tripleCount, .ref a_o_rules, .ref a_o_instances, .ref a_o_counts, .ref a_o_premises, .int s_o_rows, .ref a_o_stated, .ref a_o_marks, .int s_o_broken, .ref a_o_text, .int s_o_size, .ref a_o_sizes, .ref a_o_places])), (a_o_counts, .inl (fx_cI X, 301, .inl f_o_counts)), (a_o_premises, .inl (fx_cI X, 903, .inl g5))]) (fun _ => rfl) (fun H locs g5 h hP hD hS => ?_)
  refine lv_aload_n hx hb dX6_lay_16 rfl (lv_at hl 0 rfl) ?_
  refine va_get (D := fx_D X) (ci := 5) (v := .ref a_o_counts) (C := RX6) (T := TX6) (N := 17) hx hb hts im_X6_lay_X6 hown hK hP 0 rfl rfl 7 (by decide) k134 (fun _ h9 => h9) rfl dX6_lay_17 ?_
  refine lv_iload_n hx hb dX6_lay_20 rfl (lv_at hl 1 rfl) ?_
  refine lv_dup2_11 hx hb dX6_lay_21 rfl rfl ?_
  refine fx_iald hx hb hK hP 1 0 rfl rfl h dX6_lay_22 (fun v6 h => ?_)
  refine lv_iconst (v := (nI 1)) hx hb dX6_lay_23 (by decide) ?_
  refine fx_iadd hx hb h dX6_lay_24 (fun v8 h => ?_)
  refine fx_iast hx hb hK hP hD hS 1 0 rfl rfl h dX6_lay_25 (fun g9 => [(a_o, .inr (5, [.ref a_o_phrases, .ref a_o_axioms, .int s_o_axiomCount, .ref a_o_triples, .int s_o_tripleCount, .ref a_o_rules, .ref a_o_instances, .ref a_o_counts, .ref a_o_premises, .int s_o_rows, .ref a_o_stated, .ref a_o_marks, .int s_o_broken, .ref a_o_text, .int s_o_size, .ref a_o_sizes, .ref a_o_places])), (a_o_counts, .inl (fx_cI X, 301, .inl g9)), (a_o_premises, .inl (fx_cI X, 903, .inl g5))]) (fun _ => rfl) (fun H locs g9 h hP hD hS => ?_)
  exact W.vret hx hb hr (fun t ht hW => ⟨⟨(g9, g5), rfl, h, by rw [ht]; exact hP, va_K.moved hW.alike hK, hD⟩, hS.F ht⟩) hS.2.2 dX6_lay_26

/-- X6_row: its walk -/
def wp_X6_row (post : Int32 → Int32 → (Nat → Int32) → (Nat → Int32) → (Nat → Int32) → (Nat → Int32) → Prop) (s_o_axiomCount : Int32) (s_o_tripleCount : Int32) (s_o_rows : Int32) (f_o_rules : Nat → Int32) (f_o_instances : Nat → Int32) (f_o_counts : Nat → Int32) (f_o_premises : Nat → Int32) (p1 : Int32) (p2 : Int32) (p3 : Int32) : Prop :=
  fx_br (p1 < 0) (post (nI 0) s_o_rows f_o_rules f_o_instances f_o_counts f_o_premises) (fx_br ((nI 17) < p1) (post (nI 0) s_o_rows f_o_rules f_o_instances f_o_counts f_o_premises) (wp_X6_isInstance (fun r1 => fx_br (r1 = 0) (post (nI 0) s_o_rows f_o_rules f_o_instances f_o_counts f_o_premises) (fx_br (p3 = 0) (fx_br (s_o_rows = (nI 300)) (post (nI 0) s_o_rows f_o_rules f_o_instances f_o_counts f_o_premises) (fx_nm (s_o_rows + (nI 1)) (fun v2 => fx_ix v2 301 (fun k10 => fx_nm (upd f_o_rules k10 p1) (fun g3 => fx_ix v2 301 (fun k9 => fx_nm (upd f_o_instances k9 p2) (fun g4 => fx_ix v2 301 (fun k8 => fx_nm (upd f_o_counts k8 (nI 0)) (fun g5 => fx_br (p3 = 0) (post v2 v2 g3 g4 g5 f_o_premises) (wp_X6_lay (fun y6 y7 => post v2 v2 g3 g4 y6 y7) g5 f_o_premises v2 p3)))))))))) (wp_X6_isRow (fun r11 => fx_br (r11 = 0) (post (nI 0) s_o_rows f_o_rules f_o_instances f_o_counts f_o_premises) (wp_X6_takes (fun r12 => fx_br (r12 = 0) (post (nI 0) s_o_rows f_o_rules f_o_instances f_o_counts f_o_premises) (fx_br (s_o_rows = (nI 300)) (post (nI 0) s_o_rows f_o_rules f_o_instances f_o_counts f_o_premises) (fx_nm (s_o_rows + (nI 1)) (fun v13 => fx_ix v13 301 (fun k21 => fx_nm (upd f_o_rules k21 p1) (fun g14 => fx_ix v13 301 (fun k20 => fx_nm (upd f_o_instances k20 p2) (fun g15 => fx_ix v13 301 (fun k19 => fx_nm (upd f_o_counts k19 (nI 0)) (fun g16 => fx_br (p3 = 0) (post v13 v13 g14 g15 g16 f_o_premises) (wp_X6_lay (fun y17 y18 => post v13 v13 g14 g15 y17 y18) g16 f_o_premises v13 p3))))))))))) p1)) s_o_rows p3))) s_o_axiomCount s_o_tripleCount p1 p2))
theorem im_X6_row_X6 : ∀ w ∈ u_ws RX6 TX6 17, w ∈ wsX6_row := by decide +kernel
set_option maxHeartbeats 4000000 in
set_option maxRecDepth 100000 in
theorem cw_X6_row (l : Launch) (X : fx_X) (a_o : Nat) (a_o_phrases : Nat) (a_o_axioms : Nat) (a_o_triples : Nat) (a_o_rules : Nat) (a_o_instances : Nat) (a_o_counts : Nat) (a_o_premises : Nat) (a_o_stated : Nat) (a_o_marks : Nat) (a_o_text : Nat) (a_o_sizes : Nat) (a_o_places : Nat) (s_o_axiomCount : Int32) (s_o_tripleCount : Int32) (s_o_rows : Int32) (s_o_broken : Int32) (s_o_size : Int32) (f_o_rules : Nat → Int32) (f_o_instances : Nat → Int32) (f_o_counts : Nat → Int32) (f_o_premises : Nat → Int32) (sz : Nat) (p1 : Int32) (p2 : Int32) (p3 : Int32) (post : Int32 → Int32 → (Nat → Int32) → (Nat → Int32) → (Nat → Int32) → (Nat → Int32) → Prop) (h : wp_X6_row post s_o_axiomCount s_o_tripleCount s_o_rows f_o_rules f_o_instances f_o_counts f_o_premises p1 p2 p3) : Met l yX6_row wsX6_row ({ frames := 2, cells := 0, slots := 0, locals := 42 }) (va_Pc [.ref a_o, .int p1, .int p2, .int p3] (fx_PW X [(a_o, .inr (5, [.ref a_o_phrases, .ref a_o_axioms, .int s_o_axiomCount, .ref a_o_triples, .int s_o_tripleCount, .ref a_o_rules, .ref a_o_instances, .ref a_o_counts, .ref a_o_premises, .int s_o_rows, .ref a_o_stated, .ref a_o_marks, .int s_o_broken, .ref a_o_text, .int s_o_size, .ref a_o_sizes, .ref a_o_places])), (a_o_rules, .inl (fx_cI X, 301, .inl f_o_rules)), (a_o_instances, .inl (fx_cI X, 301, .inl f_o_instances)), (a_o_counts, .inl (fx_cI X, 301, .inl f_o_counts)), (a_o_premises, .inl (fx_cI X, 903, .inl f_o_premises))] sz)) (va_Qi (fun r (u : Int32 × (Nat → Int32) × (Nat → Int32) × (Nat → Int32) × (Nat → Int32)) => post r u.1 u.2.1 u.2.2.1 u.2.2.2.1 u.2.2.2.2) (fun (u : Int32 × (Nat → Int32) × (Nat → Int32) × (Nat → Int32) × (Nat → Int32)) t => fx_EW X (va_A [(a_o, .inr (5, [.ref a_o_phrases, .ref a_o_axioms, .int s_o_axiomCount, .ref a_o_triples, .int s_o_tripleCount, .ref a_o_rules, .ref a_o_instances, .ref a_o_counts, .ref a_o_premises, .int s_o_rows, .ref a_o_stated, .ref a_o_marks, .int s_o_broken, .ref a_o_text, .int s_o_size, .ref a_o_sizes, .ref a_o_places])), (a_o_rules, .inl (fx_cI X, 301, .inl f_o_rules)), (a_o_instances, .inl (fx_cI X, 301, .inl f_o_instances)), (a_o_counts, .inl (fx_cI X, 301, .inl f_o_counts)), (a_o_premises, .inl (fx_cI X, 903, .inl f_o_premises))] sz) [(a_o, .inr (5, [.ref a_o_phrases, .ref a_o_axioms, .int s_o_axiomCount, .ref a_o_triples, .int s_o_tripleCount, .ref a_o_rules, .ref a_o_instances, .ref a_o_counts, .ref a_o_premises, .int u.1, .ref a_o_stated, .ref a_o_marks, .int s_o_broken, .ref a_o_text, .int s_o_size, .ref a_o_sizes, .ref a_o_places])), (a_o_rules, .inl (fx_cI X, 301, .inl u.2.1)), (a_o_instances, .inl (fx_cI X, 301, .inl u.2.2.1)), (a_o_counts, .inl (fx_cI X, 301, .inl u.2.2.2.1)), (a_o_premises, .inl (fx_cI X, 903, .inl u.2.2.2.2))] t) (va_A [(a_o, .inr (5, [.ref a_o_phrases, .ref a_o_axioms, .int s_o_axiomCount, .ref a_o_triples, .int s_o_tripleCount, .ref a_o_rules, .ref a_o_instances, .ref a_o_counts, .ref a_o_premises, .int s_o_rows, .ref a_o_stated, .ref a_o_marks, .int s_o_broken, .ref a_o_text, .int s_o_size, .ref a_o_sizes, .ref a_o_places])), (a_o_rules, .inl (fx_cI X, 301, .inl f_o_rules)), (a_o_instances, .inl (fx_cI X, 301, .inl f_o_instances)), (a_o_counts, .inl (fx_cI X, 301, .inl f_o_counts)), (a_o_premises, .inl (fx_cI X, 903, .inl f_o_premises))] sz)) 0 0 (va_A [(a_o, .inr (5, [.ref a_o_phrases, .ref a_o_axioms, .int s_o_axiomCount, .ref a_o_triples, .int s_o_tripleCount, .ref a_o_rules, .ref a_o_instances, .ref a_o_counts, .ref a_o_premises, .int s_o_rows, .ref a_o_stated, .ref a_o_marks, .int s_o_broken, .ref a_o_text, .int s_o_size, .ref a_o_sizes, .ref a_o_places])), (a_o_rules, .inl (fx_cI X, 301, .inl f_o_rules)), (a_o_instances, .inl (fx_cI X, 301, .inl f_o_instances)), (a_o_counts, .inl (fx_cI X, 301, .inl f_o_counts)), (a_o_premises, .inl (fx_cI X, 903, .inl f_o_premises))] sz) := by
  refine Met.ofW (cc := cX6_row) (maxL := 4) (ret := (some .int)) (by decide) rfl ?_
  intro p e s m args below meth c s₁ B hml hv
  obtain ⟨rfl, hsz, hP, hK, hD0, hG⟩ := hv
  have hx := B.exec
  have hb := B.bytes
  have hr := B.returns
  have hts := atoms_spec (ws := wsX6_row) B.pre
  have hown : s.vm.findClass RX6 = some m.cls := findClass_of_methodNamed B.named
  have hlocks := B.notSynchronized
  subst hsz
  have hD := hD0.self (sz := s.heap.size)
  generalize hAe : va_A [(a_o, .inr (5, [.ref a_o_phrases, .ref a_o_axioms, .int s_o_axiomCount, .ref a_o_triples, .int s_o_tripleCount, .ref a_o_rules, .ref a_o_instances, .ref a_o_counts, .ref a_o_premises, .int s_o_rows, .ref a_o_stated, .ref a_o_marks, .int s_o_broken, .ref a_o_text, .int s_o_size, .ref a_o_sizes, .ref a_o_places])), (a_o_rules, .inl (fx_cI X, 301, .inl f_o_rules)), (a_o_instances, .inl (fx_cI X, 301, .inl f_o_instances)), (a_o_counts, .inl (fx_cI X, 301, .inl f_o_counts)), (a_o_premises, .inl (fx_cI X, 903, .inl f_o_premises))] s.heap.size = A at hD hG ⊢
  have hA : ∀ q : Nat, s.heap.size ≤ q → A q := fun q h => by rw [← hAe]; exact Or.inr h
  have hS : va_S A s.heap s.heap [] := va_S.rf
  have k167 := hts (.fieldLink RX6 167 "ProofCheckerModel" "rows" "I") (by decide +kernel)
  have k134 := hts (.fieldLink RX6 134 "ProofCheckerModel" "counts" "[I") (by decide +kernel)
  have k131 := hts (.fieldLink RX6 131 "ProofCheckerModel" "instances" "[I") (by decide +kernel)
  have k128 := hts (.fieldLink RX6 128 "ProofCheckerModel" "rules" "[I") (by decide +kernel)
  have hl := lv_entry ([.ref a_o, .int p1, .int p2, .int p3]) (n := 4) (Nat.le_of_ble_eq_true rfl)
  rw [lg_entry_eq]
  generalize (lg_sl ([.ref a_o, .int p1, .int p2, .int p3]) ++ List.replicate (4 - (lg_sl ([.ref a_o, .int p1, .int p2, .int p3])).length) Slot.unset).toArray = ls at hl ⊢
  have hl : lv_has ls 4 [(0, .ref a_o), (1, .int p1), (2, .int p2), (3, .int p3)] := hl
  unfold wp_X6_row at h
  refine lv_iload_n hx hb dX6_row_0 rfl (lv_at hl 1 rfl) ?_
  refine fx_if_lt (tgt := 48) hx hb h dX6_row_1 (by decide) (fun h => ?_) (fun h => ?_)
  · refine lv_iconst (v := (nI 0)) hx hb dX6_row_48 (by decide) ?_
    exact W.iret (v := (nI 0)) hx hb hr  (fun t ht hW => ⟨⟨(nI 0), (s_o_rows, f_o_rules, f_o_instances, f_o_counts, f_o_premises), rfl, h, by rw [ht]; exact hP, va_K.moved hW.alike hK, hD⟩, hS.F ht⟩) hS.2.2 dX6_row_49
  refine lv_iload_n hx hb dX6_row_4 rfl (lv_at hl 1 rfl) ?_
  refine lv_bipush (v := (nI 17)) hx hb dX6_row_5 (by decide) ?_
  refine fx_icmp_gt (tgt := 48) hx hb h dX6_row_7 (by decide) (fun h => ?_) (fun h => ?_)
  · refine lv_iconst (v := (nI 0)) hx hb dX6_row_48 (by decide) ?_
    exact W.iret (v := (nI 0)) hx hb hr  (fun t ht hW => ⟨⟨(nI 0), (s_o_rows, f_o_rules, f_o_instances, f_o_counts, f_o_premises), rfl, h, by rw [ht]; exact hP, va_K.moved hW.alike hK, hD⟩, hS.F ht⟩) hS.2.2 dX6_row_49
  refine lv_aload_n hx hb dX6_row_10 rfl (lv_at hl 0 rfl) ?_
  refine lv_iload_n hx hb dX6_row_11 rfl (lv_at hl 1 rfl) ?_
  refine lv_iload_n hx hb dX6_row_12 rfl (lv_at hl 2 rfl) ?_
  refine vp_callSi (W.runV (As := [.int p1, .int p2]) (rest := []) ⟨hx, hb, hml, hown, hts⟩ (cw_X6_isInstance l X a_o a_o_phrases a_o_axioms a_o_triples a_o_rules a_o_instances a_o_counts a_o_premises a_o_stated a_o_marks a_o_text a_o_sizes a_o_places s_o_axiomCount s_o_tripleCount s_o_rows s_o_broken s_o_size p1 p2 _ h) (cwV 2 hts gX6_row_X6_isInstance rfl rfl rfl (by decide +kernel) ⟨Nat.le_of_ble_eq_true rfl, Nat.le_of_ble_eq_true rfl⟩) (fx_pv hP hK hG hS (va_recv hK hP (ci := 5) (q0 := 0) rfl rfl) [0] rfl) rfl rfl hl.1 rfl (lv_room (Nat.le_of_ble_eq_true rfl)) dX6_row_13 ⟨Nat.le_of_ble_eq_true rfl, Nat.le_of_ble_eq_true rfl⟩) (fun r1 h => ?_)
  refine fx_if_eq (tgt := 48) hx hb h dX6_row_16 (by decide) (fun h => ?_) (fun h => ?_)
  · refine lv_iconst (v := (nI 0)) hx hb dX6_row_48 (by decide) ?_
    exact W.iret (v := (nI 0)) hx hb hr  (fun t ht hW => ⟨⟨(nI 0), (s_o_rows, f_o_rules, f_o_instances, f_o_counts, f_o_premises), rfl, h, by rw [ht]; exact hP, va_K.moved hW.alike hK, hD⟩, hS.F ht⟩) hS.2.2 dX6_row_49
  refine lv_iload_n hx hb dX6_row_19 rfl (lv_at hl 3 rfl) ?_
  refine fx_if_eq (tgt := 38) hx hb h dX6_row_20 (by decide) (fun h => ?_) (fun h => ?_)
  · refine lv_aload_n hx hb dX6_row_38 rfl (lv_at hl 0 rfl) ?_
    refine va_get (D := fx_D X) (ci := 5) (v := .int s_o_rows) (C := RX6) (T := TX6) (N := 17) hx hb hts im_X6_row_X6 hown hK hP 0 rfl rfl 9 (by decide) k167 (fun _ h9 => h9) rfl dX6_row_39 ?_
    refine lv_sipush (v := (nI 300)) hx hb dX6_row_42 (by decide) ?_
    refine fx_icmp_ne (tgt := 50) hx hb h dX6_row_45 (by decide) (fun h => ?_) (fun h => ?_)
    · refine lv_aload_n hx hb dX6_row_50 rfl (lv_at hl 0 rfl) ?_
      refine lv_dup hx hb dX6_row_51 rfl ?_
      refine va_get (D := fx_D X) (ci := 5) (v := .int s_o_rows) (C := RX6) (T := TX6) (N := 17) hx hb hts im_X6_row_X6 hown hK hP 0 rfl rfl 9 (by decide) k167 (fun _ h9 => h9) rfl dX6_row_52 ?_
      refine lv_iconst (v := (nI 1)) hx hb dX6_row_55 (by decide) ?_
      refine fx_iadd hx hb h dX6_row_56 (fun v2 h => ?_)
      refine va_put (D := fx_D X) (ci := 5) (v := .int v2) (ty := .int) (C := RX6) (T := TX6) (N := 17) hx hb hts im_X6_row_X6 tyX6 tyX6_ok nmX6 hown hK hP hD hS 0 rfl rfl 9 (by decide) k167 (fun _ h9 => h9) rfl (by decide +kernel) rfl rfl (Nat.le_of_ble_eq_true rfl) dX6_row_57 (fun H locs hP hD hS => ?_)
      have hP : va_P (fx_D X) vwCl [(a_o, .inr (5, [.ref a_o_phrases, .ref a_o_axioms, .int s_o_axiomCount, .ref a_o_triples, .int s_o_tripleCount, .ref a_o_rules, .ref a_o_instances, .ref a_o_counts, .ref a_o_premises, .int v2, .ref a_o_stated, .ref a_o_marks, .int s_o_broken, .ref a_o_text, .int s_o_size, .ref a_o_sizes, .ref a_o_places])), (a_o_rules, .inl (fx_cI X, 301, .inl f_o_rules)), (a_o_instances, .inl (fx_cI X, 301, .inl f_o_instances)), (a_o_counts, .inl (fx_cI X, 301, .inl f_o_counts)), (a_o_premises, .inl (fx_cI X, 903, .inl f_o_premises))] H := hP
      have hD : va_D A [(a_o, .inr (5, [.ref a_o_phrases, .ref a_o_axioms, .int s_o_axiomCount, .ref a_o_triples, .int s_o_tripleCount, .ref a_o_rules, .ref a_o_instances, .ref a_o_counts, .ref a_o_premises, .int v2, .ref a_o_stated, .ref a_o_marks, .int s_o_broken, .ref a_o_text, .int s_o_size, .ref a_o_sizes, .ref a_o_places])), (a_o_rules, .inl (fx_cI X, 301, .inl f_o_rules)), (a_o_instances, .inl (fx_cI X, 301, .inl f_o_instances)), (a_o_counts, .inl (fx_cI X, 301, .inl f_o_counts)), (a_o_premises, .inl (fx_cI X, 903, .inl f_o_premises))] := hD
      refine lv_aload_n hx hb dX6_row_60 rfl (lv_at hl 0 rfl) ?_
      refine va_get (D := fx_D X) (ci := 5) (v := .ref a_o_rules) (C := RX6) (T := TX6) (N := 17) hx hb hts im_X6_row_X6 hown hK hP 0 rfl rfl 5 (by decide) k128 (fun _ h9 => h9) rfl dX6_row_61 ?_
      refine lv_aload_n hx hb dX6_row_64 rfl (lv_at hl 0 rfl) ?_
      refine va_get (D := fx_D X) (ci := 5) (v := .int v2) (C := RX6) (T := TX6) (N := 17) hx hb hts im_X6_row_X6 hown hK hP 0 rfl rfl 9 (by decide) k167 (fun _ h9 => h9) rfl dX6_row_65 ?_
      refine lv_iload_n hx hb dX6_row_68 rfl (lv_at hl 1 rfl) ?_
      refine fx_iast hx hb hK hP hD hS 1 0 rfl rfl h dX6_row_69 (fun g3 => [(a_o, .inr (5, [.ref a_o_phrases, .ref a_o_axioms, .int s_o_axiomCount, .ref a_o_triples, .int s_o_tripleCount, .ref a_o_rules, .ref a_o_instances, .ref a_o_counts, .ref a_o_premises, .int v2, .ref a_o_stated, .ref a_o_marks, .int s_o_broken, .ref a_o_text, .int s_o_size, .ref a_o_sizes, .ref a_o_places])), (a_o_rules, .inl (fx_cI X, 301, .inl g3)), (a_o_instances, .inl (fx_cI X, 301, .inl f_o_instances)), (a_o_counts, .inl (fx_cI X, 301, .inl f_o_counts)), (a_o_premises, .inl (fx_cI X, 903, .inl f_o_premises))]) (fun _ => rfl) (fun H locs g3 h hP hD hS => ?_)
      refine lv_aload_n hx hb dX6_row_70 rfl (lv_at hl 0 rfl) ?_
      refine va_get (D := fx_D X) (ci := 5) (v := .ref a_o_instances) (C := RX6) (T := TX6) (N := 17) hx hb hts im_X6_row_X6 hown hK hP 0 rfl rfl 6 (by decide) k131 (fun _ h9 => h9) rfl dX6_row_71 ?_
      refine lv_aload_n hx hb dX6_row_74 rfl (lv_at hl 0 rfl) ?_
      refine va_get (D := fx_D X) (ci := 5) (v := .int v2) (C := RX6) (T := TX6) (N := 17) hx hb hts im_X6_row_X6 hown hK hP 0 rfl rfl 9 (by decide) k167 (fun _ h9 => h9) rfl dX6_row_75 ?_
      refine lv_iload_n hx hb dX6_row_78 rfl (lv_at hl 2 rfl) ?_
      refine fx_iast hx hb hK hP hD hS 2 0 rfl rfl h dX6_row_79 (fun g4 => [(a_o, .inr (5, [.ref a_o_phrases, .ref a_o_axioms, .int s_o_axiomCount, .ref a_o_triples, .int s_o_tripleCount, .ref a_o_rules, .ref a_o_instances, .ref a_o_counts, .ref a_o_premises, .int v2, .ref a_o_stated, .ref a_o_marks, .int s_o_broken, .ref a_o_text, .int s_o_size, .ref a_o_sizes, .ref a_o_places])), (a_o_rules, .inl (fx_cI X, 301, .inl g3)), (a_o_instances, .inl (fx_cI X, 301, .inl g4)), (a_o_counts, .inl (fx_cI X, 301, .inl f_o_counts)), (a_o_premises, .inl (fx_cI X, 903, .inl f_o_premises))]) (fun _ => rfl) (fun H locs g4 h hP hD hS => ?_)
      refine lv_aload_n hx hb dX6_row_80 rfl (lv_at hl 0 rfl) ?_
      refine va_get (D := fx_D X) (ci := 5) (v := .ref a_o_counts) (C := RX6) (T := TX6) (N := 17) hx hb hts im_X6_row_X6 hown hK hP 0 rfl rfl 7 (by decide) k134 (fun _ h9 => h9) rfl dX6_row_81 ?_
      refine lv_aload_n hx hb dX6_row_84 rfl (lv_at hl 0 rfl) ?_
      refine va_get (D := fx_D X) (ci := 5) (v := .int v2) (C := RX6) (T := TX6) (N := 17) hx hb hts im_X6_row_X6 hown hK hP 0 rfl rfl 9 (by decide) k167 (fun _ h9 => h9) rfl dX6_row_85 ?_
      refine lv_iconst (v := (nI 0)) hx hb dX6_row_88 (by decide) ?_
      refine fx_iast hx hb hK hP hD hS 3 0 rfl rfl h dX6_row_89 (fun g5 => [(a_o, .inr (5, [.ref a_o_phrases, .ref a_o_axioms, .int s_o_axiomCount, .ref a_o_triples, .int s_o_tripleCount, .ref a_o_rules, .ref a_o_instances, .ref a_o_counts, .ref a_o_premises, .int v2, .ref a_o_stated, .ref a_o_marks, .int s_o_broken, .ref a_o_text, .int s_o_size, .ref a_o_sizes, .ref a_o_places])), (a_o_rules, .inl (fx_cI X, 301, .inl g3)), (a_o_instances, .inl (fx_cI X, 301, .inl g4)), (a_o_counts, .inl (fx_cI X, 301, .inl g5)), (a_o_premises, .inl (fx_cI X, 903, .inl f_o_premises))]) (fun _ => rfl) (fun H locs g5 h hP hD hS => ?_)
      refine lv_iload_n hx hb dX6_row_90 rfl (lv_at hl 3 rfl) ?_
      refine fx_if_eq (tgt := 103) hx hb h dX6_row_91 (by decide) (fun h => ?_) (fun h => ?_)
      · refine lv_aload_n hx hb dX6_row_103 rfl (lv_at hl 0 rfl) ?_
        refine va_get (D := fx_D X) (ci := 5) (v := .int v2) (C := RX6) (T := TX6) (N := 17) hx hb hts im_X6_row_X6 hown hK hP 0 rfl rfl 9 (by decide) k167 (fun _ h9 => h9) rfl dX6_row_104 ?_
        exact W.iret (v := v2) hx hb hr  (fun t ht hW => ⟨⟨v2, (v2, g3, g4, g5, f_o_premises), rfl, h, by rw [ht]; exact hP, va_K.moved hW.alike hK, hD⟩, hS.F ht⟩) hS.2.2 dX6_row_107
      refine lv_aload_n hx hb dX6_row_94 rfl (lv_at hl 0 rfl) ?_
      refine lv_aload_n hx hb dX6_row_95 rfl (lv_at hl 0 rfl) ?_
      refine va_get (D := fx_D X) (ci := 5) (v := .int v2) (C := RX6) (T := TX6) (N := 17) hx hb hts im_X6_row_X6 hown hK hP 0 rfl rfl 9 (by decide) k167 (fun _ h9 => h9) rfl dX6_row_96 ?_
      refine lv_iload_n hx hb dX6_row_99 rfl (lv_at hl 3 rfl) ?_
      have hFc := va_free (wc := [(a_o, .inr (5, [.ref a_o_phrases, .ref a_o_axioms, .int s_o_axiomCount, .ref a_o_triples, .int s_o_tripleCount, .ref a_o_rules, .ref a_o_instances, .ref a_o_counts, .ref a_o_premises, .int v2, .ref a_o_stated, .ref a_o_marks, .int s_o_broken, .ref a_o_text, .int s_o_size, .ref a_o_sizes, .ref a_o_places])), (a_o_counts, .inl (fx_cI X, 301, .inl g5)), (a_o_premises, .inl (fx_cI X, 903, .inl f_o_premises))]) hD hS hA [0, 3, 4] rfl
      refine va_callv (va_runV (As := [.int v2, .int p3]) (rest := []) ⟨hx, hb, hml, hown, hts⟩ (cw_X6_lay l X a_o a_o_phrases a_o_axioms a_o_triples a_o_rules a_o_instances a_o_counts a_o_premises a_o_stated a_o_marks a_o_text a_o_sizes a_o_places s_o_axiomCount s_o_tripleCount v2 s_o_broken s_o_size g5 f_o_premises _ v2 p3 _ h) (cwV 2 hts gX6_row_X6_lay rfl rfl rfl (by decide +kernel) ⟨Nat.le_of_ble_eq_true rfl, Nat.le_of_ble_eq_true rfl⟩) (fx_pvW hP hD hK hG hS hFc (va_recv hK hP (ci := 5) (q0 := 0) rfl rfl) [0, 3, 4] (by decide) rfl) rfl rfl hl.1 rfl (lv_room (Nat.le_of_ble_eq_true rfl)) dX6_row_100 ⟨Nat.le_of_ble_eq_true rfl, Nat.le_of_ble_eq_true rfl⟩) hS (fun q _ h => hFc q h) hFc (fun u t H locs ht hvm h hB _ hk hS => ?_)
      obtain ⟨y6, y7⟩ := u
      dsimp only at h
      obtain ⟨hP, hD⟩ := fx_back (wr := [(a_o_rules, .inl (fx_cI X, 301, .inl g3)), (a_o_instances, .inl (fx_cI X, 301, .inl g4))]) (ws' := [(a_o, .inr (5, [.ref a_o_phrases, .ref a_o_axioms, .int s_o_axiomCount, .ref a_o_triples, .int s_o_tripleCount, .ref a_o_rules, .ref a_o_instances, .ref a_o_counts, .ref a_o_premises, .int v2, .ref a_o_stated, .ref a_o_marks, .int s_o_broken, .ref a_o_text, .int s_o_size, .ref a_o_sizes, .ref a_o_places])), (a_o_rules, .inl (fx_cI X, 301, .inl g3)), (a_o_instances, .inl (fx_cI X, 301, .inl g4)), (a_o_counts, .inl (fx_cI X, 301, .inl y6)), (a_o_premises, .inl (fx_cI X, 903, .inl y7))]) hP hD [0, 3, 4] [1, 2] rfl rfl (by decide) (by decide) hk hFc hB ht [2, 0, 1, 3, 4] (by decide) rfl
      refine lv_aload_n hx hb dX6_row_103 rfl (lv_at hl 0 rfl) ?_
      refine va_get (D := fx_D X) (ci := 5) (v := .int v2) (C := RX6) (T := TX6) (N := 17) hx hb hts im_X6_row_X6 hown hK hP 0 rfl rfl 9 (by decide) k167 (fun _ h9 => h9) rfl dX6_row_104 ?_
      exact W.iret (v := v2) hx hb hr  (fun t ht hW => ⟨⟨v2, (v2, g3, g4, y6, y7), rfl, h, by rw [ht]; exact hP, va_K.moved hW.alike hK, hD⟩, hS.F ht⟩) hS.2.2 dX6_row_107
    refine lv_iconst (v := (nI 0)) hx hb dX6_row_48 (by decide) ?_
    exact W.iret (v := (nI 0)) hx hb hr  (fun t ht hW => ⟨⟨(nI 0), (s_o_rows, f_o_rules, f_o_instances, f_o_counts, f_o_premises), rfl, h, by rw [ht]; exact hP, va_K.moved hW.alike hK, hD⟩, hS.F ht⟩) hS.2.2 dX6_row_49
  refine lv_aload_n hx hb dX6_row_23 rfl (lv_at hl 0 rfl) ?_
  refine lv_iload_n hx hb dX6_row_24 rfl (lv_at hl 3 rfl) ?_
  refine vp_callSi (W.runV (As := [.int p3]) (rest := []) ⟨hx, hb, hml, hown, hts⟩ (cw_X6_isRow l X a_o a_o_phrases a_o_axioms a_o_triples a_o_rules a_o_instances a_o_counts a_o_premises a_o_stated a_o_marks a_o_text a_o_sizes a_o_places s_o_axiomCount s_o_tripleCount s_o_rows s_o_broken s_o_size p3 _ h) (cwV 1 hts gX6_row_X6_isRow rfl rfl rfl (by decide +kernel) ⟨Nat.le_of_ble_eq_true rfl, Nat.le_of_ble_eq_true rfl⟩) (fx_pv hP hK hG hS (va_recv hK hP (ci := 5) (q0 := 0) rfl rfl) [0] rfl) rfl rfl hl.1 rfl (lv_room (Nat.le_of_ble_eq_true rfl)) dX6_row_25 ⟨Nat.le_of_ble_eq_true rfl, Nat.le_of_ble_eq_true rfl⟩) (fun r11 h => ?_)
  refine fx_if_eq (tgt := 48) hx hb h dX6_row_28 (by decide) (fun h => ?_) (fun h => ?_)
  · refine lv_iconst (v := (nI 0)) hx hb dX6_row_48 (by decide) ?_
    exact W.iret (v := (nI 0)) hx hb hr  (fun t ht hW => ⟨⟨(nI 0), (s_o_rows, f_o_rules, f_o_instances, f_o_counts, f_o_premises), rfl, h, by rw [ht]; exact hP, va_K.moved hW.alike hK, hD⟩, hS.F ht⟩) hS.2.2 dX6_row_49
  refine lv_iload_n hx hb dX6_row_31 rfl (lv_at hl 1 rfl) ?_
  refine vp_callSi (W.runS (As := [.int p1]) (rest := []) ⟨hx, hb, hml, hown, hts⟩ (cw_X6_takes l X   p1 _ h) (va_cwS 1 hts gX6_row_X6_takes rfl rfl rfl (by decide +kernel) ⟨Nat.le_of_ble_eq_true rfl, Nat.le_of_ble_eq_true rfl⟩) (fx_ps (wc := []) hP hK hG hS [] rfl) rfl rfl hl.1 rfl (lv_room (Nat.le_of_ble_eq_true rfl)) dX6_row_32 ⟨Nat.le_of_ble_eq_true rfl, Nat.le_of_ble_eq_true rfl⟩) (fun r12 h => ?_)
  refine fx_if_eq (tgt := 48) hx hb h dX6_row_35 (by decide) (fun h => ?_) (fun h => ?_)
  · refine lv_iconst (v := (nI 0)) hx hb dX6_row_48 (by decide) ?_
    exact W.iret (v := (nI 0)) hx hb hr  (fun t ht hW => ⟨⟨(nI 0), (s_o_rows, f_o_rules, f_o_instances, f_o_counts, f_o_premises), rfl, h, by rw [ht]; exact hP, va_K.moved hW.alike hK, hD⟩, hS.F ht⟩) hS.2.2 dX6_row_49
  refine lv_aload_n hx hb dX6_row_38 rfl (lv_at hl 0 rfl) ?_
  refine va_get (D := fx_D X) (ci := 5) (v := .int s_o_rows) (C := RX6) (T := TX6) (N := 17) hx hb hts im_X6_row_X6 hown hK hP 0 rfl rfl 9 (by decide) k167 (fun _ h9 => h9) rfl dX6_row_39 ?_
  refine lv_sipush (v := (nI 300)) hx hb dX6_row_42 (by decide) ?_
  refine fx_icmp_ne (tgt := 50) hx hb h dX6_row_45 (by decide) (fun h => ?_) (fun h => ?_)
  · refine lv_aload_n hx hb dX6_row_50 rfl (lv_at hl 0 rfl) ?_
    refine lv_dup hx hb dX6_row_51 rfl ?_
    refine va_get (D := fx_D X) (ci := 5) (v := .int s_o_rows) (C := RX6) (T := TX6) (N := 17) hx hb hts im_X6_row_X6 hown hK hP 0 rfl rfl 9 (by decide) k167 (fun _ h9 => h9) rfl dX6_row_52 ?_
    refine lv_iconst (v := (nI 1)) hx hb dX6_row_55 (by decide) ?_
    refine fx_iadd hx hb h dX6_row_56 (fun v13 h => ?_)
    refine va_put (D := fx_D X) (ci := 5) (v := .int v13) (ty := .int) (C := RX6) (T := TX6) (N := 17) hx hb hts im_X6_row_X6 tyX6 tyX6_ok nmX6 hown hK hP hD hS 0 rfl rfl 9 (by decide) k167 (fun _ h9 => h9) rfl (by decide +kernel) rfl rfl (Nat.le_of_ble_eq_true rfl) dX6_row_57 (fun H locs hP hD hS => ?_)
    have hP : va_P (fx_D X) vwCl [(a_o, .inr (5, [.ref a_o_phrases, .ref a_o_axioms, .int s_o_axiomCount, .ref a_o_triples, .int s_o_tripleCount, .ref a_o_rules, .ref a_o_instances, .ref a_o_counts, .ref a_o_premises, .int v13, .ref a_o_stated, .ref a_o_marks, .int s_o_broken, .ref a_o_text, .int s_o_size, .ref a_o_sizes, .ref a_o_places])), (a_o_rules, .inl (fx_cI X, 301, .inl f_o_rules)), (a_o_instances, .inl (fx_cI X, 301, .inl f_o_instances)), (a_o_counts, .inl (fx_cI X, 301, .inl f_o_counts)), (a_o_premises, .inl (fx_cI X, 903, .inl f_o_premises))] H := hP
    have hD : va_D A [(a_o, .inr (5, [.ref a_o_phrases, .ref a_o_axioms, .int s_o_axiomCount, .ref a_o_triples, .int s_o_tripleCount, .ref a_o_rules, .ref a_o_instances, .ref a_o_counts, .ref a_o_premises, .int v13, .ref a_o_stated, .ref a_o_marks, .int s_o_broken, .ref a_o_text, .int s_o_size, .ref a_o_sizes, .ref a_o_places])), (a_o_rules, .inl (fx_cI X, 301, .inl f_o_rules)), (a_o_instances, .inl (fx_cI X, 301, .inl f_o_instances)), (a_o_counts, .inl (fx_cI X, 301, .inl f_o_counts)), (a_o_premises, .inl (fx_cI X, 903, .inl f_o_premises))] := hD
    refine lv_aload_n hx hb dX6_row_60 rfl (lv_at hl 0 rfl) ?_
    refine va_get (D := fx_D X) (ci := 5) (v := .ref a_o_rules) (C := RX6) (T := TX6) (N := 17) hx hb hts im_X6_row_X6 hown hK hP 0 rfl rfl 5 (by decide) k128 (fun _ h9 => h9) rfl dX6_row_61 ?_
    refine lv_aload_n hx hb dX6_row_64 rfl (lv_at hl 0 rfl) ?_
    refine va_get (D := fx_D X) (ci := 5) (v := .int v13) (C := RX6) (T := TX6) (N := 17) hx hb hts im_X6_row_X6 hown hK hP 0 rfl rfl 9 (by decide) k167 (fun _ h9 => h9) rfl dX6_row_65 ?_
    refine lv_iload_n hx hb dX6_row_68 rfl (lv_at hl 1 rfl) ?_
    refine fx_iast hx hb hK hP hD hS 1 0 rfl rfl h dX6_row_69 (fun g14 => [(a_o, .inr (5, [.ref a_o_phrases, .ref a_o_axioms, .int s_o_axiomCount, .ref a_o_triples, .int s_o_tripleCount, .ref a_o_rules, .ref a_o_instances, .ref a_o_counts, .ref a_o_premises, .int v13, .ref a_o_stated, .ref a_o_marks, .int s_o_broken, .ref a_o_text, .int s_o_size, .ref a_o_sizes, .ref a_o_places])), (a_o_rules, .inl (fx_cI X, 301, .inl g14)), (a_o_instances, .inl (fx_cI X, 301, .inl f_o_instances)), (a_o_counts, .inl (fx_cI X, 301, .inl f_o_counts)), (a_o_premises, .inl (fx_cI X, 903, .inl f_o_premises))]) (fun _ => rfl) (fun H locs g14 h hP hD hS => ?_)
    refine lv_aload_n hx hb dX6_row_70 rfl (lv_at hl 0 rfl) ?_
    refine va_get (D := fx_D X) (ci := 5) (v := .ref a_o_instances) (C := RX6) (T := TX6) (N := 17) hx hb hts im_X6_row_X6 hown hK hP 0 rfl rfl 6 (by decide) k131 (fun _ h9 => h9) rfl dX6_row_71 ?_
    refine lv_aload_n hx hb dX6_row_74 rfl (lv_at hl 0 rfl) ?_
    refine va_get (D := fx_D X) (ci := 5) (v := .int v13) (C := RX6) (T := TX6) (N := 17) hx hb hts im_X6_row_X6 hown hK hP 0 rfl rfl 9 (by decide) k167 (fun _ h9 => h9) rfl dX6_row_75 ?_
    refine lv_iload_n hx hb dX6_row_78 rfl (lv_at hl 2 rfl) ?_
    refine fx_iast hx hb hK hP hD hS 2 0 rfl rfl h dX6_row_79 (fun g15 => [(a_o, .inr (5, [.ref a_o_phrases, .ref a_o_axioms, .int s_o_axiomCount, .ref a_o_triples, .int s_o_tripleCount, .ref a_o_rules, .ref a_o_instances, .ref a_o_counts, .ref a_o_premises, .int v13, .ref a_o_stated, .ref a_o_marks, .int s_o_broken, .ref a_o_text, .int s_o_size, .ref a_o_sizes, .ref a_o_places])), (a_o_rules, .inl (fx_cI X, 301, .inl g14)), (a_o_instances, .inl (fx_cI X, 301, .inl g15)), (a_o_counts, .inl (fx_cI X, 301, .inl f_o_counts)), (a_o_premises, .inl (fx_cI X, 903, .inl f_o_premises))]) (fun _ => rfl) (fun H locs g15 h hP hD hS => ?_)
    refine lv_aload_n hx hb dX6_row_80 rfl (lv_at hl 0 rfl) ?_
    refine va_get (D := fx_D X) (ci := 5) (v := .ref a_o_counts) (C := RX6) (T := TX6) (N := 17) hx hb hts im_X6_row_X6 hown hK hP 0 rfl rfl 7 (by decide) k134 (fun _ h9 => h9) rfl dX6_row_81 ?_
    refine lv_aload_n hx hb dX6_row_84 rfl (lv_at hl 0 rfl) ?_
    refine va_get (D := fx_D X) (ci := 5) (v := .int v13) (C := RX6) (T := TX6) (N := 17) hx hb hts im_X6_row_X6 hown hK hP 0 rfl rfl 9 (by decide) k167 (fun _ h9 => h9) rfl dX6_row_85 ?_
    refine lv_iconst (v := (nI 0)) hx hb dX6_row_88 (by decide) ?_
    refine fx_iast hx hb hK hP hD hS 3 0 rfl rfl h dX6_row_89 (fun g16 => [(a_o, .inr (5, [.ref a_o_phrases, .ref a_o_axioms, .int s_o_axiomCount, .ref a_o_triples, .int s_o_tripleCount, .ref a_o_rules, .ref a_o_instances, .ref a_o_counts, .ref a_o_premises, .int v13, .ref a_o_stated, .ref a_o_marks, .int s_o_broken, .ref a_o_text, .int s_o_size, .ref a_o_sizes, .ref a_o_places])), (a_o_rules, .inl (fx_cI X, 301, .inl g14)), (a_o_instances, .inl (fx_cI X, 301, .inl g15)), (a_o_counts, .inl (fx_cI X, 301, .inl g16)), (a_o_premises, .inl (fx_cI X, 903, .inl f_o_premises))]) (fun _ => rfl) (fun H locs g16 h hP hD hS => ?_)
    refine lv_iload_n hx hb dX6_row_90 rfl (lv_at hl 3 rfl) ?_
    refine fx_if_eq (tgt := 103) hx hb h dX6_row_91 (by decide) (fun h => ?_) (fun h => ?_)
    · refine lv_aload_n hx hb dX6_row_103 rfl (lv_at hl 0 rfl) ?_
      refine va_get (D := fx_D X) (ci := 5) (v := .int v13) (C := RX6) (T := TX6) (N := 17) hx hb hts im_X6_row_X6 hown hK hP 0 rfl rfl 9 (by decide) k167 (fun _ h9 => h9) rfl dX6_row_104 ?_
      exact W.iret (v := v13) hx hb hr  (fun t ht hW => ⟨⟨v13, (v13, g14, g15, g16, f_o_premises), rfl, h, by rw [ht]; exact hP, va_K.moved hW.alike hK, hD⟩, hS.F ht⟩) hS.2.2 dX6_row_107
    refine lv_aload_n hx hb dX6_row_94 rfl (lv_at hl 0 rfl) ?_
    refine lv_aload_n hx hb dX6_row_95 rfl (lv_at hl 0 rfl) ?_
    refine va_get (D := fx_D X) (ci := 5) (v := .int v13) (C := RX6) (T := TX6) (N := 17) hx hb hts im_X6_row_X6 hown hK hP 0 rfl rfl 9 (by decide) k167 (fun _ h9 => h9) rfl dX6_row_96 ?_
    refine lv_iload_n hx hb dX6_row_99 rfl (lv_at hl 3 rfl) ?_
    have hFc := va_free (wc := [(a_o, .inr (5, [.ref a_o_phrases, .ref a_o_axioms, .int s_o_axiomCount, .ref a_o_triples, .int s_o_tripleCount, .ref a_o_rules, .ref a_o_instances, .ref a_o_counts, .ref a_o_premises, .int v13, .ref a_o_stated, .ref a_o_marks, .int s_o_broken, .ref a_o_text, .int s_o_size, .ref a_o_sizes, .ref a_o_places])), (a_o_counts, .inl (fx_cI X, 301, .inl g16)), (a_o_premises, .inl (fx_cI X, 903, .inl f_o_premises))]) hD hS hA [0, 3, 4] rfl
    refine va_callv (va_runV (As := [.int v13, .int p3]) (rest := []) ⟨hx, hb, hml, hown, hts⟩ (cw_X6_lay l X a_o a_o_phrases a_o_axioms a_o_triples a_o_rules a_o_instances a_o_counts a_o_premises a_o_stated a_o_marks a_o_text a_o_sizes a_o_places s_o_axiomCount s_o_tripleCount v13 s_o_broken s_o_size g16 f_o_premises _ v13 p3 _ h) (cwV 2 hts gX6_row_X6_lay rfl rfl rfl (by decide +kernel) ⟨Nat.le_of_ble_eq_true rfl, Nat.le_of_ble_eq_true rfl⟩) (fx_pvW hP hD hK hG hS hFc (va_recv hK hP (ci := 5) (q0 := 0) rfl rfl) [0, 3, 4] (by decide) rfl) rfl rfl hl.1 rfl (lv_room (Nat.le_of_ble_eq_true rfl)) dX6_row_100 ⟨Nat.le_of_ble_eq_true rfl, Nat.le_of_ble_eq_true rfl⟩) hS (fun q _ h => hFc q h) hFc (fun u t H locs ht hvm h hB _ hk hS => ?_)
    obtain ⟨y17, y18⟩ := u
    dsimp only at h
    obtain ⟨hP, hD⟩ := fx_back (wr := [(a_o_rules, .inl (fx_cI X, 301, .inl g14)), (a_o_instances, .inl (fx_cI X, 301, .inl g15))]) (ws' := [(a_o, .inr (5, [.ref a_o_phrases, .ref a_o_axioms, .int s_o_axiomCount, .ref a_o_triples, .int s_o_tripleCount, .ref a_o_rules, .ref a_o_instances, .ref a_o_counts, .ref a_o_premises, .int v13, .ref a_o_stated, .ref a_o_marks, .int s_o_broken, .ref a_o_text, .int s_o_size, .ref a_o_sizes, .ref a_o_places])), (a_o_rules, .inl (fx_cI X, 301, .inl g14)), (a_o_instances, .inl (fx_cI X, 301, .inl g15)), (a_o_counts, .inl (fx_cI X, 301, .inl y17)), (a_o_premises, .inl (fx_cI X, 903, .inl y18))]) hP hD [0, 3, 4] [1, 2] rfl rfl (by decide) (by decide) hk hFc hB ht [2, 0, 1, 3, 4] (by decide) rfl
    refine lv_aload_n hx hb dX6_row_103 rfl (lv_at hl 0 rfl) ?_
    refine va_get (D := fx_D X) (ci := 5) (v := .int v13) (C := RX6) (T := TX6) (N := 17) hx hb hts im_X6_row_X6 hown hK hP 0 rfl rfl 9 (by decide) k167 (fun _ h9 => h9) rfl dX6_row_104 ?_
    exact W.iret (v := v13) hx hb hr  (fun t ht hW => ⟨⟨v13, (v13, g14, g15, y17, y18), rfl, h, by rw [ht]; exact hP, va_K.moved hW.alike hK, hD⟩, hS.F ht⟩) hS.2.2 dX6_row_107
  refine lv_iconst (v := (nI 0)) hx hb dX6_row_48 (by decide) ?_
  exact W.iret (v := (nI 0)) hx hb hr  (fun t ht hW => ⟨⟨(nI 0), (s_o_rows, f_o_rules, f_o_instances, f_o_counts, f_o_premises), rfl, h, by rw [ht]; exact hP, va_K.moved hW.alike hK, hD⟩, hS.F ht⟩) hS.2.2 dX6_row_49

/-- X6_premise: its walk -/
def wp_X6_premise (post : Int32 → (Nat → Int32) → (Nat → Int32) → Prop) (s_o_rows : Int32) (f_o_rules : Nat → Int32) (f_o_counts : Nat → Int32) (f_o_premises : Nat → Int32) (p1 : Int32) (p2 : Int32) : Prop :=
  wp_X6_isRow (fun r1 => fx_br (r1 = 0) (post (-1) f_o_counts f_o_premises) (wp_X6_isRow (fun r2 => fx_br (r2 = 0) (post (-1) f_o_counts f_o_premises) (fx_br (p1 ≤ p2) (post (-3) f_o_counts f_o_premises) (fx_ix p1 301 (fun k4 => fx_nm (f_o_counts k4) (fun v3 => fx_ix p1 301 (fun k6 => fx_nm (f_o_rules k6) (fun v5 => wp_X6_takes (fun r7 => fx_br (v3 < r7) (wp_X6_lay (fun y8 y9 => fx_ix p1 301 (fun k11 => fx_nm (y8 k11) (fun v10 => post v10 y8 y9))) f_o_counts f_o_premises p1 p2) (post (-3) f_o_counts f_o_premises)) v5))))))) s_o_rows p2)) s_o_rows p1
theorem im_X6_premise_X6 : ∀ w ∈ u_ws RX6 TX6 17, w ∈ wsX6_premise := by decide +kernel
set_option maxHeartbeats 4000000 in
set_option maxRecDepth 100000 in
theorem cw_X6_premise (l : Launch) (X : fx_X) (a_o : Nat) (a_o_phrases : Nat) (a_o_axioms : Nat) (a_o_triples : Nat) (a_o_rules : Nat) (a_o_instances : Nat) (a_o_counts : Nat) (a_o_premises : Nat) (a_o_stated : Nat) (a_o_marks : Nat) (a_o_text : Nat) (a_o_sizes : Nat) (a_o_places : Nat) (s_o_axiomCount : Int32) (s_o_tripleCount : Int32) (s_o_rows : Int32) (s_o_broken : Int32) (s_o_size : Int32) (f_o_rules : Nat → Int32) (f_o_counts : Nat → Int32) (f_o_premises : Nat → Int32) (sz : Nat) (p1 : Int32) (p2 : Int32) (post : Int32 → (Nat → Int32) → (Nat → Int32) → Prop) (h : wp_X6_premise post s_o_rows f_o_rules f_o_counts f_o_premises p1 p2) : Met l yX6_premise wsX6_premise ({ frames := 1, cells := 0, slots := 0, locals := 22 }) (va_Pc [.ref a_o, .int p1, .int p2] (fx_PW X [(a_o, .inr (5, [.ref a_o_phrases, .ref a_o_axioms, .int s_o_axiomCount, .ref a_o_triples, .int s_o_tripleCount, .ref a_o_rules, .ref a_o_instances, .ref a_o_counts, .ref a_o_premises, .int s_o_rows, .ref a_o_stated, .ref a_o_marks, .int s_o_broken, .ref a_o_text, .int s_o_size, .ref a_o_sizes, .ref a_o_places])), (a_o_rules, .inl (fx_cI X, 301, .inl f_o_rules)), (a_o_counts, .inl (fx_cI X, 301, .inl f_o_counts)), (a_o_premises, .inl (fx_cI X, 903, .inl f_o_premises))] sz)) (va_Qi (fun r (u : (Nat → Int32) × (Nat → Int32)) => post r u.1 u.2) (fun (u : (Nat → Int32) × (Nat → Int32)) t => fx_EW X (va_A [(a_o, .inr (5, [.ref a_o_phrases, .ref a_o_axioms, .int s_o_axiomCount, .ref a_o_triples, .int s_o_tripleCount, .ref a_o_rules, .ref a_o_instances, .ref a_o_counts, .ref a_o_premises, .int s_o_rows, .ref a_o_stated, .ref a_o_marks, .int s_o_broken, .ref a_o_text, .int s_o_size, .ref a_o_sizes, .ref a_o_places])), (a_o_rules, .inl (fx_cI X, 301, .inl f_o_rules)), (a_o_counts, .inl (fx_cI X, 301, .inl f_o_counts)), (a_o_premises, .inl (fx_cI X, 903, .inl f_o_premises))] sz) [(a_o, .inr (5, [.ref a_o_phrases, .ref a_o_axioms, .int s_o_axiomCount, .ref a_o_triples, .int s_o_tripleCount, .ref a_o_rules, .ref a_o_instances, .ref a_o_counts, .ref a_o_premises, .int s_o_rows, .ref a_o_stated, .ref a_o_marks, .int s_o_broken, .ref a_o_text, .int s_o_size, .ref a_o_sizes, .ref a_o_places])), (a_o_rules, .inl (fx_cI X, 301, .inl f_o_rules)), (a_o_counts, .inl (fx_cI X, 301, .inl u.1)), (a_o_premises, .inl (fx_cI X, 903, .inl u.2))] t) (va_A [(a_o, .inr (5, [.ref a_o_phrases, .ref a_o_axioms, .int s_o_axiomCount, .ref a_o_triples, .int s_o_tripleCount, .ref a_o_rules, .ref a_o_instances, .ref a_o_counts, .ref a_o_premises, .int s_o_rows, .ref a_o_stated, .ref a_o_marks, .int s_o_broken, .ref a_o_text, .int s_o_size, .ref a_o_sizes, .ref a_o_places])), (a_o_rules, .inl (fx_cI X, 301, .inl f_o_rules)), (a_o_counts, .inl (fx_cI X, 301, .inl f_o_counts)), (a_o_premises, .inl (fx_cI X, 903, .inl f_o_premises))] sz)) 0 0 (va_A [(a_o, .inr (5, [.ref a_o_phrases, .ref a_o_axioms, .int s_o_axiomCount, .ref a_o_triples, .int s_o_tripleCount, .ref a_o_rules, .ref a_o_instances, .ref a_o_counts, .ref a_o_premises, .int s_o_rows, .ref a_o_stated, .ref a_o_marks, .int s_o_broken, .ref a_o_text, .int s_o_size, .ref a_o_sizes, .ref a_o_places])), (a_o_rules, .inl (fx_cI X, 301, .inl f_o_rules)), (a_o_counts, .inl (fx_cI X, 301, .inl f_o_counts)), (a_o_premises, .inl (fx_cI X, 903, .inl f_o_premises))] sz) := by
  refine Met.ofW (cc := cX6_premise) (maxL := 3) (ret := (some .int)) (by decide) rfl ?_
  intro p e s m args below meth c s₁ B hml hv
  obtain ⟨rfl, hsz, hP, hK, hD0, hG⟩ := hv
  have hx := B.exec
  have hb := B.bytes
  have hr := B.returns
  have hts := atoms_spec (ws := wsX6_premise) B.pre
  have hown : s.vm.findClass RX6 = some m.cls := findClass_of_methodNamed B.named
  have hlocks := B.notSynchronized
  subst hsz
  have hD := hD0.self (sz := s.heap.size)
  generalize hAe : va_A [(a_o, .inr (5, [.ref a_o_phrases, .ref a_o_axioms, .int s_o_axiomCount, .ref a_o_triples, .int s_o_tripleCount, .ref a_o_rules, .ref a_o_instances, .ref a_o_counts, .ref a_o_premises, .int s_o_rows, .ref a_o_stated, .ref a_o_marks, .int s_o_broken, .ref a_o_text, .int s_o_size, .ref a_o_sizes, .ref a_o_places])), (a_o_rules, .inl (fx_cI X, 301, .inl f_o_rules)), (a_o_counts, .inl (fx_cI X, 301, .inl f_o_counts)), (a_o_premises, .inl (fx_cI X, 903, .inl f_o_premises))] s.heap.size = A at hD hG ⊢
  have hA : ∀ q : Nat, s.heap.size ≤ q → A q := fun q h => by rw [← hAe]; exact Or.inr h
  have hS : va_S A s.heap s.heap [] := va_S.rf
  have k134 := hts (.fieldLink RX6 134 "ProofCheckerModel" "counts" "[I") (by decide +kernel)
  have k128 := hts (.fieldLink RX6 128 "ProofCheckerModel" "rules" "[I") (by decide +kernel)
  have hl := lv_entry ([.ref a_o, .int p1, .int p2]) (n := 3) (Nat.le_of_ble_eq_true rfl)
  rw [lg_entry_eq]
  generalize (lg_sl ([.ref a_o, .int p1, .int p2]) ++ List.replicate (3 - (lg_sl ([.ref a_o, .int p1, .int p2])).length) Slot.unset).toArray = ls at hl ⊢
  have hl : lv_has ls 3 [(0, .ref a_o), (1, .int p1), (2, .int p2)] := hl
  unfold wp_X6_premise at h
  refine lv_aload_n hx hb dX6_premise_0 rfl (lv_at hl 0 rfl) ?_
  refine lv_iload_n hx hb dX6_premise_1 rfl (lv_at hl 1 rfl) ?_
  refine vp_callSi (W.runV (As := [.int p1]) (rest := []) ⟨hx, hb, hml, hown, hts⟩ (cw_X6_isRow l X a_o a_o_phrases a_o_axioms a_o_triples a_o_rules a_o_instances a_o_counts a_o_premises a_o_stated a_o_marks a_o_text a_o_sizes a_o_places s_o_axiomCount s_o_tripleCount s_o_rows s_o_broken s_o_size p1 _ h) (cwV 1 hts gX6_premise_X6_isRow rfl rfl rfl (by decide +kernel) ⟨Nat.le_of_ble_eq_true rfl, Nat.le_of_ble_eq_true rfl⟩) (fx_pv hP hK hG hS (va_recv hK hP (ci := 5) (q0 := 0) rfl rfl) [0] rfl) rfl rfl hl.1 rfl (lv_room (Nat.le_of_ble_eq_true rfl)) dX6_premise_2 ⟨Nat.le_of_ble_eq_true rfl, Nat.le_of_ble_eq_true rfl⟩) (fun r1 h => ?_)
  refine fx_if_eq (tgt := 16) hx hb h dX6_premise_5 (by decide) (fun h => ?_) (fun h => ?_)
  · refine lv_iconst (v := (-1)) hx hb dX6_premise_16 (by decide) ?_
    exact W.iret (v := (-1)) hx hb hr  (fun t ht hW => ⟨⟨(-1), (f_o_counts, f_o_premises), rfl, h, by rw [ht]; exact hP, va_K.moved hW.alike hK, hD⟩, hS.F ht⟩) hS.2.2 dX6_premise_17
  refine lv_aload_n hx hb dX6_premise_8 rfl (lv_at hl 0 rfl) ?_
  refine lv_iload_n hx hb dX6_premise_9 rfl (lv_at hl 2 rfl) ?_
  refine vp_callSi (W.runV (As := [.int p2]) (rest := []) ⟨hx, hb, hml, hown, hts⟩ (cw_X6_isRow l X a_o a_o_phrases a_o_axioms a_o_triples a_o_rules a_o_instances a_o_counts a_o_premises a_o_stated a_o_marks a_o_text a_o_sizes a_o_places s_o_axiomCount s_o_tripleCount s_o_rows s_o_broken s_o_size p2 _ h) (cwV 1 hts gX6_premise_X6_isRow rfl rfl rfl (by decide +kernel) ⟨Nat.le_of_ble_eq_true rfl, Nat.le_of_ble_eq_true rfl⟩) (fx_pv hP hK hG hS (va_recv hK hP (ci := 5) (q0 := 0) rfl rfl) [0] rfl) rfl rfl hl.1 rfl (lv_room (Nat.le_of_ble_eq_true rfl)) dX6_premise_10 ⟨Nat.le_of_ble_eq_true rfl, Nat.le_of_ble_eq_true rfl⟩) (fun r2 h => ?_)
  refine fx_if_ne (tgt := 18) hx hb h dX6_premise_13 (by decide) (fun h => ?_) (fun h => ?_)
  · refine lv_iload_n hx hb dX6_premise_18 rfl (lv_at hl 2 rfl) ?_
    refine lv_iload_n hx hb dX6_premise_19 rfl (lv_at hl 1 rfl) ?_
    refine fx_icmp_ge (tgt := 41) hx hb h dX6_premise_20 (by decide) (fun h => ?_) (fun h => ?_)
    · refine lv_bipush (v := (-3)) hx hb dX6_premise_41 (by decide) ?_
      exact W.iret (v := (-3)) hx hb hr  (fun t ht hW => ⟨⟨(-3), (f_o_counts, f_o_premises), rfl, h, by rw [ht]; exact hP, va_K.moved hW.alike hK, hD⟩, hS.F ht⟩) hS.2.2 dX6_premise_43
    refine lv_aload_n hx hb dX6_premise_23 rfl (lv_at hl 0 rfl) ?_
    refine va_get (D := fx_D X) (ci := 5) (v := .ref a_o_counts) (C := RX6) (T := TX6) (N := 17) hx hb hts im_X6_premise_X6 hown hK hP 0 rfl rfl 7 (by decide) k134 (fun _ h9 => h9) rfl dX6_premise_24 ?_
    refine lv_iload_n hx hb dX6_premise_27 rfl (lv_at hl 1 rfl) ?_
    refine fx_iald hx hb hK hP 2 0 rfl rfl h dX6_premise_28 (fun v3 h => ?_)
    refine lv_aload_n hx hb dX6_premise_29 rfl (lv_at hl 0 rfl) ?_
    refine va_get (D := fx_D X) (ci := 5) (v := .ref a_o_rules) (C := RX6) (T := TX6) (N := 17) hx hb hts im_X6_premise_X6 hown hK hP 0 rfl rfl 5 (by decide) k128 (fun _ h9 => h9) rfl dX6_premise_30 ?_
    refine lv_iload_n hx hb dX6_premise_33 rfl (lv_at hl 1 rfl) ?_
    refine fx_iald hx hb hK hP 1 0 rfl rfl h dX6_premise_34 (fun v5 h => ?_)
    refine vp_callSi (W.runS (As := [.int v5]) (rest := [.int v3]) ⟨hx, hb, hml, hown, hts⟩ (cw_X6_takes l X   v5 _ h) (va_cwS 1 hts gX6_premise_X6_takes rfl rfl rfl (by decide +kernel) ⟨Nat.le_of_ble_eq_true rfl, Nat.le_of_ble_eq_true rfl⟩) (fx_ps (wc := []) hP hK hG hS [] rfl) rfl rfl hl.1 rfl (lv_room (Nat.le_of_ble_eq_true rfl)) dX6_premise_35 ⟨Nat.le_of_ble_eq_true rfl, Nat.le_of_ble_eq_true rfl⟩) (fun r7 h => ?_)
    refine fx_icmp_lt (tgt := 44) hx hb h dX6_premise_38 (by decide) (fun h => ?_) (fun h => ?_)
    · refine lv_aload_n hx hb dX6_premise_44 rfl (lv_at hl 0 rfl) ?_
      refine lv_iload_n hx hb dX6_premise_45 rfl (lv_at hl 1 rfl) ?_
      refine lv_iload_n hx hb dX6_premise_46 rfl (lv_at hl 2 rfl) ?_
      have hFc := va_free (wc := [(a_o, .inr (5, [.ref a_o_phrases, .ref a_o_axioms, .int s_o_axiomCount, .ref a_o_triples, .int s_o_tripleCount, .ref a_o_rules, .ref a_o_instances, .ref a_o_counts, .ref a_o_premises, .int s_o_rows, .ref a_o_stated, .ref a_o_marks, .int s_o_broken, .ref a_o_text, .int s_o_size, .ref a_o_sizes, .ref a_o_places])), (a_o_counts, .inl (fx_cI X, 301, .inl f_o_counts)), (a_o_premises, .inl (fx_cI X, 903, .inl f_o_premises))]) hD hS hA [0, 2, 3] rfl
      refine va_callv (va_runV (As := [.int p1, .int p2]) (rest := []) ⟨hx, hb, hml, hown, hts⟩ (cw_X6_lay l X a_o a_o_phrases a_o_axioms a_o_triples a_o_rules a_o_instances a_o_counts a_o_premises a_o_stated a_o_marks a_o_text a_o_sizes a_o_places s_o_axiomCount s_o_tripleCount s_o_rows s_o_broken s_o_size f_o_counts f_o_premises _ p1 p2 _ h) (cwV 2 hts gX6_premise_X6_lay rfl rfl rfl (by decide +kernel) ⟨Nat.le_of_ble_eq_true rfl, Nat.le_of_ble_eq_true rfl⟩) (fx_pvW hP hD hK hG hS hFc (va_recv hK hP (ci := 5) (q0 := 0) rfl rfl) [0, 2, 3] (by decide) rfl) rfl rfl hl.1 rfl (lv_room (Nat.le_of_ble_eq_true rfl)) dX6_premise_47 ⟨Nat.le_of_ble_eq_true rfl, Nat.le_of_ble_eq_true rfl⟩) hS (fun q _ h => hFc q h) hFc (fun u t H locs ht hvm h hB _ hk hS => ?_)
      obtain ⟨y8, y9⟩ := u
      dsimp only at h
      obtain ⟨hP, hD⟩ := fx_back (wr := [(a_o_rules, .inl (fx_cI X, 301, .inl f_o_rules))]) (ws' := [(a_o, .inr (5, [.ref a_o_phrases, .ref a_o_axioms, .int s_o_axiomCount, .ref a_o_triples, .int s_o_tripleCount, .ref a_o_rules, .ref a_o_instances, .ref a_o_counts, .ref a_o_premises, .int s_o_rows, .ref a_o_stated, .ref a_o_marks, .int s_o_broken, .ref a_o_text, .int s_o_size, .ref a_o_sizes, .ref a_o_places])), (a_o_rules, .inl (fx_cI X, 301, .inl f_o_rules)), (a_o_counts, .inl (fx_cI X, 301, .inl y8)), (a_o_premises, .inl (fx_cI X, 903, .inl y9))]) hP hD [0, 2, 3] [1] rfl rfl (by decide) (by decide) hk hFc hB ht [1, 0, 2, 3] (by decide) rfl
      refine lv_aload_n hx hb dX6_premise_50 rfl (lv_at hl 0 rfl) ?_
      refine va_get (D := fx_D X) (ci := 5) (v := .ref a_o_counts) (C := RX6) (T := TX6) (N := 17) hx hb hts im_X6_premise_X6 hown hK hP 0 rfl rfl 7 (by decide) k134 (fun _ h9 => h9) rfl dX6_premise_51 ?_
      refine lv_iload_n hx hb dX6_premise_54 rfl (lv_at hl 1 rfl) ?_
      refine fx_iald hx hb hK hP 2 0 rfl rfl h dX6_premise_55 (fun v10 h => ?_)
      exact W.iret (v := v10) hx hb hr  (fun t ht hW => ⟨⟨v10, (y8, y9), rfl, h, by rw [ht]; exact hP, va_K.moved hW.alike hK, hD⟩, hS.F ht⟩) hS.2.2 dX6_premise_56
    refine lv_bipush (v := (-3)) hx hb dX6_premise_41 (by decide) ?_
    exact W.iret (v := (-3)) hx hb hr  (fun t ht hW => ⟨⟨(-3), (f_o_counts, f_o_premises), rfl, h, by rw [ht]; exact hP, va_K.moved hW.alike hK, hD⟩, hS.F ht⟩) hS.2.2 dX6_premise_43
  refine lv_iconst (v := (-1)) hx hb dX6_premise_16 (by decide) ?_
  exact W.iret (v := (-1)) hx hb hr  (fun t ht hW => ⟨⟨(-1), (f_o_counts, f_o_premises), rfl, h, by rw [ht]; exact hP, va_K.moved hW.alike hK, hD⟩, hS.F ht⟩) hS.2.2 dX6_premise_17

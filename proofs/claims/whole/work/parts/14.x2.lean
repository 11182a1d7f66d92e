/-- X2_has: its walk -/
def wp_X2_has (post : Int32 → Prop) (s_o_last : Int32) (p1 : Int32) : Prop :=
  fx_br (p1 < (nI 1)) (post (nI 0)) (fx_br (s_o_last < p1) (post (nI 0)) (fx_br ((nI 300) < p1) (post (nI 0)) (post (nI 1))))
theorem im_X2_has_X2 : ∀ w ∈ u_ws RX2 TX2 5, w ∈ wsX2_has := by decide +kernel
set_option maxHeartbeats 4000000 in
set_option maxRecDepth 100000 in
theorem cw_X2_has (l : Launch) (X : fx_X) (a_o : Nat) (a_o_ruleNumbers : Nat) (a_o_instances : Nat) (a_o_premiseCounts : Nat) (a_o_premises : Nat) (s_o_last : Int32) (p1 : Int32) (post : Int32 → Prop) (h : wp_X2_has post s_o_last p1) : Met l yX2_has wsX2_has ({ frames := 0, cells := 0, slots := 0, locals := 0 }) (va_Pc [.ref a_o, .int p1] (fx_PP X [(a_o, .inr (2, [.ref a_o_ruleNumbers, .ref a_o_instances, .ref a_o_premiseCounts, .ref a_o_premises, .int s_o_last]))])) (vp_Si post) 0 0 (fun _ => False) := by
  refine Met.ofW (cc := cX2_has) (maxL := 2) (ret := (some .boolean)) (by decide) rfl ?_
  intro p e s m args below meth c s₁ B hml hv
  obtain ⟨rfl, hP, hK, hG⟩ := hv
  have hx := B.exec
  have hb := B.bytes
  have hr := B.returns
  have hts := atoms_spec (ws := wsX2_has) B.pre
  have hown : s.vm.findClass RX2 = some m.cls := findClass_of_methodNamed B.named
  have hlocks := B.notSynchronized
  have hS : va_S (fun _ => False) s.heap s.heap [] := va_S.rf
  have k24 := hts (.fieldLink RX2 24 "ProofChecker$Rows" "last" "I") (by decide +kernel)
  have hl := lv_entry ([.ref a_o, .int p1]) (n := 2) (Nat.le_of_ble_eq_true rfl)
  rw [lg_entry_eq]
  generalize (lg_sl ([.ref a_o, .int p1]) ++ List.replicate (2 - (lg_sl ([.ref a_o, .int p1])).length) Slot.unset).toArray = ls at hl ⊢
  have hl : lv_has ls 2 [(0, .ref a_o), (1, .int p1)] := hl
  unfold wp_X2_has at h
  refine lv_iload_n hx hb dX2_has_0 rfl (lv_at hl 1 rfl) ?_
  refine lv_iconst (v := (nI 1)) hx hb dX2_has_1 (by decide) ?_
  refine fx_icmp_lt (tgt := 24) hx hb h dX2_has_2 (by decide) (fun h => ?_) (fun h => ?_)
  · refine lv_iconst (v := (nI 0)) hx hb dX2_has_24 (by decide) ?_
    exact W.zret (v := (nI 0)) hx hb hr rfl (fun t ht hW => ⟨_, rfl, h, ht⟩) (fun q hq => by cases hq) dX2_has_25
  refine lv_iload_n hx hb dX2_has_5 rfl (lv_at hl 1 rfl) ?_
  refine lv_aload_n hx hb dX2_has_6 rfl (lv_at hl 0 rfl) ?_
  refine va_get (D := fx_D X) (ci := 2) (v := .int s_o_last) (C := RX2) (T := TX2) (N := 5) hx hb hts im_X2_has_X2 hown hK hP 0 rfl rfl 4 (by decide) k24 (fun _ h9 => h9) rfl dX2_has_7 ?_
  refine fx_icmp_gt (tgt := 24) hx hb h dX2_has_10 (by decide) (fun h => ?_) (fun h => ?_)
  · refine lv_iconst (v := (nI 0)) hx hb dX2_has_24 (by decide) ?_
    exact W.zret (v := (nI 0)) hx hb hr rfl (fun t ht hW => ⟨_, rfl, h, ht⟩) (fun q hq => by cases hq) dX2_has_25
  refine lv_iload_n hx hb dX2_has_13 rfl (lv_at hl 1 rfl) ?_
  refine lv_sipush (v := (nI 300)) hx hb dX2_has_14 (by decide) ?_
  refine fx_icmp_gt (tgt := 24) hx hb h dX2_has_17 (by decide) (fun h => ?_) (fun h => ?_)
  · refine lv_iconst (v := (nI 0)) hx hb dX2_has_24 (by decide) ?_
    exact W.zret (v := (nI 0)) hx hb hr rfl (fun t ht hW => ⟨_, rfl, h, ht⟩) (fun q hq => by cases hq) dX2_has_25
  refine lv_iconst (v := (nI 1)) hx hb dX2_has_20 (by decide) ?_
  refine lv_goto (tgt := 25) hx hb dX2_has_21 (by decide) ?_
  exact W.zret (v := (nI 1)) hx hb hr rfl (fun t ht hW => ⟨_, rfl, h, ht⟩) (fun q hq => by cases hq) dX2_has_25

/-- X2_last: its walk -/
def wp_X2_last (post : Int32 → Prop) (s_o_last : Int32) : Prop :=
  post s_o_last
theorem im_X2_last_X2 : ∀ w ∈ u_ws RX2 TX2 5, w ∈ wsX2_last := by decide +kernel
set_option maxHeartbeats 4000000 in
set_option maxRecDepth 100000 in
theorem cw_X2_last (l : Launch) (X : fx_X) (a_o : Nat) (a_o_ruleNumbers : Nat) (a_o_instances : Nat) (a_o_premiseCounts : Nat) (a_o_premises : Nat) (s_o_last : Int32)  (post : Int32 → Prop) (h : wp_X2_last post s_o_last) : Met l yX2_last wsX2_last ({ frames := 0, cells := 0, slots := 0, locals := 0 }) (va_Pc [.ref a_o] (fx_PP X [(a_o, .inr (2, [.ref a_o_ruleNumbers, .ref a_o_instances, .ref a_o_premiseCounts, .ref a_o_premises, .int s_o_last]))])) (vp_Si post) 0 0 (fun _ => False) := by
  refine Met.ofW (cc := cX2_last) (maxL := 1) (ret := (some .int)) (by decide) rfl ?_
  intro p e s m args below meth c s₁ B hml hv
  obtain ⟨rfl, hP, hK, hG⟩ := hv
  have hx := B.exec
  have hb := B.bytes
  have hr := B.returns
  have hts := atoms_spec (ws := wsX2_last) B.pre
  have hown : s.vm.findClass RX2 = some m.cls := findClass_of_methodNamed B.named
  have hlocks := B.notSynchronized
  have hS : va_S (fun _ => False) s.heap s.heap [] := va_S.rf
  have k24 := hts (.fieldLink RX2 24 "ProofChecker$Rows" "last" "I") (by decide +kernel)
  have hl := lv_entry ([.ref a_o]) (n := 1) (Nat.le_of_ble_eq_true rfl)
  rw [lg_entry_eq]
  generalize (lg_sl ([.ref a_o]) ++ List.replicate (1 - (lg_sl ([.ref a_o])).length) Slot.unset).toArray = ls at hl ⊢
  have hl : lv_has ls 1 [(0, .ref a_o)] := hl
  unfold wp_X2_last at h
  refine lv_aload_n hx hb dX2_last_0 rfl (lv_at hl 0 rfl) ?_
  refine va_get (D := fx_D X) (ci := 2) (v := .int s_o_last) (C := RX2) (T := TX2) (N := 5) hx hb hts im_X2_last_X2 hown hK hP 0 rfl rfl 4 (by decide) k24 (fun _ h9 => h9) rfl dX2_last_1 ?_
  exact W.iret (v := s_o_last) hx hb hr  (fun t ht hW => ⟨_, rfl, h, ht⟩) (fun q hq => by cases hq) dX2_last_4

/-- X2_ruleNumber: its walk -/
def wp_X2_ruleNumber (post : Int32 → Prop) (s_o_last : Int32) (f_o_ruleNumbers : Nat → Int32) (p1 : Int32) : Prop :=
  wp_X2_has (fun r1 => fx_br (r1 = 0) (post (-1)) (fx_ix p1 301 (fun k3 => fx_nm (f_o_ruleNumbers k3) (fun v2 => post v2)))) s_o_last p1
theorem im_X2_ruleNumber_X2 : ∀ w ∈ u_ws RX2 TX2 5, w ∈ wsX2_ruleNumber := by decide +kernel
set_option maxHeartbeats 4000000 in
set_option maxRecDepth 100000 in
theorem cw_X2_ruleNumber (l : Launch) (X : fx_X) (a_o : Nat) (a_o_ruleNumbers : Nat) (a_o_instances : Nat) (a_o_premiseCounts : Nat) (a_o_premises : Nat) (s_o_last : Int32) (f_o_ruleNumbers : Nat → Int32) (p1 : Int32) (post : Int32 → Prop) (h : wp_X2_ruleNumber post s_o_last f_o_ruleNumbers p1) : Met l yX2_ruleNumber wsX2_ruleNumber ({ frames := 1, cells := 0, slots := 0, locals := 21 }) (va_Pc [.ref a_o, .int p1] (fx_PP X [(a_o, .inr (2, [.ref a_o_ruleNumbers, .ref a_o_instances, .ref a_o_premiseCounts, .ref a_o_premises, .int s_o_last])), (a_o_ruleNumbers, .inl (fx_cI X, 301, .inl f_o_ruleNumbers))])) (vp_Si post) 0 0 (fun _ => False) := by
  refine Met.ofW (cc := cX2_ruleNumber) (maxL := 2) (ret := (some .int)) (by decide) rfl ?_
  intro p e s m args below meth c s₁ B hml hv
  obtain ⟨rfl, hP, hK, hG⟩ := hv
  have hx := B.exec
  have hb := B.bytes
  have hr := B.returns
  have hts := atoms_spec (ws := wsX2_ruleNumber) B.pre
  have hown : s.vm.findClass RX2 = some m.cls := findClass_of_methodNamed B.named
  have hlocks := B.notSynchronized
  have hS : va_S (fun _ => False) s.heap s.heap [] := va_S.rf
  have k9 := hts (.fieldLink RX2 9 "ProofChecker$Rows" "ruleNumbers" "[I") (by decide +kernel)
  have hl := lv_entry ([.ref a_o, .int p1]) (n := 2) (Nat.le_of_ble_eq_true rfl)
  rw [lg_entry_eq]
  generalize (lg_sl ([.ref a_o, .int p1]) ++ List.replicate (2 - (lg_sl ([.ref a_o, .int p1])).length) Slot.unset).toArray = ls at hl ⊢
  have hl : lv_has ls 2 [(0, .ref a_o), (1, .int p1)] := hl
  unfold wp_X2_ruleNumber at h
  refine lv_aload_n hx hb dX2_ruleNumber_0 rfl (lv_at hl 0 rfl) ?_
  refine lv_iload_n hx hb dX2_ruleNumber_1 rfl (lv_at hl 1 rfl) ?_
  refine vp_callSi (W.runV (As := [.int p1]) (rest := []) ⟨hx, hb, hml, hown, hts⟩ (cw_X2_has l X a_o a_o_ruleNumbers a_o_instances a_o_premiseCounts a_o_premises s_o_last p1 _ h) (cwV 1 hts gX2_ruleNumber_X2_has rfl rfl rfl (by decide +kernel) ⟨Nat.le_of_ble_eq_true rfl, Nat.le_of_ble_eq_true rfl⟩) (fx_pv hP hK hG hS (va_recv hK hP (ci := 2) (q0 := 0) rfl rfl) [0] rfl) rfl rfl hl.1 rfl (lv_room (Nat.le_of_ble_eq_true rfl)) dX2_ruleNumber_2 ⟨Nat.le_of_ble_eq_true rfl, Nat.le_of_ble_eq_true rfl⟩) (fun r1 h => ?_)
  refine fx_if_eq (tgt := 17) hx hb h dX2_ruleNumber_5 (by decide) (fun h => ?_) (fun h => ?_)
  · refine lv_iconst (v := (-1)) hx hb dX2_ruleNumber_17 (by decide) ?_
    exact W.iret (v := (-1)) hx hb hr  (fun t ht hW => ⟨_, rfl, h, ht⟩) (fun q hq => by cases hq) dX2_ruleNumber_18
  refine lv_aload_n hx hb dX2_ruleNumber_8 rfl (lv_at hl 0 rfl) ?_
  refine va_get (D := fx_D X) (ci := 2) (v := .ref a_o_ruleNumbers) (C := RX2) (T := TX2) (N := 5) hx hb hts im_X2_ruleNumber_X2 hown hK hP 0 rfl rfl 0 (by decide) k9 (fun _ h9 => h9) rfl dX2_ruleNumber_9 ?_
  refine lv_iload_n hx hb dX2_ruleNumber_12 rfl (lv_at hl 1 rfl) ?_
  refine fx_iald hx hb hK hP 1 0 rfl rfl h dX2_ruleNumber_13 (fun v2 h => ?_)
  refine lv_goto (tgt := 18) hx hb dX2_ruleNumber_14 (by decide) ?_
  exact W.iret (v := v2) hx hb hr  (fun t ht hW => ⟨_, rfl, h, ht⟩) (fun q hq => by cases hq) dX2_ruleNumber_18

/-- X2_instance: its walk -/
def wp_X2_instance (post : Int32 → Prop) (s_o_last : Int32) (f_o_instances : Nat → Int32) (p1 : Int32) : Prop :=
  wp_X2_has (fun r1 => fx_br (r1 = 0) (post (nI 0)) (fx_ix p1 301 (fun k3 => fx_nm (f_o_instances k3) (fun v2 => post v2)))) s_o_last p1
theorem im_X2_instance_X2 : ∀ w ∈ u_ws RX2 TX2 5, w ∈ wsX2_instance := by decide +kernel
set_option maxHeartbeats 4000000 in
set_option maxRecDepth 100000 in
theorem cw_X2_instance (l : Launch) (X : fx_X) (a_o : Nat) (a_o_ruleNumbers : Nat) (a_o_instances : Nat) (a_o_premiseCounts : Nat) (a_o_premises : Nat) (s_o_last : Int32) (f_o_instances : Nat → Int32) (p1 : Int32) (post : Int32 → Prop) (h : wp_X2_instance post s_o_last f_o_instances p1) : Met l yX2_instance wsX2_instance ({ frames := 1, cells := 0, slots := 0, locals := 21 }) (va_Pc [.ref a_o, .int p1] (fx_PP X [(a_o, .inr (2, [.ref a_o_ruleNumbers, .ref a_o_instances, .ref a_o_premiseCounts, .ref a_o_premises, .int s_o_last])), (a_o_instances, .inl (fx_cI X, 301, .inl f_o_instances))])) (vp_Si post) 0 0 (fun _ => False) := by
  refine Met.ofW (cc := cX2_instance) (maxL := 2) (ret := (some .int)) (by decide) rfl ?_
  intro p e s m args below meth c s₁ B hml hv
  obtain ⟨rfl, hP, hK, hG⟩ := hv
  have hx := B.exec
  have hb := B.bytes
  have hr := B.returns
  have hts := atoms_spec (ws := wsX2_instance) B.pre
  have hown : s.vm.findClass RX2 = some m.cls := findClass_of_methodNamed B.named
  have hlocks := B.notSynchronized
  have hS : va_S (fun _ => False) s.heap s.heap [] := va_S.rf
  have k15 := hts (.fieldLink RX2 15 "ProofChecker$Rows" "instances" "[I") (by decide +kernel)
  have hl := lv_entry ([.ref a_o, .int p1]) (n := 2) (Nat.le_of_ble_eq_true rfl)
  rw [lg_entry_eq]
  generalize (lg_sl ([.ref a_o, .int p1]) ++ List.replicate (2 - (lg_sl ([.ref a_o, .int p1])).length) Slot.unset).toArray = ls at hl ⊢
  have hl : lv_has ls 2 [(0, .ref a_o), (1, .int p1)] := hl
  unfold wp_X2_instance at h
  refine lv_aload_n hx hb dX2_instance_0 rfl (lv_at hl 0 rfl) ?_
  refine lv_iload_n hx hb dX2_instance_1 rfl (lv_at hl 1 rfl) ?_
  refine vp_callSi (W.runV (As := [.int p1]) (rest := []) ⟨hx, hb, hml, hown, hts⟩ (cw_X2_has l X a_o a_o_ruleNumbers a_o_instances a_o_premiseCounts a_o_premises s_o_last p1 _ h) (cwV 1 hts gX2_instance_X2_has rfl rfl rfl (by decide +kernel) ⟨Nat.le_of_ble_eq_true rfl, Nat.le_of_ble_eq_true rfl⟩) (fx_pv hP hK hG hS (va_recv hK hP (ci := 2) (q0 := 0) rfl rfl) [0] rfl) rfl rfl hl.1 rfl (lv_room (Nat.le_of_ble_eq_true rfl)) dX2_instance_2 ⟨Nat.le_of_ble_eq_true rfl, Nat.le_of_ble_eq_true rfl⟩) (fun r1 h => ?_)
  refine fx_if_eq (tgt := 17) hx hb h dX2_instance_5 (by decide) (fun h => ?_) (fun h => ?_)
  · refine lv_iconst (v := (nI 0)) hx hb dX2_instance_17 (by decide) ?_
    exact W.iret (v := (nI 0)) hx hb hr  (fun t ht hW => ⟨_, rfl, h, ht⟩) (fun q hq => by cases hq) dX2_instance_18
  refine lv_aload_n hx hb dX2_instance_8 rfl (lv_at hl 0 rfl) ?_
  refine va_get (D := fx_D X) (ci := 2) (v := .ref a_o_instances) (C := RX2) (T := TX2) (N := 5) hx hb hts im_X2_instance_X2 hown hK hP 0 rfl rfl 1 (by decide) k15 (fun _ h9 => h9) rfl dX2_instance_9 ?_
  refine lv_iload_n hx hb dX2_instance_12 rfl (lv_at hl 1 rfl) ?_
  refine fx_iald hx hb hK hP 1 0 rfl rfl h dX2_instance_13 (fun v2 h => ?_)
  refine lv_goto (tgt := 18) hx hb dX2_instance_14 (by decide) ?_
  exact W.iret (v := v2) hx hb hr  (fun t ht hW => ⟨_, rfl, h, ht⟩) (fun q hq => by cases hq) dX2_instance_18

/-- X2_premiseCount: its walk -/
def wp_X2_premiseCount (post : Int32 → Prop) (s_o_last : Int32) (f_o_premiseCounts : Nat → Int32) (p1 : Int32) : Prop :=
  wp_X2_has (fun r1 => fx_br (r1 = 0) (post (nI 0)) (fx_ix p1 301 (fun k3 => fx_nm (f_o_premiseCounts k3) (fun v2 => post v2)))) s_o_last p1
theorem im_X2_premiseCount_X2 : ∀ w ∈ u_ws RX2 TX2 5, w ∈ wsX2_premiseCount := by decide +kernel
set_option maxHeartbeats 4000000 in
set_option maxRecDepth 100000 in
theorem cw_X2_premiseCount (l : Launch) (X : fx_X) (a_o : Nat) (a_o_ruleNumbers : Nat) (a_o_instances : Nat) (a_o_premiseCounts : Nat) (a_o_premises : Nat) (s_o_last : Int32) (f_o_premiseCounts : Nat → Int32) (p1 : Int32) (post : Int32 → Prop) (h : wp_X2_premiseCount post s_o_last f_o_premiseCounts p1) : Met l yX2_premiseCount wsX2_premiseCount ({ frames := 1, cells := 0, slots := 0, locals := 21 }) (va_Pc [.ref a_o, .int p1] (fx_PP X [(a_o, .inr (2, [.ref a_o_ruleNumbers, .ref a_o_instances, .ref a_o_premiseCounts, .ref a_o_premises, .int s_o_last])), (a_o_premiseCounts, .inl (fx_cI X, 301, .inl f_o_premiseCounts))])) (vp_Si post) 0 0 (fun _ => False) := by
  refine Met.ofW (cc := cX2_premiseCount) (maxL := 2) (ret := (some .int)) (by decide) rfl ?_
  intro p e s m args below meth c s₁ B hml hv
  obtain ⟨rfl, hP, hK, hG⟩ := hv
  have hx := B.exec
  have hb := B.bytes
  have hr := B.returns
  have hts := atoms_spec (ws := wsX2_premiseCount) B.pre
  have hown : s.vm.findClass RX2 = some m.cls := findClass_of_methodNamed B.named
  have hlocks := B.notSynchronized
  have hS : va_S (fun _ => False) s.heap s.heap [] := va_S.rf
  have k18 := hts (.fieldLink RX2 18 "ProofChecker$Rows" "premiseCounts" "[I") (by decide +kernel)
  have hl := lv_entry ([.ref a_o, .int p1]) (n := 2) (Nat.le_of_ble_eq_true rfl)
  rw [lg_entry_eq]
  generalize (lg_sl ([.ref a_o, .int p1]) ++ List.replicate (2 - (lg_sl ([.ref a_o, .int p1])).length) Slot.unset).toArray = ls at hl ⊢
  have hl : lv_has ls 2 [(0, .ref a_o), (1, .int p1)] := hl
  unfold wp_X2_premiseCount at h
  refine lv_aload_n hx hb dX2_premiseCount_0 rfl (lv_at hl 0 rfl) ?_
  refine lv_iload_n hx hb dX2_premiseCount_1 rfl (lv_at hl 1 rfl) ?_
  refine vp_callSi (W.runV (As := [.int p1]) (rest := []) ⟨hx, hb, hml, hown, hts⟩ (cw_X2_has l X a_o a_o_ruleNumbers a_o_instances a_o_premiseCounts a_o_premises s_o_last p1 _ h) (cwV 1 hts gX2_premiseCount_X2_has rfl rfl rfl (by decide +kernel) ⟨Nat.le_of_ble_eq_true rfl, Nat.le_of_ble_eq_true rfl⟩) (fx_pv hP hK hG hS (va_recv hK hP (ci := 2) (q0 := 0) rfl rfl) [0] rfl) rfl rfl hl.1 rfl (lv_room (Nat.le_of_ble_eq_true rfl)) dX2_premiseCount_2 ⟨Nat.le_of_ble_eq_true rfl, Nat.le_of_ble_eq_true rfl⟩) (fun r1 h => ?_)
  refine fx_if_eq (tgt := 17) hx hb h dX2_premiseCount_5 (by decide) (fun h => ?_) (fun h => ?_)
  · refine lv_iconst (v := (nI 0)) hx hb dX2_premiseCount_17 (by decide) ?_
    exact W.iret (v := (nI 0)) hx hb hr  (fun t ht hW => ⟨_, rfl, h, ht⟩) (fun q hq => by cases hq) dX2_premiseCount_18
  refine lv_aload_n hx hb dX2_premiseCount_8 rfl (lv_at hl 0 rfl) ?_
  refine va_get (D := fx_D X) (ci := 2) (v := .ref a_o_premiseCounts) (C := RX2) (T := TX2) (N := 5) hx hb hts im_X2_premiseCount_X2 hown hK hP 0 rfl rfl 2 (by decide) k18 (fun _ h9 => h9) rfl dX2_premiseCount_9 ?_
  refine lv_iload_n hx hb dX2_premiseCount_12 rfl (lv_at hl 1 rfl) ?_
  refine fx_iald hx hb hK hP 1 0 rfl rfl h dX2_premiseCount_13 (fun v2 h => ?_)
  refine lv_goto (tgt := 18) hx hb dX2_premiseCount_14 (by decide) ?_
  exact W.iret (v := v2) hx hb hr  (fun t ht hW => ⟨_, rfl, h, ht⟩) (fun q hq => by cases hq) dX2_premiseCount_18

/-- X2_premiseAt: its walk -/
def wp_X2_premiseAt (post : Int32 → Prop) (s_o_last : Int32) (f_o_premiseCounts : Nat → Int32) (f_o_premises : Nat → Int32) (p1 : Int32) (p2 : Int32) : Prop :=
  fx_jn1 (fun (x1 : Int32) => fx_br (x1 = 0) (post (nI 0)) (fx_nm (p1 * (nI 3)) (fun v3 => fx_nm (v3 + p2) (fun v4 => fx_ix v4 903 (fun k6 => fx_nm (f_o_premises k6) (fun v5 => post v5)))))) (fun K2 => fx_br (p2 < 0) (K2 (nI 0)) (fx_br ((nI 3) ≤ p2) (K2 (nI 0)) (wp_X2_premiseCount (fun r7 => fx_br (r7 ≤ p2) (K2 (nI 0)) (K2 (nI 1))) s_o_last f_o_premiseCounts p1)))
theorem im_X2_premiseAt_X2 : ∀ w ∈ u_ws RX2 TX2 5, w ∈ wsX2_premiseAt := by decide +kernel
set_option maxHeartbeats 4000000 in
set_option maxRecDepth 100000 in
theorem cw_X2_premiseAt (l : Launch) (X : fx_X) (a_o : Nat) (a_o_ruleNumbers : Nat) (a_o_instances : Nat) (a_o_premiseCounts : Nat) (a_o_premises : Nat) (s_o_last : Int32) (f_o_premiseCounts : Nat → Int32) (f_o_premises : Nat → Int32) (p1 : Int32) (p2 : Int32) (post : Int32 → Prop) (h : wp_X2_premiseAt post s_o_last f_o_premiseCounts f_o_premises p1 p2) : Met l yX2_premiseAt wsX2_premiseAt ({ frames := 2, cells := 0, slots := 0, locals := 42 }) (va_Pc [.ref a_o, .int p1, .int p2] (fx_PP X [(a_o, .inr (2, [.ref a_o_ruleNumbers, .ref a_o_instances, .ref a_o_premiseCounts, .ref a_o_premises, .int s_o_last])), (a_o_premiseCounts, .inl (fx_cI X, 301, .inl f_o_premiseCounts)), (a_o_premises, .inl (fx_cI X, 903, .inl f_o_premises))])) (vp_Si post) 0 0 (fun _ => False) := by
  refine Met.ofW (cc := cX2_premiseAt) (maxL := 4) (ret := (some .int)) (by decide) rfl ?_
  intro p e s m args below meth c s₁ B hml hv
  obtain ⟨rfl, hP, hK, hG⟩ := hv
  have hx := B.exec
  have hb := B.bytes
  have hr := B.returns
  have hts := atoms_spec (ws := wsX2_premiseAt) B.pre
  have hown : s.vm.findClass RX2 = some m.cls := findClass_of_methodNamed B.named
  have hlocks := B.notSynchronized
  have hS : va_S (fun _ => False) s.heap s.heap [] := va_S.rf
  have k21 := hts (.fieldLink RX2 21 "ProofChecker$Rows" "premises" "[I") (by decide +kernel)
  have hl := lv_entry ([.ref a_o, .int p1, .int p2]) (n := 4) (Nat.le_of_ble_eq_true rfl)
  rw [lg_entry_eq]
  generalize (lg_sl ([.ref a_o, .int p1, .int p2]) ++ List.replicate (4 - (lg_sl ([.ref a_o, .int p1, .int p2])).length) Slot.unset).toArray = ls at hl ⊢
  have hl : lv_has ls 4 [(0, .ref a_o), (1, .int p1), (2, .int p2)] := hl
  unfold wp_X2_premiseAt at h
  refine lv_iload_n hx hb dX2_premiseAt_0 rfl (lv_at hl 2 rfl) ?_
  refine fx_join1 (G := fun (x1 : Int32) (R : Room) (av : Array Value) (Q : State → Prop) => ∀ (ls : Array Slot), lv_has ls 4 [(0, .ref a_o), (1, .int p1), (2, .int p2)] → W p l e R s m av below meth c s.heap [] 0 0 Q (F0 m 23 ls [.int x1])) h (fun x1 h => ?_) (fun K2 hK2 h => ?_)
  · intro ls hl
    refine lv_istore_n (lv' := [(3, .int x1), (0, .ref a_o), (1, .int p1), (2, .int p2)]) hx hb dX2_premiseAt_23 rfl hl (by decide) rfl (fun ls hl => ?_)
    refine lv_iload_n hx hb dX2_premiseAt_24 rfl (lv_at hl 0 rfl) ?_
    refine fx_if_eq (tgt := 41) hx hb h dX2_premiseAt_25 (by decide) (fun h => ?_) (fun h => ?_)
    · refine lv_iconst (v := (nI 0)) hx hb dX2_premiseAt_41 (by decide) ?_
      exact W.iret (v := (nI 0)) hx hb hr  (fun t ht hW => ⟨_, rfl, h, ht⟩) (fun q hq => by cases hq) dX2_premiseAt_42
    refine lv_aload_n hx hb dX2_premiseAt_28 rfl (lv_at hl 1 rfl) ?_
    refine va_get (D := fx_D X) (ci := 2) (v := .ref a_o_premises) (C := RX2) (T := TX2) (N := 5) hx hb hts im_X2_premiseAt_X2 hown hK hP 0 rfl rfl 3 (by decide) k21 (fun _ h9 => h9) rfl dX2_premiseAt_29 ?_
    refine lv_iload_n hx hb dX2_premiseAt_32 rfl (lv_at hl 2 rfl) ?_
    refine lv_iconst (v := (nI 3)) hx hb dX2_premiseAt_33 (by decide) ?_
    refine fx_imul hx hb h dX2_premiseAt_34 (fun v3 h => ?_)
    refine lv_iload_n hx hb dX2_premiseAt_35 rfl (lv_at hl 3 rfl) ?_
    refine fx_iadd hx hb h dX2_premiseAt_36 (fun v4 h => ?_)
    refine fx_iald hx hb hK hP 2 0 rfl rfl h dX2_premiseAt_37 (fun v5 h => ?_)
    refine lv_goto (tgt := 42) hx hb dX2_premiseAt_38 (by decide) ?_
    exact W.iret (v := v5) hx hb hr  (fun t ht hW => ⟨_, rfl, h, ht⟩) (fun q hq => by cases hq) dX2_premiseAt_42
  refine fx_if_lt (tgt := 22) hx hb h dX2_premiseAt_1 (by decide) (fun h => ?_) (fun h => ?_)
  · refine lv_iconst (v := (nI 0)) hx hb dX2_premiseAt_22 (by decide) ?_
    exact hK2 _ h _ (lv_sub hl [0, 1, 2] rfl)
  refine lv_iload_n hx hb dX2_premiseAt_4 rfl (lv_at hl 2 rfl) ?_
  refine lv_iconst (v := (nI 3)) hx hb dX2_premiseAt_5 (by decide) ?_
  refine fx_icmp_ge (tgt := 22) hx hb h dX2_premiseAt_6 (by decide) (fun h => ?_) (fun h => ?_)
  · refine lv_iconst (v := (nI 0)) hx hb dX2_premiseAt_22 (by decide) ?_
    exact hK2 _ h _ (lv_sub hl [0, 1, 2] rfl)
  refine lv_iload_n hx hb dX2_premiseAt_9 rfl (lv_at hl 2 rfl) ?_
  refine lv_aload_n hx hb dX2_premiseAt_10 rfl (lv_at hl 0 rfl) ?_
  refine lv_iload_n hx hb dX2_premiseAt_11 rfl (lv_at hl 1 rfl) ?_
  refine vp_callSi (W.runV (As := [.int p1]) (rest := [.int p2]) ⟨hx, hb, hml, hown, hts⟩ (cw_X2_premiseCount l X a_o a_o_ruleNumbers a_o_instances a_o_premiseCounts a_o_premises s_o_last f_o_premiseCounts p1 _ h) (cwV 1 hts gX2_premiseAt_X2_premiseCount rfl rfl rfl (by decide +kernel) ⟨Nat.le_of_ble_eq_true rfl, Nat.le_of_ble_eq_true rfl⟩) (fx_pv hP hK hG hS (va_recv hK hP (ci := 2) (q0 := 0) rfl rfl) [0, 1] rfl) rfl rfl hl.1 rfl (lv_room (Nat.le_of_ble_eq_true rfl)) dX2_premiseAt_12 ⟨Nat.le_of_ble_eq_true rfl, Nat.le_of_ble_eq_true rfl⟩) (fun r7 h => ?_)
  refine fx_icmp_ge (tgt := 22) hx hb h dX2_premiseAt_15 (by decide) (fun h => ?_) (fun h => ?_)
  · refine lv_iconst (v := (nI 0)) hx hb dX2_premiseAt_22 (by decide) ?_
    exact hK2 _ h _ (lv_sub hl [0, 1, 2] rfl)
  refine lv_iconst (v := (nI 1)) hx hb dX2_premiseAt_18 (by decide) ?_
  refine lv_goto (tgt := 23) hx hb dX2_premiseAt_19 (by decide) ?_
  exact hK2 _ h _ (lv_sub hl [0, 1, 2] rfl)

/-- X2_lay: its walk -/
def wp_X2_lay (post : Int32 → Int32 → (Nat → Int32) → (Nat → Int32) → (Nat → Int32) → Prop) (s_o_last : Int32) (f_o_ruleNumbers : Nat → Int32) (f_o_instances : Nat → Int32) (f_o_premiseCounts : Nat → Int32) (p1 : Int32) (p2 : Int32) : Prop :=
  fx_br (s_o_last < (nI 300)) (fx_nm (s_o_last + (nI 1)) (fun v1 => fx_ix v1 301 (fun k7 => fx_nm (upd f_o_ruleNumbers k7 p1) (fun g2 => fx_ix v1 301 (fun k6 => fx_nm (upd f_o_instances k6 p2) (fun g3 => fx_ix v1 301 (fun k5 => fx_nm (upd f_o_premiseCounts k5 (nI 0)) (fun g4 => post v1 v1 g2 g3 g4)))))))) (post (nI 0) s_o_last f_o_ruleNumbers f_o_instances f_o_premiseCounts)
theorem im_X2_lay_X2 : ∀ w ∈ u_ws RX2 TX2 5, w ∈ wsX2_lay := by decide +kernel
set_option maxHeartbeats 4000000 in
set_option maxRecDepth 100000 in
theorem cw_X2_lay (l : Launch) (X : fx_X) (a_o : Nat) (a_o_ruleNumbers : Nat) (a_o_instances : Nat) (a_o_premiseCounts : Nat) (a_o_premises : Nat) (s_o_last : Int32) (f_o_ruleNumbers : Nat → Int32) (f_o_instances : Nat → Int32) (f_o_premiseCounts : Nat → Int32) (sz : Nat) (p1 : Int32) (p2 : Int32) (post : Int32 → Int32 → (Nat → Int32) → (Nat → Int32) → (Nat → Int32) → Prop) (h : wp_X2_lay post s_o_last f_o_ruleNumbers f_o_instances f_o_premiseCounts p1 p2) : Met l yX2_lay wsX2_lay ({ frames := 0, cells := 0, slots := 0, locals := 0 }) (va_Pc [.ref a_o, .int p1, .int p2] (fx_PW X [(a_o, .inr (2, [.ref a_o_ruleNumbers, .ref a_o_instances, .ref a_o_premiseCounts, .ref a_o_premises, .int s_o_last])), (a_o_ruleNumbers, .inl (fx_cI X, 301, .inl f_o_ruleNumbers)), (a_o_instances, .inl (fx_cI X, 301, .inl f_o_instances)), (a_o_premiseCounts, .inl (fx_cI X, 301, .inl f_o_premiseCounts))] sz)) (va_Qi (fun r (u : Int32 × (Nat → Int32) × (Nat → Int32) × (Nat → Int32)) => post r u.1 u.2.1 u.2.2.1 u.2.2.2) (fun (u : Int32 × (Nat → Int32) × (Nat → Int32) × (Nat → Int32)) t => fx_EW X (va_A [(a_o, .inr (2, [.ref a_o_ruleNumbers, .ref a_o_instances, .ref a_o_premiseCounts, .ref a_o_premises, .int s_o_last])), (a_o_ruleNumbers, .inl (fx_cI X, 301, .inl f_o_ruleNumbers)), (a_o_instances, .inl (fx_cI X, 301, .inl f_o_instances)), (a_o_premiseCounts, .inl (fx_cI X, 301, .inl f_o_premiseCounts))] sz) [(a_o, .inr (2, [.ref a_o_ruleNumbers, .ref a_o_instances, .ref a_o_premiseCounts, .ref a_o_premises, .int u.1])), (a_o_ruleNumbers, .inl (fx_cI X, 301, .inl u.2.1)), (a_o_instances, .inl (fx_cI X, 301, .inl u.2.2.1)), (a_o_premiseCounts, .inl (fx_cI X, 301, .inl u.2.2.2))] t) (va_A [(a_o, .inr (2, [.ref a_o_ruleNumbers, .ref a_o_instances, .ref a_o_premiseCounts, .ref a_o_premises, .int s_o_last])), (a_o_ruleNumbers, .inl (fx_cI X, 301, .inl f_o_ruleNumbers)), (a_o_instances, .inl (fx_cI X, 301, .inl f_o_instances)), (a_o_premiseCounts, .inl (fx_cI X, 301, .inl f_o_premiseCounts))] sz)) 0 0 (va_A [(a_o, .inr (2, [.ref a_o_ruleNumbers, .ref a_o_instances, .ref a_o_premiseCounts, .ref a_o_premises, .int s_o_last])), (a_o_ruleNumbers, .inl (fx_cI X, 301, .inl f_o_ruleNumbers)), (a_o_instances, .inl (fx_cI X, 301, .inl f_o_instances)), (a_o_premiseCounts, .inl (fx_cI X, 301, .inl f_o_premiseCounts))] sz) := by
  refine Met.ofW (cc := cX2_lay) (maxL := 3) (ret := (some .int)) (by decide) rfl ?_
  intro p e s m args below meth c s₁ B hml hv
  obtain ⟨rfl, hsz, hP, hK, hD0, hG⟩ := hv
  have hx := B.exec
  have hb := B.bytes
  have hr := B.returns
  have hts := atoms_spec (ws := wsX2_lay) B.pre
  have hown : s.vm.findClass RX2 = some m.cls := findClass_of_methodNamed B.named
  have hlocks := B.notSynchronized
  subst hsz
  have hD := hD0.self (sz := s.heap.size)
  generalize hAe : va_A [(a_o, .inr (2, [.ref a_o_ruleNumbers, .ref a_o_instances, .ref a_o_premiseCounts, .ref a_o_premises, .int s_o_last])), (a_o_ruleNumbers, .inl (fx_cI X, 301, .inl f_o_ruleNumbers)), (a_o_instances, .inl (fx_cI X, 301, .inl f_o_instances)), (a_o_premiseCounts, .inl (fx_cI X, 301, .inl f_o_premiseCounts))] s.heap.size = A at hD hG ⊢
  have hA : ∀ q : Nat, s.heap.size ≤ q → A q := fun q h => by rw [← hAe]; exact Or.inr h
  have hS : va_S A s.heap s.heap [] := va_S.rf
  have k24 := hts (.fieldLink RX2 24 "ProofChecker$Rows" "last" "I") (by decide +kernel)
  have k18 := hts (.fieldLink RX2 18 "ProofChecker$Rows" "premiseCounts" "[I") (by decide +kernel)
  have k15 := hts (.fieldLink RX2 15 "ProofChecker$Rows" "instances" "[I") (by decide +kernel)
  have k9 := hts (.fieldLink RX2 9 "ProofChecker$Rows" "ruleNumbers" "[I") (by decide +kernel)
  have hl := lv_entry ([.ref a_o, .int p1, .int p2]) (n := 3) (Nat.le_of_ble_eq_true rfl)
  rw [lg_entry_eq]
  generalize (lg_sl ([.ref a_o, .int p1, .int p2]) ++ List.replicate (3 - (lg_sl ([.ref a_o, .int p1, .int p2])).length) Slot.unset).toArray = ls at hl ⊢
  have hl : lv_has ls 3 [(0, .ref a_o), (1, .int p1), (2, .int p2)] := hl
  unfold wp_X2_lay at h
  refine lv_aload_n hx hb dX2_lay_0 rfl (lv_at hl 0 rfl) ?_
  refine va_get (D := fx_D X) (ci := 2) (v := .int s_o_last) (C := RX2) (T := TX2) (N := 5) hx hb hts im_X2_lay_X2 hown hK hP 0 rfl rfl 4 (by decide) k24 (fun _ h9 => h9) rfl dX2_lay_1 ?_
  refine lv_sipush (v := (nI 300)) hx hb dX2_lay_4 (by decide) ?_
  refine fx_icmp_lt (tgt := 12) hx hb h dX2_lay_7 (by decide) (fun h => ?_) (fun h => ?_)
  · refine lv_aload_n hx hb dX2_lay_12 rfl (lv_at hl 0 rfl) ?_
    refine lv_dup hx hb dX2_lay_13 rfl ?_
    refine va_get (D := fx_D X) (ci := 2) (v := .int s_o_last) (C := RX2) (T := TX2) (N := 5) hx hb hts im_X2_lay_X2 hown hK hP 0 rfl rfl 4 (by decide) k24 (fun _ h9 => h9) rfl dX2_lay_14 ?_
    refine lv_iconst (v := (nI 1)) hx hb dX2_lay_17 (by decide) ?_
    refine fx_iadd hx hb h dX2_lay_18 (fun v1 h => ?_)
    refine va_put (D := fx_D X) (ci := 2) (v := .int v1) (ty := .int) (C := RX2) (T := TX2) (N := 5) hx hb hts im_X2_lay_X2 tyX2 tyX2_ok nmX2 hown hK hP hD hS 0 rfl rfl 4 (by decide) k24 (fun _ h9 => h9) rfl (by decide +kernel) rfl rfl (Nat.le_of_ble_eq_true rfl) dX2_lay_19 (fun H locs hP hD hS => ?_)
    have hP : va_P (fx_D X) vwCl [(a_o, .inr (2, [.ref a_o_ruleNumbers, .ref a_o_instances, .ref a_o_premiseCounts, .ref a_o_premises, .int v1])), (a_o_ruleNumbers, .inl (fx_cI X, 301, .inl f_o_ruleNumbers)), (a_o_instances, .inl (fx_cI X, 301, .inl f_o_instances)), (a_o_premiseCounts, .inl (fx_cI X, 301, .inl f_o_premiseCounts))] H := hP
    have hD : va_D A [(a_o, .inr (2, [.ref a_o_ruleNumbers, .ref a_o_instances, .ref a_o_premiseCounts, .ref a_o_premises, .int v1])), (a_o_ruleNumbers, .inl (fx_cI X, 301, .inl f_o_ruleNumbers)), (a_o_instances, .inl (fx_cI X, 301, .inl f_o_instances)), (a_o_premiseCounts, .inl (fx_cI X, 301, .inl f_o_premiseCounts))] := hD
    refine lv_aload_n hx hb dX2_lay_22 rfl (lv_at hl 0 rfl) ?_
    refine va_get (D := fx_D X) (ci := 2) (v := .ref a_o_ruleNumbers) (C := RX2) (T := TX2) (N := 5) hx hb hts im_X2_lay_X2 hown hK hP 0 rfl rfl 0 (by decide) k9 (fun _ h9 => h9) rfl dX2_lay_23 ?_
    refine lv_aload_n hx hb dX2_lay_26 rfl (lv_at hl 0 rfl) ?_
    refine va_get (D := fx_D X) (ci := 2) (v := .int v1) (C := RX2) (T := TX2) (N := 5) hx hb hts im_X2_lay_X2 hown hK hP 0 rfl rfl 4 (by decide) k24 (fun _ h9 => h9) rfl dX2_lay_27 ?_
    refine lv_iload_n hx hb dX2_lay_30 rfl (lv_at hl 1 rfl) ?_
    refine fx_iast hx hb hK hP hD hS 1 0 rfl rfl h dX2_lay_31 (fun g2 => [(a_o, .inr (2, [.ref a_o_ruleNumbers, .ref a_o_instances, .ref a_o_premiseCounts, .ref a_o_premises, .int v1])), (a_o_ruleNumbers, .inl (fx_cI X, 301, .inl g2)), (a_o_instances, .inl (fx_cI X, 301, .inl f_o_instances)), (a_o_premiseCounts, .inl (fx_cI X, 301, .inl f_o_premiseCounts))]) (fun _ => rfl) (fun H locs g2 h hP hD hS => ?_)
    refine lv_aload_n hx hb dX2_lay_32 rfl (lv_at hl 0 rfl) ?_
    refine va_get (D := fx_D X) (ci := 2) (v := .ref a_o_instances) (C := RX2) (T := TX2) (N := 5) hx hb hts im_X2_lay_X2 hown hK hP 0 rfl rfl 1 (by decide) k15 (fun _ h9 => h9) rfl dX2_lay_33 ?_
    refine lv_aload_n hx hb dX2_lay_36 rfl (lv_at hl 0 rfl) ?_
    refine va_get (D := fx_D X) (ci := 2) (v := .int v1) (C := RX2) (T := TX2) (N := 5) hx hb hts im_X2_lay_X2 hown hK hP 0 rfl rfl 4 (by decide) k24 (fun _ h9 => h9) rfl dX2_lay_37 ?_
    refine lv_iload_n hx hb dX2_lay_40 rfl (lv_at hl 2 rfl) ?_
    refine fx_iast hx hb hK hP hD hS 2 0 rfl rfl h dX2_lay_41 (fun g3 => [(a_o, .inr (2, [.ref a_o_ruleNumbers, .ref a_o_instances, .ref a_o_premiseCounts, .ref a_o_premises, .int v1])), (a_o_ruleNumbers, .inl (fx_cI X, 301, .inl g2)), (a_o_instances, .inl (fx_cI X, 301, .inl g3)), (a_o_premiseCounts, .inl (fx_cI X, 301, .inl f_o_premiseCounts))]) (fun _ => rfl) (fun H locs g3 h hP hD hS => ?_)
    refine lv_aload_n hx hb dX2_lay_42 rfl (lv_at hl 0 rfl) ?_
    refine va_get (D := fx_D X) (ci := 2) (v := .ref a_o_premiseCounts) (C := RX2) (T := TX2) (N := 5) hx hb hts im_X2_lay_X2 hown hK hP 0 rfl rfl 2 (by decide) k18 (fun _ h9 => h9) rfl dX2_lay_43 ?_
    refine lv_aload_n hx hb dX2_lay_46 rfl (lv_at hl 0 rfl) ?_
    refine va_get (D := fx_D X) (ci := 2) (v := .int v1) (C := RX2) (T := TX2) (N := 5) hx hb hts im_X2_lay_X2 hown hK hP 0 rfl rfl 4 (by decide) k24 (fun _ h9 => h9) rfl dX2_lay_47 ?_
    refine lv_iconst (v := (nI 0)) hx hb dX2_lay_50 (by decide) ?_
    refine fx_iast hx hb hK hP hD hS 3 0 rfl rfl h dX2_lay_51 (fun g4 => [(a_o, .inr (2, [.ref a_o_ruleNumbers, .ref a_o_instances, .ref a_o_premiseCounts, .ref a_o_premises, .int v1])), (a_o_ruleNumbers, .inl (fx_cI X, 301, .inl g2)), (a_o_instances, .inl (fx_cI X, 301, .inl g3)), (a_o_premiseCounts, .inl (fx_cI X, 301, .inl g4))]) (fun _ => rfl) (fun H locs g4 h hP hD hS => ?_)
    refine lv_aload_n hx hb dX2_lay_52 rfl (lv_at hl 0 rfl) ?_
    refine va_get (D := fx_D X) (ci := 2) (v := .int v1) (C := RX2) (T := TX2) (N := 5) hx hb hts im_X2_lay_X2 hown hK hP 0 rfl rfl 4 (by decide) k24 (fun _ h9 => h9) rfl dX2_lay_53 ?_
    exact W.iret (v := v1) hx hb hr  (fun t ht hW => ⟨⟨v1, (v1, g2, g3, g4), rfl, h, by rw [ht]; exact hP, va_K.moved hW.alike hK, hD⟩, hS.F ht⟩) hS.2.2 dX2_lay_56
  refine lv_iconst (v := (nI 0)) hx hb dX2_lay_10 (by decide) ?_
  exact W.iret (v := (nI 0)) hx hb hr  (fun t ht hW => ⟨⟨(nI 0), (s_o_last, f_o_ruleNumbers, f_o_instances, f_o_premiseCounts), rfl, h, by rw [ht]; exact hP, va_K.moved hW.alike hK, hD⟩, hS.F ht⟩) hS.2.2 dX2_lay_11

/-- X2_addPremise: its walk -/
def wp_X2_addPremise (post : (Nat → Int32) → (Nat → Int32) → Prop) (s_o_last : Int32) (f_o_premiseCounts : Nat → Int32) (f_o_premises : Nat → Int32) (p1 : Int32) (p2 : Int32) : Prop :=
  wp_X2_premiseCount (fun r1 => wp_X2_has (fun r2 => fx_br (r2 = 0) (post f_o_premiseCounts f_o_premises) (fx_br ((nI 3) ≤ r1) (post f_o_premiseCounts f_o_premises) (fx_nm (p1 * (nI 3)) (fun v3 => fx_nm (v3 + r1) (fun v4 => fx_ix v4 903 (fun k9 => fx_nm (upd f_o_premises k9 p2) (fun g5 => fx_nm (r1 + (nI 1)) (fun v6 => fx_ix p1 301 (fun k8 => fx_nm (upd f_o_premiseCounts k8 v6) (fun g7 => post g7 g5)))))))))) s_o_last p1) s_o_last f_o_premiseCounts p1
theorem im_X2_addPremise_X2 : ∀ w ∈ u_ws RX2 TX2 5, w ∈ wsX2_addPremise := by decide +kernel
set_option maxHeartbeats 4000000 in
set_option maxRecDepth 100000 in
theorem cw_X2_addPremise (l : Launch) (X : fx_X) (a_o : Nat) (a_o_ruleNumbers : Nat) (a_o_instances : Nat) (a_o_premiseCounts : Nat) (a_o_premises : Nat) (s_o_last : Int32) (f_o_premiseCounts : Nat → Int32) (f_o_premises : Nat → Int32) (sz : Nat) (p1 : Int32) (p2 : Int32) (post : (Nat → Int32) → (Nat → Int32) → Prop) (h : wp_X2_addPremise post s_o_last f_o_premiseCounts f_o_premises p1 p2) : Met l yX2_addPremise wsX2_addPremise ({ frames := 2, cells := 0, slots := 0, locals := 42 }) (va_Pc [.ref a_o, .int p1, .int p2] (fx_PW X [(a_o, .inr (2, [.ref a_o_ruleNumbers, .ref a_o_instances, .ref a_o_premiseCounts, .ref a_o_premises, .int s_o_last])), (a_o_premiseCounts, .inl (fx_cI X, 301, .inl f_o_premiseCounts)), (a_o_premises, .inl (fx_cI X, 903, .inl f_o_premises))] sz)) (va_Qv (fun (u : (Nat → Int32) × (Nat → Int32)) => post u.1 u.2) (fun (u : (Nat → Int32) × (Nat → Int32)) t => fx_EW X (va_A [(a_o, .inr (2, [.ref a_o_ruleNumbers, .ref a_o_instances, .ref a_o_premiseCounts, .ref a_o_premises, .int s_o_last])), (a_o_premiseCounts, .inl (fx_cI X, 301, .inl f_o_premiseCounts)), (a_o_premises, .inl (fx_cI X, 903, .inl f_o_premises))] sz) [(a_o, .inr (2, [.ref a_o_ruleNumbers, .ref a_o_instances, .ref a_o_premiseCounts, .ref a_o_premises, .int s_o_last])), (a_o_premiseCounts, .inl (fx_cI X, 301, .inl u.1)), (a_o_premises, .inl (fx_cI X, 903, .inl u.2))] t) (va_A [(a_o, .inr (2, [.ref a_o_ruleNumbers, .ref a_o_instances, .ref a_o_premiseCounts, .ref a_o_premises, .int s_o_last])), (a_o_premiseCounts, .inl (fx_cI X, 301, .inl f_o_premiseCounts)), (a_o_premises, .inl (fx_cI X, 903, .inl f_o_premises))] sz)) 0 0 (va_A [(a_o, .inr (2, [.ref a_o_ruleNumbers, .ref a_o_instances, .ref a_o_premiseCounts, .ref a_o_premises, .int s_o_last])), (a_o_premiseCounts, .inl (fx_cI X, 301, .inl f_o_premiseCounts)), (a_o_premises, .inl (fx_cI X, 903, .inl f_o_premises))] sz) := by
  refine Met.ofW (cc := cX2_addPremise) (maxL := 4) (ret := none) (by decide) rfl ?_
  intro p e s m args below meth c s₁ B hml hv
  obtain ⟨rfl, hsz, hP, hK, hD0, hG⟩ := hv
  have hx := B.exec
  have hb := B.bytes
  have hr := B.returns
  have hts := atoms_spec (ws := wsX2_addPremise) B.pre
  have hown : s.vm.findClass RX2 = some m.cls := findClass_of_methodNamed B.named
  have hlocks := B.notSynchronized
  subst hsz
  have hD := hD0.self (sz := s.heap.size)
  generalize hAe : va_A [(a_o, .inr (2, [.ref a_o_ruleNumbers, .ref a_o_instances, .ref a_o_premiseCounts, .ref a_o_premises, .int s_o_last])), (a_o_premiseCounts, .inl (fx_cI X, 301, .inl f_o_premiseCounts)), (a_o_premises, .inl (fx_cI X, 903, .inl f_o_premises))] s.heap.size = A at hD hG ⊢
  have hA : ∀ q : Nat, s.heap.size ≤ q → A q := fun q h => by rw [← hAe]; exact Or.inr h
  have hS : va_S A s.heap s.heap [] := va_S.rf
  have k18 := hts (.fieldLink RX2 18 "ProofChecker$Rows" "premiseCounts" "[I") (by decide +kernel)
  have k21 := hts (.fieldLink RX2 21 "ProofChecker$Rows" "premises" "[I") (by decide +kernel)
  have hl := lv_entry ([.ref a_o, .int p1, .int p2]) (n := 4) (Nat.le_of_ble_eq_true rfl)
  rw [lg_entry_eq]
  generalize (lg_sl ([.ref a_o, .int p1, .int p2]) ++ List.replicate (4 - (lg_sl ([.ref a_o, .int p1, .int p2])).length) Slot.unset).toArray = ls at hl ⊢
  have hl : lv_has ls 4 [(0, .ref a_o), (1, .int p1), (2, .int p2)] := hl
  unfold wp_X2_addPremise at h
  refine lv_aload_n hx hb dX2_addPremise_0 rfl (lv_at hl 0 rfl) ?_
  refine lv_iload_n hx hb dX2_addPremise_1 rfl (lv_at hl 1 rfl) ?_
  refine vp_callSi (W.runV (As := [.int p1]) (rest := []) ⟨hx, hb, hml, hown, hts⟩ (cw_X2_premiseCount l X a_o a_o_ruleNumbers a_o_instances a_o_premiseCounts a_o_premises s_o_last f_o_premiseCounts p1 _ h) (cwV 1 hts gX2_addPremise_X2_premiseCount rfl rfl rfl (by decide +kernel) ⟨Nat.le_of_ble_eq_true rfl, Nat.le_of_ble_eq_true rfl⟩) (fx_pv hP hK hG hS (va_recv hK hP (ci := 2) (q0 := 0) rfl rfl) [0, 1] rfl) rfl rfl hl.1 rfl (lv_room (Nat.le_of_ble_eq_true rfl)) dX2_addPremise_2 ⟨Nat.le_of_ble_eq_true rfl, Nat.le_of_ble_eq_true rfl⟩) (fun r1 h => ?_)
  refine lv_istore_n (lv' := [(3, .int r1), (0, .ref a_o), (1, .int p1), (2, .int p2)]) hx hb dX2_addPremise_5 rfl hl (by decide) rfl (fun ls hl => ?_)
  refine lv_aload_n hx hb dX2_addPremise_6 rfl (lv_at hl 1 rfl) ?_
  refine lv_iload_n hx hb dX2_addPremise_7 rfl (lv_at hl 2 rfl) ?_
  refine vp_callSi (W.runV (As := [.int p1]) (rest := []) ⟨hx, hb, hml, hown, hts⟩ (cw_X2_has l X a_o a_o_ruleNumbers a_o_instances a_o_premiseCounts a_o_premises s_o_last p1 _ h) (cwV 1 hts gX2_addPremise_X2_has rfl rfl rfl (by decide +kernel) ⟨Nat.le_of_ble_eq_true rfl, Nat.le_of_ble_eq_true rfl⟩) (fx_pv hP hK hG hS (va_recv hK hP (ci := 2) (q0 := 0) rfl rfl) [0] rfl) rfl rfl hl.1 rfl (lv_room (Nat.le_of_ble_eq_true rfl)) dX2_addPremise_8 ⟨Nat.le_of_ble_eq_true rfl, Nat.le_of_ble_eq_true rfl⟩) (fun r2 h => ?_)
  refine fx_if_eq (tgt := 39) hx hb h dX2_addPremise_11 (by decide) (fun h => ?_) (fun h => ?_)
  · exact W.vret hx hb hr (fun t ht hW => ⟨⟨(f_o_premiseCounts, f_o_premises), rfl, h, by rw [ht]; exact hP, va_K.moved hW.alike hK, hD⟩, hS.F ht⟩) hS.2.2 dX2_addPremise_39
  refine lv_iload_n hx hb dX2_addPremise_14 rfl (lv_at hl 0 rfl) ?_
  refine lv_iconst (v := (nI 3)) hx hb dX2_addPremise_15 (by decide) ?_
  refine fx_icmp_ge (tgt := 39) hx hb h dX2_addPremise_16 (by decide) (fun h => ?_) (fun h => ?_)
  · exact W.vret hx hb hr (fun t ht hW => ⟨⟨(f_o_premiseCounts, f_o_premises), rfl, h, by rw [ht]; exact hP, va_K.moved hW.alike hK, hD⟩, hS.F ht⟩) hS.2.2 dX2_addPremise_39
  refine lv_aload_n hx hb dX2_addPremise_19 rfl (lv_at hl 1 rfl) ?_
  refine va_get (D := fx_D X) (ci := 2) (v := .ref a_o_premises) (C := RX2) (T := TX2) (N := 5) hx hb hts im_X2_addPremise_X2 hown hK hP 0 rfl rfl 3 (by decide) k21 (fun _ h9 => h9) rfl dX2_addPremise_20 ?_
  refine lv_iload_n hx hb dX2_addPremise_23 rfl (lv_at hl 2 rfl) ?_
  refine lv_iconst (v := (nI 3)) hx hb dX2_addPremise_24 (by decide) ?_
  refine fx_imul hx hb h dX2_addPremise_25 (fun v3 h => ?_)
  refine lv_iload_n hx hb dX2_addPremise_26 rfl (lv_at hl 0 rfl) ?_
  refine fx_iadd hx hb h dX2_addPremise_27 (fun v4 h => ?_)
  refine lv_iload_n hx hb dX2_addPremise_28 rfl (lv_at hl 3 rfl) ?_
  refine fx_iast hx hb hK hP hD hS 2 0 rfl rfl h dX2_addPremise_29 (fun g5 => [(a_o, .inr (2, [.ref a_o_ruleNumbers, .ref a_o_instances, .ref a_o_premiseCounts, .ref a_o_premises, .int s_o_last])), (a_o_premiseCounts, .inl (fx_cI X, 301, .inl f_o_premiseCounts)), (a_o_premises, .inl (fx_cI X, 903, .inl g5))]) (fun _ => rfl) (fun H locs g5 h hP hD hS => ?_)
  refine lv_aload_n hx hb dX2_addPremise_30 rfl (lv_at hl 1 rfl) ?_
  refine va_get (D := fx_D X) (ci := 2) (v := .ref a_o_premiseCounts) (C := RX2) (T := TX2) (N := 5) hx hb hts im_X2_addPremise_X2 hown hK hP 0 rfl rfl 2 (by decide) k18 (fun _ h9 => h9) rfl dX2_addPremise_31 ?_
  refine lv_iload_n hx hb dX2_addPremise_34 rfl (lv_at hl 2 rfl) ?_
  refine lv_iload_n hx hb dX2_addPremise_35 rfl (lv_at hl 0 rfl) ?_
  refine lv_iconst (v := (nI 1)) hx hb dX2_addPremise_36 (by decide) ?_
  refine fx_iadd hx hb h dX2_addPremise_37 (fun v6 h => ?_)
  refine fx_iast hx hb hK hP hD hS 1 0 rfl rfl h dX2_addPremise_38 (fun g7 => [(a_o, .inr (2, [.ref a_o_ruleNumbers, .ref a_o_instances, .ref a_o_premiseCounts, .ref a_o_premises, .int s_o_last])), (a_o_premiseCounts, .inl (fx_cI X, 301, .inl g7)), (a_o_premises, .inl (fx_cI X, 903, .inl g5))]) (fun _ => rfl) (fun H locs g7 h hP hD hS => ?_)
  exact W.vret hx hb hr (fun t ht hW => ⟨⟨(g7, g5), rfl, h, by rw [ht]; exact hP, va_K.moved hW.alike hK, hD⟩, hS.F ht⟩) hS.2.2 dX2_addPremise_39

/-- X2_move: its walk -/
def wp_X2_move (post : (Nat → Int32) → (Nat → Int32) → (Nat → Int32) → (Nat → Int32) → Prop) (n_p3 : Nat) (s_o_last : Int32) (f_o_ruleNumbers : Nat → Int32) (f_o_instances : Nat → Int32) (f_o_premiseCounts : Nat → Int32) (f_o_premises : Nat → Int32) (f_p3 : Nat → Int32) (p1 : Int32) (p2 : Int32) : Prop :=
  wp_X2_has (fun r1 => fx_br (r1 = 0) (post f_o_ruleNumbers f_o_instances f_o_premiseCounts f_o_premises) (wp_X2_has (fun r2 => fx_br (r2 = 0) (post f_o_ruleNumbers f_o_instances f_o_premiseCounts f_o_premises) (wp_X2_premiseCount (fun r3 => fx_wh2 (fun (rec6 : Int32 → (Nat → Int32) → Prop) (x4 : Int32) (y5 : Nat → Int32) => fx_br (r3 ≤ x4) (fx_ix p1 301 (fun k8 => fx_nm (f_o_ruleNumbers k8) (fun v7 => fx_ix p2 301 (fun k16 => fx_nm (upd f_o_ruleNumbers k16 v7) (fun g9 => fx_ix p1 301 (fun k11 => fx_nm (f_o_instances k11) (fun v10 => fx_ix p2 301 (fun k15 => fx_nm (upd f_o_instances k15 v10) (fun g12 => fx_ix p2 301 (fun k14 => fx_nm (upd f_o_premiseCounts k14 r3) (fun g13 => post g9 g12 g13 y5))))))))))) (fx_nm (p1 * (nI 3)) (fun v17 => fx_nm (v17 + x4) (fun v18 => fx_ix v18 903 (fun k20 => fx_nm (y5 k20) (fun v19 => fx_jn1 (fun (x21 : Int32) => fx_nm (p2 * (nI 3)) (fun v23 => fx_nm (v23 + x4) (fun v24 => fx_br (x21 = 0) (fx_ix v24 903 (fun k27 => fx_nm (upd y5 k27 (nI 0)) (fun g25 => fx_nm (x4 + (nI 1)) (fun v26 => rec6 v26 g25)))) (fx_ix v19 n_p3 (fun k29 => fx_nm (f_p3 k29) (fun v28 => fx_ix v24 903 (fun k32 => fx_nm (upd y5 k32 v28) (fun g30 => fx_nm (x4 + (nI 1)) (fun v31 => rec6 v31 g30))))))))) (fun K22 => fx_br (v19 < 0) (K22 (nI 0)) (fx_br ((nI n_p3) ≤ v19) (K22 (nI 0)) (K22 (nI 1)))))))))) (nI 0) f_o_premises) s_o_last f_o_premiseCounts p1)) s_o_last p2)) s_o_last p1
theorem im_X2_move_X2 : ∀ w ∈ u_ws RX2 TX2 5, w ∈ wsX2_move := by decide +kernel
set_option maxHeartbeats 4000000 in
set_option maxRecDepth 100000 in
theorem cw_X2_move (l : Launch) (X : fx_X) (a_o : Nat) (a_o_ruleNumbers : Nat) (a_o_instances : Nat) (a_o_premiseCounts : Nat) (a_o_premises : Nat) (a_p3 : Nat) (n_p3 : Nat) (s_o_last : Int32) (f_o_ruleNumbers : Nat → Int32) (f_o_instances : Nat → Int32) (f_o_premiseCounts : Nat → Int32) (f_o_premises : Nat → Int32) (f_p3 : Nat → Int32) (sz : Nat) (p1 : Int32) (p2 : Int32) (post : (Nat → Int32) → (Nat → Int32) → (Nat → Int32) → (Nat → Int32) → Prop) (h : wp_X2_move post n_p3 s_o_last f_o_ruleNumbers f_o_instances f_o_premiseCounts f_o_premises f_p3 p1 p2) : Met l yX2_move wsX2_move ({ frames := 2, cells := 0, slots := 0, locals := 42 }) (va_Pc [.ref a_o, .int p1, .int p2, .ref a_p3] (fx_PW X [(a_o, .inr (2, [.ref a_o_ruleNumbers, .ref a_o_instances, .ref a_o_premiseCounts, .ref a_o_premises, .int s_o_last])), (a_o_ruleNumbers, .inl (fx_cI X, 301, .inl f_o_ruleNumbers)), (a_o_instances, .inl (fx_cI X, 301, .inl f_o_instances)), (a_o_premiseCounts, .inl (fx_cI X, 301, .inl f_o_premiseCounts)), (a_o_premises, .inl (fx_cI X, 903, .inl f_o_premises)), (a_p3, .inl (fx_cI X, n_p3, .inl f_p3))] sz)) (va_Qv (fun (u : (Nat → Int32) × (Nat → Int32) × (Nat → Int32) × (Nat → Int32)) => post u.1 u.2.1 u.2.2.1 u.2.2.2) (fun (u : (Nat → Int32) × (Nat → Int32) × (Nat → Int32) × (Nat → Int32)) t => fx_EW X (va_A [(a_o, .inr (2, [.ref a_o_ruleNumbers, .ref a_o_instances, .ref a_o_premiseCounts, .ref a_o_premises, .int s_o_last])), (a_o_ruleNumbers, .inl (fx_cI X, 301, .inl f_o_ruleNumbers)), (a_o_instances, .inl (fx_cI X, 301, .inl f_o_instances)), (a_o_premiseCounts, .inl (fx_cI X, 301, .inl f_o_premiseCounts)), (a_o_premises, .inl (fx_cI X, 903, .inl f_o_premises)), (a_p3, .inl (fx_cI X, n_p3, .inl f_p3))] sz) [(a_o, .inr (2, [.ref a_o_ruleNumbers, .ref a_o_instances, .ref a_o_premiseCounts, .ref a_o_premises, .int s_o_last])), (a_o_ruleNumbers, .inl (fx_cI X, 301, .inl u.1)), (a_o_instances, .inl (fx_cI X, 301, .inl u.2.1)), (a_o_premiseCounts, .inl (fx_cI X, 301, .inl u.2.2.1)), (a_o_premises, .inl (fx_cI X, 903, .inl u.2.2.2)), (a_p3, .inl (fx_cI X, n_p3, .inl f_p3))] t) (va_A [(a_o, .inr (2, [.ref a_o_ruleNumbers, .ref a_o_instances, .ref a_o_premiseCounts, .ref a_o_premises, .int s_o_last])), (a_o_ruleNumbers, .inl (fx_cI X, 301, .inl f_o_ruleNumbers)), (a_o_instances, .inl (fx_cI X, 301, .inl f_o_instances)), (a_o_premiseCounts, .inl (fx_cI X, 301, .inl f_o_premiseCounts)), (a_o_premises, .inl (fx_cI X, 903, .inl f_o_premises)), (a_p3, .inl (fx_cI X, n_p3, .inl f_p3))] sz)) 0 0 (va_A [(a_o, .inr (2, [.ref a_o_ruleNumbers, .ref a_o_instances, .ref a_o_premiseCounts, .ref a_o_premises, .int s_o_last])), (a_o_ruleNumbers, .inl (fx_cI X, 301, .inl f_o_ruleNumbers)), (a_o_instances, .inl (fx_cI X, 301, .inl f_o_instances)), (a_o_premiseCounts, .inl (fx_cI X, 301, .inl f_o_premiseCounts)), (a_o_premises, .inl (fx_cI X, 903, .inl f_o_premises)), (a_p3, .inl (fx_cI X, n_p3, .inl f_p3))] sz) := by
  refine Met.ofW (cc := cX2_move) (maxL := 8) (ret := none) (by decide) rfl ?_
  intro p e s m args below meth c s₁ B hml hv
  obtain ⟨rfl, hsz, hP, hK, hD0, hG⟩ := hv
  have hx := B.exec
  have hb := B.bytes
  have hr := B.returns
  have hts := atoms_spec (ws := wsX2_move) B.pre
  have hown : s.vm.findClass RX2 = some m.cls := findClass_of_methodNamed B.named
  have hlocks := B.notSynchronized
  subst hsz
  have hD := hD0.self (sz := s.heap.size)
  generalize hAe : va_A [(a_o, .inr (2, [.ref a_o_ruleNumbers, .ref a_o_instances, .ref a_o_premiseCounts, .ref a_o_premises, .int s_o_last])), (a_o_ruleNumbers, .inl (fx_cI X, 301, .inl f_o_ruleNumbers)), (a_o_instances, .inl (fx_cI X, 301, .inl f_o_instances)), (a_o_premiseCounts, .inl (fx_cI X, 301, .inl f_o_premiseCounts)), (a_o_premises, .inl (fx_cI X, 903, .inl f_o_premises)), (a_p3, .inl (fx_cI X, n_p3, .inl f_p3))] s.heap.size = A at hD hG ⊢
  have hA : ∀ q : Nat, s.heap.size ≤ q → A q := fun q h => by rw [← hAe]; exact Or.inr h
  have hS : va_S A s.heap s.heap [] := va_S.rf
  have k18 := hts (.fieldLink RX2 18 "ProofChecker$Rows" "premiseCounts" "[I") (by decide +kernel)
  have k15 := hts (.fieldLink RX2 15 "ProofChecker$Rows" "instances" "[I") (by decide +kernel)
  have k9 := hts (.fieldLink RX2 9 "ProofChecker$Rows" "ruleNumbers" "[I") (by decide +kernel)
  have k21 := hts (.fieldLink RX2 21 "ProofChecker$Rows" "premises" "[I") (by decide +kernel)
  have hl := lv_entry ([.ref a_o, .int p1, .int p2, .ref a_p3]) (n := 8) (Nat.le_of_ble_eq_true rfl)
  rw [lg_entry_eq]
  generalize (lg_sl ([.ref a_o, .int p1, .int p2, .ref a_p3]) ++ List.replicate (8 - (lg_sl ([.ref a_o, .int p1, .int p2, .ref a_p3])).length) Slot.unset).toArray = ls at hl ⊢
  have hl : lv_has ls 8 [(0, .ref a_o), (1, .int p1), (2, .int p2), (3, .ref a_p3)] := hl
  unfold wp_X2_move at h
  refine lv_aload_n hx hb dX2_move_0 rfl (lv_at hl 0 rfl) ?_
  refine lv_iload_n hx hb dX2_move_1 rfl (lv_at hl 1 rfl) ?_
  refine vp_callSi (W.runV (As := [.int p1]) (rest := []) ⟨hx, hb, hml, hown, hts⟩ (cw_X2_has l X a_o a_o_ruleNumbers a_o_instances a_o_premiseCounts a_o_premises s_o_last p1 _ h) (cwV 1 hts gX2_move_X2_has rfl rfl rfl (by decide +kernel) ⟨Nat.le_of_ble_eq_true rfl, Nat.le_of_ble_eq_true rfl⟩) (fx_pv hP hK hG hS (va_recv hK hP (ci := 2) (q0 := 0) rfl rfl) [0] rfl) rfl rfl hl.1 rfl (lv_room (Nat.le_of_ble_eq_true rfl)) dX2_move_2 ⟨Nat.le_of_ble_eq_true rfl, Nat.le_of_ble_eq_true rfl⟩) (fun r1 h => ?_)
  refine fx_if_eq (tgt := 16) hx hb h dX2_move_5 (by decide) (fun h => ?_) (fun h => ?_)
  · exact W.vret hx hb hr (fun t ht hW => ⟨⟨(f_o_ruleNumbers, f_o_instances, f_o_premiseCounts, f_o_premises), rfl, h, by rw [ht]; exact hP, va_K.moved hW.alike hK, hD⟩, hS.F ht⟩) hS.2.2 dX2_move_16
  refine lv_aload_n hx hb dX2_move_8 rfl (lv_at hl 0 rfl) ?_
  refine lv_iload_n hx hb dX2_move_9 rfl (lv_at hl 2 rfl) ?_
  refine vp_callSi (W.runV (As := [.int p2]) (rest := []) ⟨hx, hb, hml, hown, hts⟩ (cw_X2_has l X a_o a_o_ruleNumbers a_o_instances a_o_premiseCounts a_o_premises s_o_last p2 _ h) (cwV 1 hts gX2_move_X2_has rfl rfl rfl (by decide +kernel) ⟨Nat.le_of_ble_eq_true rfl, Nat.le_of_ble_eq_true rfl⟩) (fx_pv hP hK hG hS (va_recv hK hP (ci := 2) (q0 := 0) rfl rfl) [0] rfl) rfl rfl hl.1 rfl (lv_room (Nat.le_of_ble_eq_true rfl)) dX2_move_10 ⟨Nat.le_of_ble_eq_true rfl, Nat.le_of_ble_eq_true rfl⟩) (fun r2 h => ?_)
  refine fx_if_ne (tgt := 17) hx hb h dX2_move_13 (by decide) (fun h => ?_) (fun h => ?_)
  · refine lv_aload_n hx hb dX2_move_17 rfl (lv_at hl 0 rfl) ?_
    refine lv_iload_n hx hb dX2_move_18 rfl (lv_at hl 1 rfl) ?_
    refine vp_callSi (W.runV (As := [.int p1]) (rest := []) ⟨hx, hb, hml, hown, hts⟩ (cw_X2_premiseCount l X a_o a_o_ruleNumbers a_o_instances a_o_premiseCounts a_o_premises s_o_last f_o_premiseCounts p1 _ h) (cwV 1 hts gX2_move_X2_premiseCount rfl rfl rfl (by decide +kernel) ⟨Nat.le_of_ble_eq_true rfl, Nat.le_of_ble_eq_true rfl⟩) (fx_pv hP hK hG hS (va_recv hK hP (ci := 2) (q0 := 0) rfl rfl) [0, 3] rfl) rfl rfl hl.1 rfl (lv_room (Nat.le_of_ble_eq_true rfl)) dX2_move_19 ⟨Nat.le_of_ble_eq_true rfl, Nat.le_of_ble_eq_true rfl⟩) (fun r3 h => ?_)
    refine lv_istore (lv' := [(4, .int r3), (0, .ref a_o), (1, .int p1), (2, .int p2), (3, .ref a_p3)]) hx hb dX2_move_22 hl (by decide) rfl (fun ls hl => ?_)
    refine lv_iconst (v := (nI 0)) hx hb dX2_move_24 (by decide) ?_
    refine lv_istore (lv' := [(5, .int (nI 0)), (4, .int r3), (0, .ref a_o), (1, .int p1), (2, .int p2), (3, .ref a_p3)]) hx hb dX2_move_25 hl (by decide) rfl (fun ls hl => ?_)
    refine fx_loop2 (G := fun (x4 : Int32) (y5 : Nat → Int32) => ∀ (H : Heap) (locs : List Loc) (ls : Array Slot), va_P (fx_D X) vwCl [(a_o, .inr (2, [.ref a_o_ruleNumbers, .ref a_o_instances, .ref a_o_premiseCounts, .ref a_o_premises, .int s_o_last])), (a_o_ruleNumbers, .inl (fx_cI X, 301, .inl f_o_ruleNumbers)), (a_o_instances, .inl (fx_cI X, 301, .inl f_o_instances)), (a_o_premiseCounts, .inl (fx_cI X, 301, .inl f_o_premiseCounts)), (a_o_premises, .inl (fx_cI X, 903, .inl y5)), (a_p3, .inl (fx_cI X, n_p3, .inl f_p3))] H → va_D A [(a_o, .inr (2, [.ref a_o_ruleNumbers, .ref a_o_instances, .ref a_o_premiseCounts, .ref a_o_premises, .int s_o_last])), (a_o_ruleNumbers, .inl (fx_cI X, 301, .inl f_o_ruleNumbers)), (a_o_instances, .inl (fx_cI X, 301, .inl f_o_instances)), (a_o_premiseCounts, .inl (fx_cI X, 301, .inl f_o_premiseCounts)), (a_o_premises, .inl (fx_cI X, 903, .inl y5)), (a_p3, .inl (fx_cI X, n_p3, .inl f_p3))] → va_S A s.heap H locs → lv_has ls 8 [(5, .int x4), (4, .int r3), (0, .ref a_o), (1, .int p1), (2, .int p2), (3, .ref a_p3)] → W p l e _ s m _ below meth c H locs _ _ _ (F0 m 27 ls [])) (fun rec6 hrec6 x4 y5 h => ?_) h _ _ _ hP hD hS (lv_sub hl [0, 1, 2, 3, 4, 5] rfl)
    intro H locs ls hP hD hS hl
    refine lv_iload hx hb dX2_move_27 (lv_at hl 0 rfl) ?_
    refine lv_iload hx hb dX2_move_29 (lv_at hl 1 rfl) ?_
    refine fx_icmp_ge (tgt := 96) hx hb h dX2_move_31 (by decide) (fun h => ?_) (fun h => ?_)
    · refine lv_aload_n hx hb dX2_move_96 rfl (lv_at hl 2 rfl) ?_
      refine va_get (D := fx_D X) (ci := 2) (v := .ref a_o_ruleNumbers) (C := RX2) (T := TX2) (N := 5) hx hb hts im_X2_move_X2 hown hK hP 0 rfl rfl 0 (by decide) k9 (fun _ h9 => h9) rfl dX2_move_97 ?_
      refine lv_iload_n hx hb dX2_move_100 rfl (lv_at hl 4 rfl) ?_
      refine lv_aload_n hx hb dX2_move_101 rfl (lv_at hl 2 rfl) ?_
      refine va_get (D := fx_D X) (ci := 2) (v := .ref a_o_ruleNumbers) (C := RX2) (T := TX2) (N := 5) hx hb hts im_X2_move_X2 hown hK hP 0 rfl rfl 0 (by decide) k9 (fun _ h9 => h9) rfl dX2_move_102 ?_
      refine lv_iload_n hx hb dX2_move_105 rfl (lv_at hl 3 rfl) ?_
      refine fx_iald hx hb hK hP 1 0 rfl rfl h dX2_move_106 (fun v7 h => ?_)
      refine fx_iast hx hb hK hP hD hS 1 0 rfl rfl h dX2_move_107 (fun g9 => [(a_o, .inr (2, [.ref a_o_ruleNumbers, .ref a_o_instances, .ref a_o_premiseCounts, .ref a_o_premises, .int s_o_last])), (a_o_ruleNumbers, .inl (fx_cI X, 301, .inl g9)), (a_o_instances, .inl (fx_cI X, 301, .inl f_o_instances)), (a_o_premiseCounts, .inl (fx_cI X, 301, .inl f_o_premiseCounts)), (a_o_premises, .inl (fx_cI X, 903, .inl y5)), (a_p3, .inl (fx_cI X, n_p3, .inl f_p3))]) (fun _ => rfl) (fun H locs g9 h hP hD hS => ?_)
      refine lv_aload_n hx hb dX2_move_108 rfl (lv_at hl 2 rfl) ?_
      refine va_get (D := fx_D X) (ci := 2) (v := .ref a_o_instances) (C := RX2) (T := TX2) (N := 5) hx hb hts im_X2_move_X2 hown hK hP 0 rfl rfl 1 (by decide) k15 (fun _ h9 => h9) rfl dX2_move_109 ?_
      refine lv_iload_n hx hb dX2_move_112 rfl (lv_at hl 4 rfl) ?_
      refine lv_aload_n hx hb dX2_move_113 rfl (lv_at hl 2 rfl) ?_
      refine va_get (D := fx_D X) (ci := 2) (v := .ref a_o_instances) (C := RX2) (T := TX2) (N := 5) hx hb hts im_X2_move_X2 hown hK hP 0 rfl rfl 1 (by decide) k15 (fun _ h9 => h9) rfl dX2_move_114 ?_
      refine lv_iload_n hx hb dX2_move_117 rfl (lv_at hl 3 rfl) ?_
      refine fx_iald hx hb hK hP 2 0 rfl rfl h dX2_move_118 (fun v10 h => ?_)
      refine fx_iast hx hb hK hP hD hS 2 0 rfl rfl h dX2_move_119 (fun g12 => [(a_o, .inr (2, [.ref a_o_ruleNumbers, .ref a_o_instances, .ref a_o_premiseCounts, .ref a_o_premises, .int s_o_last])), (a_o_ruleNumbers, .inl (fx_cI X, 301, .inl g9)), (a_o_instances, .inl (fx_cI X, 301, .inl g12)), (a_o_premiseCounts, .inl (fx_cI X, 301, .inl f_o_premiseCounts)), (a_o_premises, .inl (fx_cI X, 903, .inl y5)), (a_p3, .inl (fx_cI X, n_p3, .inl f_p3))]) (fun _ => rfl) (fun H locs g12 h hP hD hS => ?_)
      refine lv_aload_n hx hb dX2_move_120 rfl (lv_at hl 2 rfl) ?_
      refine va_get (D := fx_D X) (ci := 2) (v := .ref a_o_premiseCounts) (C := RX2) (T := TX2) (N := 5) hx hb hts im_X2_move_X2 hown hK hP 0 rfl rfl 2 (by decide) k18 (fun _ h9 => h9) rfl dX2_move_121 ?_
      refine lv_iload_n hx hb dX2_move_124 rfl (lv_at hl 4 rfl) ?_
      refine lv_iload hx hb dX2_move_125 (lv_at hl 1 rfl) ?_
      refine fx_iast hx hb hK hP hD hS 3 0 rfl rfl h dX2_move_127 (fun g13 => [(a_o, .inr (2, [.ref a_o_ruleNumbers, .ref a_o_instances, .ref a_o_premiseCounts, .ref a_o_premises, .int s_o_last])), (a_o_ruleNumbers, .inl (fx_cI X, 301, .inl g9)), (a_o_instances, .inl (fx_cI X, 301, .inl g12)), (a_o_premiseCounts, .inl (fx_cI X, 301, .inl g13)), (a_o_premises, .inl (fx_cI X, 903, .inl y5)), (a_p3, .inl (fx_cI X, n_p3, .inl f_p3))]) (fun _ => rfl) (fun H locs g13 h hP hD hS => ?_)
      exact W.vret hx hb hr (fun t ht hW => ⟨⟨(g9, g12, g13, y5), rfl, h, by rw [ht]; exact hP, va_K.moved hW.alike hK, hD⟩, hS.F ht⟩) hS.2.2 dX2_move_128
    refine lv_aload_n hx hb dX2_move_34 rfl (lv_at hl 2 rfl) ?_
    refine va_get (D := fx_D X) (ci := 2) (v := .ref a_o_premises) (C := RX2) (T := TX2) (N := 5) hx hb hts im_X2_move_X2 hown hK hP 0 rfl rfl 3 (by decide) k21 (fun _ h9 => h9) rfl dX2_move_35 ?_
    refine lv_iload_n hx hb dX2_move_38 rfl (lv_at hl 3 rfl) ?_
    refine lv_iconst (v := (nI 3)) hx hb dX2_move_39 (by decide) ?_
    refine fx_imul hx hb h dX2_move_40 (fun v17 h => ?_)
    refine lv_iload hx hb dX2_move_41 (lv_at hl 0 rfl) ?_
    refine fx_iadd hx hb h dX2_move_43 (fun v18 h => ?_)
    refine fx_iald hx hb hK hP 4 0 rfl rfl h dX2_move_44 (fun v19 h => ?_)
    refine lv_istore (lv' := [(6, .int v19), (5, .int x4), (4, .int r3), (0, .ref a_o), (1, .int p1), (2, .int p2), (3, .ref a_p3)]) hx hb dX2_move_45 hl (by decide) rfl (fun ls hl => ?_)
    refine lv_iload hx hb dX2_move_47 (lv_at hl 0 rfl) ?_
    refine fx_join1 (G := fun (x21 : Int32) (R : Room) (av : Array Value) (Q : State → Prop) => ∀ (H : Heap) (locs : List Loc) (ls : Array Slot), va_P (fx_D X) vwCl [(a_o, .inr (2, [.ref a_o_ruleNumbers, .ref a_o_instances, .ref a_o_premiseCounts, .ref a_o_premises, .int s_o_last])), (a_o_ruleNumbers, .inl (fx_cI X, 301, .inl f_o_ruleNumbers)), (a_o_instances, .inl (fx_cI X, 301, .inl f_o_instances)), (a_o_premiseCounts, .inl (fx_cI X, 301, .inl f_o_premiseCounts)), (a_o_premises, .inl (fx_cI X, 903, .inl y5)), (a_p3, .inl (fx_cI X, n_p3, .inl f_p3))] H → va_D A [(a_o, .inr (2, [.ref a_o_ruleNumbers, .ref a_o_instances, .ref a_o_premiseCounts, .ref a_o_premises, .int s_o_last])), (a_o_ruleNumbers, .inl (fx_cI X, 301, .inl f_o_ruleNumbers)), (a_o_instances, .inl (fx_cI X, 301, .inl f_o_instances)), (a_o_premiseCounts, .inl (fx_cI X, 301, .inl f_o_premiseCounts)), (a_o_premises, .inl (fx_cI X, 903, .inl y5)), (a_p3, .inl (fx_cI X, n_p3, .inl f_p3))] → va_S A s.heap H locs → lv_has ls 8 [(6, .int v19), (5, .int x4), (4, .int r3), (0, .ref a_o), (1, .int p1), (2, .int p2), (3, .ref a_p3)] → W p l e R s m av below meth c H locs 0 0 Q (F0 m 64 ls [.int x21])) h (fun x21 h => ?_) (fun K22 hK22 h => ?_)
    · intro H locs ls hP hD hS hl
      refine lv_istore (lv' := [(7, .int x21), (6, .int v19), (5, .int x4), (4, .int r3), (0, .ref a_o), (1, .int p1), (2, .int p2), (3, .ref a_p3)]) hx hb dX2_move_64 hl (by decide) rfl (fun ls hl => ?_)
      refine lv_aload_n hx hb dX2_move_66 rfl (lv_at hl 4 rfl) ?_
      refine va_get (D := fx_D X) (ci := 2) (v := .ref a_o_premises) (C := RX2) (T := TX2) (N := 5) hx hb hts im_X2_move_X2 hown hK hP 0 rfl rfl 3 (by decide) k21 (fun _ h9 => h9) rfl dX2_move_67 ?_
      refine lv_iload_n hx hb dX2_move_70 rfl (lv_at hl 6 rfl) ?_
      refine lv_iconst (v := (nI 3)) hx hb dX2_move_71 (by decide) ?_
      refine fx_imul hx hb h dX2_move_72 (fun v23 h => ?_)
      refine lv_iload hx hb dX2_move_73 (lv_at hl 2 rfl) ?_
      refine fx_iadd hx hb h dX2_move_75 (fun v24 h => ?_)
      refine lv_iload hx hb dX2_move_76 (lv_at hl 0 rfl) ?_
      refine fx_if_eq (tgt := 88) hx hb h dX2_move_78 (by decide) (fun h => ?_) (fun h => ?_)
      · refine lv_iconst (v := (nI 0)) hx hb dX2_move_88 (by decide) ?_
        refine fx_iast hx hb hK hP hD hS 4 0 rfl rfl h dX2_move_89 (fun g25 => [(a_o, .inr (2, [.ref a_o_ruleNumbers, .ref a_o_instances, .ref a_o_premiseCounts, .ref a_o_premises, .int s_o_last])), (a_o_ruleNumbers, .inl (fx_cI X, 301, .inl f_o_ruleNumbers)), (a_o_instances, .inl (fx_cI X, 301, .inl f_o_instances)), (a_o_premiseCounts, .inl (fx_cI X, 301, .inl f_o_premiseCounts)), (a_o_premises, .inl (fx_cI X, 903, .inl g25)), (a_p3, .inl (fx_cI X, n_p3, .inl f_p3))]) (fun _ => rfl) (fun H locs g25 h hP hD hS => ?_)
        refine fx_iinc (y := (nI 1)) hx hb h dX2_move_90 (by decide) (fun v26 => [(5, .int v26), (7, .int x21), (6, .int v19), (4, .int r3), (0, .ref a_o), (1, .int p1), (2, .int p2), (3, .ref a_p3)]) hl 2 rfl (by decide) (fun _ => rfl) (fun v26 ls h hl => ?_)
        refine lv_goto (tgt := 27) hx hb dX2_move_93 (by decide) ?_
        exact hrec6 _ _ h _ _ _ hP hD hS (lv_sub hl [0, 3, 4, 5, 6, 7] rfl)
      refine lv_aload_n hx hb dX2_move_81 rfl (lv_at hl 7 rfl) ?_
      refine lv_iload hx hb dX2_move_82 (lv_at hl 1 rfl) ?_
      refine fx_iald hx hb hK hP 5 0 rfl rfl h dX2_move_84 (fun v28 h => ?_)
      refine lv_goto (tgt := 89) hx hb dX2_move_85 (by decide) ?_
      refine fx_iast hx hb hK hP hD hS 4 0 rfl rfl h dX2_move_89 (fun g30 => [(a_o, .inr (2, [.ref a_o_ruleNumbers, .ref a_o_instances, .ref a_o_premiseCounts, .ref a_o_premises, .int s_o_last])), (a_o_ruleNumbers, .inl (fx_cI X, 301, .inl f_o_ruleNumbers)), (a_o_instances, .inl (fx_cI X, 301, .inl f_o_instances)), (a_o_premiseCounts, .inl (fx_cI X, 301, .inl f_o_premiseCounts)), (a_o_premises, .inl (fx_cI X, 903, .inl g30)), (a_p3, .inl (fx_cI X, n_p3, .inl f_p3))]) (fun _ => rfl) (fun H locs g30 h hP hD hS => ?_)
      refine fx_iinc (y := (nI 1)) hx hb h dX2_move_90 (by decide) (fun v31 => [(5, .int v31), (7, .int x21), (6, .int v19), (4, .int r3), (0, .ref a_o), (1, .int p1), (2, .int p2), (3, .ref a_p3)]) hl 2 rfl (by decide) (fun _ => rfl) (fun v31 ls h hl => ?_)
      refine lv_goto (tgt := 27) hx hb dX2_move_93 (by decide) ?_
      exact hrec6 _ _ h _ _ _ hP hD hS (lv_sub hl [0, 3, 4, 5, 6, 7] rfl)
    refine fx_if_lt (tgt := 63) hx hb h dX2_move_49 (by decide) (fun h => ?_) (fun h => ?_)
    · refine lv_iconst (v := (nI 0)) hx hb dX2_move_63 (by decide) ?_
      exact hK22 _ h _ _ _ hP hD hS (lv_sub hl [0, 1, 2, 3, 4, 5, 6] rfl)
    refine lv_iload hx hb dX2_move_52 (lv_at hl 0 rfl) ?_
    refine lv_aload_n hx hb dX2_move_54 rfl (lv_at hl 6 rfl) ?_
    refine va_alen (v := nI n_p3) hx hb hK hP 5 0 rfl rfl rfl dX2_move_55 ?_
    refine fx_icmp_ge (tgt := 63) hx hb h dX2_move_56 (by decide) (fun h => ?_) (fun h => ?_)
    · refine lv_iconst (v := (nI 0)) hx hb dX2_move_63 (by decide) ?_
      exact hK22 _ h _ _ _ hP hD hS (lv_sub hl [0, 1, 2, 3, 4, 5, 6] rfl)
    refine lv_iconst (v := (nI 1)) hx hb dX2_move_59 (by decide) ?_
    refine lv_goto (tgt := 64) hx hb dX2_move_60 (by decide) ?_
    exact hK22 _ h _ _ _ hP hD hS (lv_sub hl [0, 1, 2, 3, 4, 5, 6] rfl)
  exact W.vret hx hb hr (fun t ht hW => ⟨⟨(f_o_ruleNumbers, f_o_instances, f_o_premiseCounts, f_o_premises), rfl, h, by rw [ht]; exact hP, va_K.moved hW.alike hK, hD⟩, hS.F ht⟩) hS.2.2 dX2_move_16

/-- X2_keepOnly: its walk -/
def wp_X2_keepOnly (post : Int32 → Prop) (s_o_last : Int32) (p1 : Int32) : Prop :=
  fx_nm (if s_o_last < p1 then s_o_last else p1) (fun v1 => fx_nm (if (nI 0) < v1 then v1 else (nI 0)) (fun v2 => post v2))
theorem im_X2_keepOnly_X2 : ∀ w ∈ u_ws RX2 TX2 5, w ∈ wsX2_keepOnly := by decide +kernel
set_option maxHeartbeats 4000000 in
set_option maxRecDepth 100000 in
theorem cw_X2_keepOnly (l : Launch) (X : fx_X) (a_o : Nat) (a_o_ruleNumbers : Nat) (a_o_instances : Nat) (a_o_premiseCounts : Nat) (a_o_premises : Nat) (s_o_last : Int32) (sz : Nat) (p1 : Int32) (post : Int32 → Prop) (h : wp_X2_keepOnly post s_o_last p1) : Met l yX2_keepOnly wsX2_keepOnly ({ frames := 1, cells := 0, slots := 0, locals := 21 }) (va_Pc [.ref a_o, .int p1] (fx_PW X [(a_o, .inr (2, [.ref a_o_ruleNumbers, .ref a_o_instances, .ref a_o_premiseCounts, .ref a_o_premises, .int s_o_last]))] sz)) (va_Qv (fun (u : Int32) => post u) (fun (u : Int32) t => fx_EW X (va_A [(a_o, .inr (2, [.ref a_o_ruleNumbers, .ref a_o_instances, .ref a_o_premiseCounts, .ref a_o_premises, .int s_o_last]))] sz) [(a_o, .inr (2, [.ref a_o_ruleNumbers, .ref a_o_instances, .ref a_o_premiseCounts, .ref a_o_premises, .int u]))] t) (va_A [(a_o, .inr (2, [.ref a_o_ruleNumbers, .ref a_o_instances, .ref a_o_premiseCounts, .ref a_o_premises, .int s_o_last]))] sz)) 0 0 (va_A [(a_o, .inr (2, [.ref a_o_ruleNumbers, .ref a_o_instances, .ref a_o_premiseCounts, .ref a_o_premises, .int s_o_last]))] sz) := by
  refine Met.ofW (cc := cX2_keepOnly) (maxL := 2) (ret := none) (by decide) rfl ?_
  intro p e s m args below meth c s₁ B hml hv
  obtain ⟨rfl, hsz, hP, hK, hD0, hG⟩ := hv
  have hx := B.exec
  have hb := B.bytes
  have hr := B.returns
  have hts := atoms_spec (ws := wsX2_keepOnly) B.pre
  have hown : s.vm.findClass RX2 = some m.cls := findClass_of_methodNamed B.named
  have hlocks := B.notSynchronized
  subst hsz
  have hD := hD0.self (sz := s.heap.size)
  generalize hAe : va_A [(a_o, .inr (2, [.ref a_o_ruleNumbers, .ref a_o_instances, .ref a_o_premiseCounts, .ref a_o_premises, .int s_o_last]))] s.heap.size = A at hD hG ⊢
  have hA : ∀ q : Nat, s.heap.size ≤ q → A q := fun q h => by rw [← hAe]; exact Or.inr h
  have hS : va_S A s.heap s.heap [] := va_S.rf
  have k36 := hts (.methodLink RX2 36 Lib.Math.min.name) (by decide +kernel)
  have kstva_mmin := hts (.static Lib.Math.min.name) (by decide +kernel)
  have kini := hts (.initialized "java/lang/Math") (by decide +kernel)
  have kcova_mmin := hts (.code Lib.Math.min.name Lib.Math.min.code 2 (some .int)) (by decide +kernel)
  have k42 := hts (.methodLink RX2 42 Lib.Math.max.name) (by decide +kernel)
  have kstva_mmax := hts (.static Lib.Math.max.name) (by decide +kernel)
  have kcova_mmax := hts (.code Lib.Math.max.name Lib.Math.max.code 2 (some .int)) (by decide +kernel)
  have k24 := hts (.fieldLink RX2 24 "ProofChecker$Rows" "last" "I") (by decide +kernel)
  have hl := lv_entry ([.ref a_o, .int p1]) (n := 2) (Nat.le_of_ble_eq_true rfl)
  rw [lg_entry_eq]
  generalize (lg_sl ([.ref a_o, .int p1]) ++ List.replicate (2 - (lg_sl ([.ref a_o, .int p1])).length) Slot.unset).toArray = ls at hl ⊢
  have hl : lv_has ls 2 [(0, .ref a_o), (1, .int p1)] := hl
  unfold wp_X2_keepOnly at h
  refine lv_aload_n hx hb dX2_keepOnly_0 rfl (lv_at hl 0 rfl) ?_
  refine lv_iconst (v := (nI 0)) hx hb dX2_keepOnly_1 (by decide) ?_
  refine lv_iload_n hx hb dX2_keepOnly_2 rfl (lv_at hl 1 rfl) ?_
  refine lv_aload_n hx hb dX2_keepOnly_3 rfl (lv_at hl 0 rfl) ?_
  refine va_get (D := fx_D X) (ci := 2) (v := .int s_o_last) (C := RX2) (T := TX2) (N := 5) hx hb hts im_X2_keepOnly_X2 hown hK hP 0 rfl rfl 4 (by decide) k24 (fun _ h9 => h9) rfl dX2_keepOnly_4 ?_
  refine va_mmin hx hb (by rw [hml]; exact hl.1.symm) hown k36 kstva_mmin kini kcova_mmin (Nat.le_of_ble_eq_true rfl) (Nat.le_of_ble_eq_true rfl) (Nat.le_of_ble_eq_true rfl) (Nat.le_of_ble_eq_true rfl) dX2_keepOnly_7 ?_
  have h := h _ rfl
  generalize (if s_o_last < p1 then s_o_last else p1) = v1 at h ⊢
  refine va_mmax hx hb (by rw [hml]; exact hl.1.symm) hown k42 kstva_mmax kini kcova_mmax (Nat.le_of_ble_eq_true rfl) (Nat.le_of_ble_eq_true rfl) (Nat.le_of_ble_eq_true rfl) (Nat.le_of_ble_eq_true rfl) dX2_keepOnly_10 ?_
  have h := h _ rfl
  generalize (if (nI 0) < v1 then v1 else (nI 0)) = v2 at h ⊢
  refine va_put (D := fx_D X) (ci := 2) (v := .int v2) (ty := .int) (C := RX2) (T := TX2) (N := 5) hx hb hts im_X2_keepOnly_X2 tyX2 tyX2_ok nmX2 hown hK hP hD hS 0 rfl rfl 4 (by decide) k24 (fun _ h9 => h9) rfl (by decide +kernel) rfl rfl (Nat.le_of_ble_eq_true rfl) dX2_keepOnly_13 (fun H locs hP hD hS => ?_)
  have hP : va_P (fx_D X) vwCl [(a_o, .inr (2, [.ref a_o_ruleNumbers, .ref a_o_instances, .ref a_o_premiseCounts, .ref a_o_premises, .int v2]))] H := hP
  have hD : va_D A [(a_o, .inr (2, [.ref a_o_ruleNumbers, .ref a_o_instances, .ref a_o_premiseCounts, .ref a_o_premises, .int v2]))] := hD
  exact W.vret hx hb hr (fun t ht hW => ⟨⟨v2, rfl, h, by rw [ht]; exact hP, va_K.moved hW.alike hK, hD⟩, hS.F ht⟩) hS.2.2 dX2_keepOnly_16

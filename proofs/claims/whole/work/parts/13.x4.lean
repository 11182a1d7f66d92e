/-- X4_kind: its walk -/
def wp_X4_kind (post : Int32 → Prop) (n_o_kinds : Nat) (f_o_kinds : Nat → Int32) (p1 : Int32) : Prop :=
  fx_br (p1 < (nI 1)) (post (nI 0)) (fx_br ((nI n_o_kinds) ≤ p1) (post (nI 0)) (fx_ix p1 n_o_kinds (fun k2 => fx_nm (f_o_kinds k2) (fun v1 => post v1))))
theorem im_X4_kind_X4 : ∀ w ∈ u_ws RX4 TX4 3, w ∈ wsX4_kind := by decide +kernel
set_option maxHeartbeats 4000000 in
set_option maxRecDepth 100000 in
theorem cw_X4_kind (l : Launch) (X : fx_X) (a_o : Nat) (a_o_kinds : Nat) (a_o_numbers : Nat) (n_o_kinds : Nat) (s_o_count : Int32) (f_o_kinds : Nat → Int32) (p1 : Int32) (post : Int32 → Prop) (h : wp_X4_kind post n_o_kinds f_o_kinds p1) : Met l yX4_kind wsX4_kind ({ frames := 0, cells := 0, slots := 0, locals := 0 }) (va_Pc [.ref a_o, .int p1] (fx_PP X [(a_o, .inr (3, [.ref a_o_kinds, .ref a_o_numbers, .int s_o_count])), (a_o_kinds, .inl (fx_cI X, n_o_kinds, .inl f_o_kinds))])) (vp_Si post) 0 0 (fun _ => False) := by
  refine Met.ofW (cc := cX4_kind) (maxL := 2) (ret := (some .int)) (by decide) rfl ?_
  intro p e s m args below meth c s₁ B hml hv
  obtain ⟨rfl, hP, hK, hG⟩ := hv
  have hx := B.exec
  have hb := B.bytes
  have hr := B.returns
  have hts := atoms_spec (ws := wsX4_kind) B.pre
  have hown : s.vm.findClass RX4 = some m.cls := findClass_of_methodNamed B.named
  have hlocks := B.notSynchronized
  have hS : va_S (fun _ => False) s.heap s.heap [] := va_S.rf
  have k15 := hts (.fieldLink RX4 15 "ProofChecker$Statements" "kinds" "[I") (by decide +kernel)
  have hl := lv_entry ([.ref a_o, .int p1]) (n := 2) (Nat.le_of_ble_eq_true rfl)
  rw [lg_entry_eq]
  generalize (lg_sl ([.ref a_o, .int p1]) ++ List.replicate (2 - (lg_sl ([.ref a_o, .int p1])).length) Slot.unset).toArray = ls at hl ⊢
  have hl : lv_has ls 2 [(0, .ref a_o), (1, .int p1)] := hl
  unfold wp_X4_kind at h
  refine lv_iload_n hx hb dX4_kind_0 rfl (lv_at hl 1 rfl) ?_
  refine lv_iconst (v := (nI 1)) hx hb dX4_kind_1 (by decide) ?_
  refine fx_icmp_lt (tgt := 23) hx hb h dX4_kind_2 (by decide) (fun h => ?_) (fun h => ?_)
  · refine lv_iconst (v := (nI 0)) hx hb dX4_kind_23 (by decide) ?_
    exact W.iret (v := (nI 0)) hx hb hr  (fun t ht hW => ⟨_, rfl, h, ht⟩) (fun q hq => by cases hq) dX4_kind_24
  refine lv_iload_n hx hb dX4_kind_5 rfl (lv_at hl 1 rfl) ?_
  refine lv_aload_n hx hb dX4_kind_6 rfl (lv_at hl 0 rfl) ?_
  refine va_get (D := fx_D X) (ci := 3) (v := .ref a_o_kinds) (C := RX4) (T := TX4) (N := 3) hx hb hts im_X4_kind_X4 hown hK hP 0 rfl rfl 0 (by decide) k15 (fun _ h9 => h9) rfl dX4_kind_7 ?_
  refine va_alen (v := nI n_o_kinds) hx hb hK hP 1 0 rfl rfl rfl dX4_kind_10 ?_
  refine fx_icmp_ge (tgt := 23) hx hb h dX4_kind_11 (by decide) (fun h => ?_) (fun h => ?_)
  · refine lv_iconst (v := (nI 0)) hx hb dX4_kind_23 (by decide) ?_
    exact W.iret (v := (nI 0)) hx hb hr  (fun t ht hW => ⟨_, rfl, h, ht⟩) (fun q hq => by cases hq) dX4_kind_24
  refine lv_aload_n hx hb dX4_kind_14 rfl (lv_at hl 0 rfl) ?_
  refine va_get (D := fx_D X) (ci := 3) (v := .ref a_o_kinds) (C := RX4) (T := TX4) (N := 3) hx hb hts im_X4_kind_X4 hown hK hP 0 rfl rfl 0 (by decide) k15 (fun _ h9 => h9) rfl dX4_kind_15 ?_
  refine lv_iload_n hx hb dX4_kind_18 rfl (lv_at hl 1 rfl) ?_
  refine fx_iald hx hb hK hP 1 0 rfl rfl h dX4_kind_19 (fun v1 h => ?_)
  refine lv_goto (tgt := 24) hx hb dX4_kind_20 (by decide) ?_
  exact W.iret (v := v1) hx hb hr  (fun t ht hW => ⟨_, rfl, h, ht⟩) (fun q hq => by cases hq) dX4_kind_24

/-- X4_has: its walk -/
def wp_X4_has (post : Int32 → Prop) (n_o_kinds : Nat) (f_o_kinds : Nat → Int32) (p1 : Int32) : Prop :=
  wp_X4_kind (fun r1 => fx_br (r1 = 0) (post (nI 0)) (post (nI 1))) n_o_kinds f_o_kinds p1
set_option maxHeartbeats 4000000 in
set_option maxRecDepth 100000 in
theorem cw_X4_has (l : Launch) (X : fx_X) (a_o : Nat) (a_o_kinds : Nat) (a_o_numbers : Nat) (n_o_kinds : Nat) (s_o_count : Int32) (f_o_kinds : Nat → Int32) (p1 : Int32) (post : Int32 → Prop) (h : wp_X4_has post n_o_kinds f_o_kinds p1) : Met l yX4_has wsX4_has ({ frames := 1, cells := 0, slots := 0, locals := 21 }) (va_Pc [.ref a_o, .int p1] (fx_PP X [(a_o, .inr (3, [.ref a_o_kinds, .ref a_o_numbers, .int s_o_count])), (a_o_kinds, .inl (fx_cI X, n_o_kinds, .inl f_o_kinds))])) (vp_Si post) 0 0 (fun _ => False) := by
  refine Met.ofW (cc := cX4_has) (maxL := 2) (ret := (some .boolean)) (by decide) rfl ?_
  intro p e s m args below meth c s₁ B hml hv
  obtain ⟨rfl, hP, hK, hG⟩ := hv
  have hx := B.exec
  have hb := B.bytes
  have hr := B.returns
  have hts := atoms_spec (ws := wsX4_has) B.pre
  have hown : s.vm.findClass RX4 = some m.cls := findClass_of_methodNamed B.named
  have hlocks := B.notSynchronized
  have hS : va_S (fun _ => False) s.heap s.heap [] := va_S.rf
  have hl := lv_entry ([.ref a_o, .int p1]) (n := 2) (Nat.le_of_ble_eq_true rfl)
  rw [lg_entry_eq]
  generalize (lg_sl ([.ref a_o, .int p1]) ++ List.replicate (2 - (lg_sl ([.ref a_o, .int p1])).length) Slot.unset).toArray = ls at hl ⊢
  have hl : lv_has ls 2 [(0, .ref a_o), (1, .int p1)] := hl
  unfold wp_X4_has at h
  refine lv_aload_n hx hb dX4_has_0 rfl (lv_at hl 0 rfl) ?_
  refine lv_iload_n hx hb dX4_has_1 rfl (lv_at hl 1 rfl) ?_
  refine vp_callSi (W.runV (As := [.int p1]) (rest := []) ⟨hx, hb, hml, hown, hts⟩ (cw_X4_kind l X a_o a_o_kinds a_o_numbers n_o_kinds s_o_count f_o_kinds p1 _ h) (cwV 1 hts gX4_has_X4_kind rfl rfl rfl (by decide +kernel) ⟨Nat.le_of_ble_eq_true rfl, Nat.le_of_ble_eq_true rfl⟩) (fx_pv hP hK hG hS (va_recv hK hP (ci := 3) (q0 := 0) rfl rfl) [0, 1] rfl) rfl rfl hl.1 rfl (lv_room (Nat.le_of_ble_eq_true rfl)) dX4_has_2 ⟨Nat.le_of_ble_eq_true rfl, Nat.le_of_ble_eq_true rfl⟩) (fun r1 h => ?_)
  refine fx_if_eq (tgt := 12) hx hb h dX4_has_5 (by decide) (fun h => ?_) (fun h => ?_)
  · refine lv_iconst (v := (nI 0)) hx hb dX4_has_12 (by decide) ?_
    exact W.zret (v := (nI 0)) hx hb hr rfl (fun t ht hW => ⟨_, rfl, h, ht⟩) (fun q hq => by cases hq) dX4_has_13
  refine lv_iconst (v := (nI 1)) hx hb dX4_has_8 (by decide) ?_
  refine lv_goto (tgt := 13) hx hb dX4_has_9 (by decide) ?_
  exact W.zret (v := (nI 1)) hx hb hr rfl (fun t ht hW => ⟨_, rfl, h, ht⟩) (fun q hq => by cases hq) dX4_has_13

/-- X4_number: its walk -/
def wp_X4_number (post : Int32 → Prop) (n_o_kinds : Nat) (n_o_numbers : Nat) (f_o_numbers : Nat → Int32) (p1 : Int32) (p2 : Int32) : Prop :=
  fx_jn1 (fun (x1 : Int32) => fx_br (x1 = 0) (post (nI 0)) (fx_nm (p1 * (nI 3)) (fun v3 => fx_nm (v3 + p2) (fun v4 => fx_nm (v4 - (nI 1)) (fun v5 => fx_ix v5 n_o_numbers (fun k7 => fx_nm (f_o_numbers k7) (fun v6 => post v6))))))) (fun K2 => fx_br (p1 < (nI 1)) (K2 (nI 0)) (fx_br ((nI n_o_kinds) ≤ p1) (K2 (nI 0)) (fx_br (p2 < (nI 1)) (K2 (nI 0)) (fx_br ((nI 3) < p2) (K2 (nI 0)) (K2 (nI 1))))))
theorem im_X4_number_X4 : ∀ w ∈ u_ws RX4 TX4 3, w ∈ wsX4_number := by decide +kernel
set_option maxHeartbeats 4000000 in
set_option maxRecDepth 100000 in
theorem cw_X4_number (l : Launch) (X : fx_X) (a_o : Nat) (a_o_kinds : Nat) (a_o_numbers : Nat) (n_o_kinds : Nat) (n_o_numbers : Nat) (s_o_count : Int32) (f_o_kinds : Nat → Int32) (f_o_numbers : Nat → Int32) (p1 : Int32) (p2 : Int32) (post : Int32 → Prop) (h : wp_X4_number post n_o_kinds n_o_numbers f_o_numbers p1 p2) : Met l yX4_number wsX4_number ({ frames := 0, cells := 0, slots := 0, locals := 0 }) (va_Pc [.ref a_o, .int p1, .int p2] (fx_PP X [(a_o, .inr (3, [.ref a_o_kinds, .ref a_o_numbers, .int s_o_count])), (a_o_kinds, .inl (fx_cI X, n_o_kinds, .inl f_o_kinds)), (a_o_numbers, .inl (fx_cI X, n_o_numbers, .inl f_o_numbers))])) (vp_Si post) 0 0 (fun _ => False) := by
  refine Met.ofW (cc := cX4_number) (maxL := 4) (ret := (some .int)) (by decide) rfl ?_
  intro p e s m args below meth c s₁ B hml hv
  obtain ⟨rfl, hP, hK, hG⟩ := hv
  have hx := B.exec
  have hb := B.bytes
  have hr := B.returns
  have hts := atoms_spec (ws := wsX4_number) B.pre
  have hown : s.vm.findClass RX4 = some m.cls := findClass_of_methodNamed B.named
  have hlocks := B.notSynchronized
  have hS : va_S (fun _ => False) s.heap s.heap [] := va_S.rf
  have k15 := hts (.fieldLink RX4 15 "ProofChecker$Statements" "kinds" "[I") (by decide +kernel)
  have k21 := hts (.fieldLink RX4 21 "ProofChecker$Statements" "numbers" "[I") (by decide +kernel)
  have hl := lv_entry ([.ref a_o, .int p1, .int p2]) (n := 4) (Nat.le_of_ble_eq_true rfl)
  rw [lg_entry_eq]
  generalize (lg_sl ([.ref a_o, .int p1, .int p2]) ++ List.replicate (4 - (lg_sl ([.ref a_o, .int p1, .int p2])).length) Slot.unset).toArray = ls at hl ⊢
  have hl : lv_has ls 4 [(0, .ref a_o), (1, .int p1), (2, .int p2)] := hl
  unfold wp_X4_number at h
  refine lv_iload_n hx hb dX4_number_0 rfl (lv_at hl 1 rfl) ?_
  refine lv_iconst (v := (nI 1)) hx hb dX4_number_1 (by decide) ?_
  refine fx_join1 (G := fun (x1 : Int32) (R : Room) (av : Array Value) (Q : State → Prop) => ∀ (ls : Array Slot), lv_has ls 4 [(0, .ref a_o), (1, .int p1), (2, .int p2)] → W p l e R s m av below meth c s.heap [] 0 0 Q (F0 m 29 ls [.int x1])) h (fun x1 h => ?_) (fun K2 hK2 h => ?_)
  · intro ls hl
    refine lv_istore_n (lv' := [(3, .int x1), (0, .ref a_o), (1, .int p1), (2, .int p2)]) hx hb dX4_number_29 rfl hl (by decide) rfl (fun ls hl => ?_)
    refine lv_iload_n hx hb dX4_number_30 rfl (lv_at hl 0 rfl) ?_
    refine fx_if_eq (tgt := 49) hx hb h dX4_number_31 (by decide) (fun h => ?_) (fun h => ?_)
    · refine lv_iconst (v := (nI 0)) hx hb dX4_number_49 (by decide) ?_
      exact W.iret (v := (nI 0)) hx hb hr  (fun t ht hW => ⟨_, rfl, h, ht⟩) (fun q hq => by cases hq) dX4_number_50
    refine lv_aload_n hx hb dX4_number_34 rfl (lv_at hl 1 rfl) ?_
    refine va_get (D := fx_D X) (ci := 3) (v := .ref a_o_numbers) (C := RX4) (T := TX4) (N := 3) hx hb hts im_X4_number_X4 hown hK hP 0 rfl rfl 1 (by decide) k21 (fun _ h9 => h9) rfl dX4_number_35 ?_
    refine lv_iload_n hx hb dX4_number_38 rfl (lv_at hl 2 rfl) ?_
    refine lv_iconst (v := (nI 3)) hx hb dX4_number_39 (by decide) ?_
    refine fx_imul hx hb h dX4_number_40 (fun v3 h => ?_)
    refine lv_iload_n hx hb dX4_number_41 rfl (lv_at hl 3 rfl) ?_
    refine fx_iadd hx hb h dX4_number_42 (fun v4 h => ?_)
    refine lv_iconst (v := (nI 1)) hx hb dX4_number_43 (by decide) ?_
    refine fx_isub hx hb h dX4_number_44 (fun v5 h => ?_)
    refine fx_iald hx hb hK hP 2 0 rfl rfl h dX4_number_45 (fun v6 h => ?_)
    refine lv_goto (tgt := 50) hx hb dX4_number_46 (by decide) ?_
    exact W.iret (v := v6) hx hb hr  (fun t ht hW => ⟨_, rfl, h, ht⟩) (fun q hq => by cases hq) dX4_number_50
  refine fx_icmp_lt (tgt := 28) hx hb h dX4_number_2 (by decide) (fun h => ?_) (fun h => ?_)
  · refine lv_iconst (v := (nI 0)) hx hb dX4_number_28 (by decide) ?_
    exact hK2 _ h _ (lv_sub hl [0, 1, 2] rfl)
  refine lv_iload_n hx hb dX4_number_5 rfl (lv_at hl 1 rfl) ?_
  refine lv_aload_n hx hb dX4_number_6 rfl (lv_at hl 0 rfl) ?_
  refine va_get (D := fx_D X) (ci := 3) (v := .ref a_o_kinds) (C := RX4) (T := TX4) (N := 3) hx hb hts im_X4_number_X4 hown hK hP 0 rfl rfl 0 (by decide) k15 (fun _ h9 => h9) rfl dX4_number_7 ?_
  refine va_alen (v := nI n_o_kinds) hx hb hK hP 1 0 rfl rfl rfl dX4_number_10 ?_
  refine fx_icmp_ge (tgt := 28) hx hb h dX4_number_11 (by decide) (fun h => ?_) (fun h => ?_)
  · refine lv_iconst (v := (nI 0)) hx hb dX4_number_28 (by decide) ?_
    exact hK2 _ h _ (lv_sub hl [0, 1, 2] rfl)
  refine lv_iload_n hx hb dX4_number_14 rfl (lv_at hl 2 rfl) ?_
  refine lv_iconst (v := (nI 1)) hx hb dX4_number_15 (by decide) ?_
  refine fx_icmp_lt (tgt := 28) hx hb h dX4_number_16 (by decide) (fun h => ?_) (fun h => ?_)
  · refine lv_iconst (v := (nI 0)) hx hb dX4_number_28 (by decide) ?_
    exact hK2 _ h _ (lv_sub hl [0, 1, 2] rfl)
  refine lv_iload_n hx hb dX4_number_19 rfl (lv_at hl 2 rfl) ?_
  refine lv_iconst (v := (nI 3)) hx hb dX4_number_20 (by decide) ?_
  refine fx_icmp_gt (tgt := 28) hx hb h dX4_number_21 (by decide) (fun h => ?_) (fun h => ?_)
  · refine lv_iconst (v := (nI 0)) hx hb dX4_number_28 (by decide) ?_
    exact hK2 _ h _ (lv_sub hl [0, 1, 2] rfl)
  refine lv_iconst (v := (nI 1)) hx hb dX4_number_24 (by decide) ?_
  refine lv_goto (tgt := 29) hx hb dX4_number_25 (by decide) ?_
  exact hK2 _ h _ (lv_sub hl [0, 1, 2] rfl)

/-- X4_is: its walk -/
def wp_X4_is (post : Int32 → Prop) (n_o_kinds : Nat) (n_o_numbers : Nat) (f_o_kinds : Nat → Int32) (f_o_numbers : Nat → Int32) (p1 : Int32) (p2 : Int32) (p3 : Int32) (p4 : Int32) (p5 : Int32) : Prop :=
  wp_X4_kind (fun r1 => fx_br (r1 = p2) (wp_X4_number (fun r2 => fx_br (r2 = p3) (wp_X4_number (fun r3 => fx_br (r3 = p4) (wp_X4_number (fun r4 => fx_br (r4 = p5) (post (nI 1)) (post (nI 0))) n_o_kinds n_o_numbers f_o_numbers p1 (nI 3)) (post (nI 0))) n_o_kinds n_o_numbers f_o_numbers p1 (nI 2)) (post (nI 0))) n_o_kinds n_o_numbers f_o_numbers p1 (nI 1)) (post (nI 0))) n_o_kinds f_o_kinds p1
set_option maxHeartbeats 4000000 in
set_option maxRecDepth 100000 in
theorem cw_X4_is (l : Launch) (X : fx_X) (a_o : Nat) (a_o_kinds : Nat) (a_o_numbers : Nat) (n_o_kinds : Nat) (n_o_numbers : Nat) (s_o_count : Int32) (f_o_kinds : Nat → Int32) (f_o_numbers : Nat → Int32) (p1 : Int32) (p2 : Int32) (p3 : Int32) (p4 : Int32) (p5 : Int32) (post : Int32 → Prop) (h : wp_X4_is post n_o_kinds n_o_numbers f_o_kinds f_o_numbers p1 p2 p3 p4 p5) : Met l yX4_is wsX4_is ({ frames := 1, cells := 0, slots := 0, locals := 23 }) (va_Pc [.ref a_o, .int p1, .int p2, .int p3, .int p4, .int p5] (fx_PP X [(a_o, .inr (3, [.ref a_o_kinds, .ref a_o_numbers, .int s_o_count])), (a_o_kinds, .inl (fx_cI X, n_o_kinds, .inl f_o_kinds)), (a_o_numbers, .inl (fx_cI X, n_o_numbers, .inl f_o_numbers))])) (vp_Si post) 0 0 (fun _ => False) := by
  refine Met.ofW (cc := cX4_is) (maxL := 6) (ret := (some .boolean)) (by decide) rfl ?_
  intro p e s m args below meth c s₁ B hml hv
  obtain ⟨rfl, hP, hK, hG⟩ := hv
  have hx := B.exec
  have hb := B.bytes
  have hr := B.returns
  have hts := atoms_spec (ws := wsX4_is) B.pre
  have hown : s.vm.findClass RX4 = some m.cls := findClass_of_methodNamed B.named
  have hlocks := B.notSynchronized
  have hS : va_S (fun _ => False) s.heap s.heap [] := va_S.rf
  have hl := lv_entry ([.ref a_o, .int p1, .int p2, .int p3, .int p4, .int p5]) (n := 6) (Nat.le_of_ble_eq_true rfl)
  rw [lg_entry_eq]
  generalize (lg_sl ([.ref a_o, .int p1, .int p2, .int p3, .int p4, .int p5]) ++ List.replicate (6 - (lg_sl ([.ref a_o, .int p1, .int p2, .int p3, .int p4, .int p5])).length) Slot.unset).toArray = ls at hl ⊢
  have hl : lv_has ls 6 [(0, .ref a_o), (1, .int p1), (2, .int p2), (3, .int p3), (4, .int p4), (5, .int p5)] := hl
  unfold wp_X4_is at h
  refine lv_aload_n hx hb dX4_is_0 rfl (lv_at hl 0 rfl) ?_
  refine lv_iload_n hx hb dX4_is_1 rfl (lv_at hl 1 rfl) ?_
  refine vp_callSi (W.runV (As := [.int p1]) (rest := []) ⟨hx, hb, hml, hown, hts⟩ (cw_X4_kind l X a_o a_o_kinds a_o_numbers n_o_kinds s_o_count f_o_kinds p1 _ h) (cwV 1 hts gX4_is_X4_kind rfl rfl rfl (by decide +kernel) ⟨Nat.le_of_ble_eq_true rfl, Nat.le_of_ble_eq_true rfl⟩) (fx_pv hP hK hG hS (va_recv hK hP (ci := 3) (q0 := 0) rfl rfl) [0, 1] rfl) rfl rfl hl.1 rfl (lv_room (Nat.le_of_ble_eq_true rfl)) dX4_is_2 ⟨Nat.le_of_ble_eq_true rfl, Nat.le_of_ble_eq_true rfl⟩) (fun r1 h => ?_)
  refine lv_iload_n hx hb dX4_is_5 rfl (lv_at hl 2 rfl) ?_
  refine fx_icmp_ne (tgt := 45) hx hb h dX4_is_6 (by decide) (fun h => ?_) (fun h => ?_)
  · refine lv_iconst (v := (nI 0)) hx hb dX4_is_45 (by decide) ?_
    exact W.zret (v := (nI 0)) hx hb hr rfl (fun t ht hW => ⟨_, rfl, h, ht⟩) (fun q hq => by cases hq) dX4_is_46
  refine lv_aload_n hx hb dX4_is_9 rfl (lv_at hl 0 rfl) ?_
  refine lv_iload_n hx hb dX4_is_10 rfl (lv_at hl 1 rfl) ?_
  refine lv_iconst (v := (nI 1)) hx hb dX4_is_11 (by decide) ?_
  refine vp_callSi (W.runV (As := [.int p1, .int (nI 1)]) (rest := []) ⟨hx, hb, hml, hown, hts⟩ (cw_X4_number l X a_o a_o_kinds a_o_numbers n_o_kinds n_o_numbers s_o_count f_o_kinds f_o_numbers p1 (nI 1) _ h) (cwV 2 hts gX4_is_X4_number rfl rfl rfl (by decide +kernel) ⟨Nat.le_of_ble_eq_true rfl, Nat.le_of_ble_eq_true rfl⟩) (fx_pv hP hK hG hS (va_recv hK hP (ci := 3) (q0 := 0) rfl rfl) [0, 1, 2] rfl) rfl rfl hl.1 rfl (lv_room (Nat.le_of_ble_eq_true rfl)) dX4_is_12 ⟨Nat.le_of_ble_eq_true rfl, Nat.le_of_ble_eq_true rfl⟩) (fun r2 h => ?_)
  refine lv_iload_n hx hb dX4_is_15 rfl (lv_at hl 3 rfl) ?_
  refine fx_icmp_ne (tgt := 45) hx hb h dX4_is_16 (by decide) (fun h => ?_) (fun h => ?_)
  · refine lv_iconst (v := (nI 0)) hx hb dX4_is_45 (by decide) ?_
    exact W.zret (v := (nI 0)) hx hb hr rfl (fun t ht hW => ⟨_, rfl, h, ht⟩) (fun q hq => by cases hq) dX4_is_46
  refine lv_aload_n hx hb dX4_is_19 rfl (lv_at hl 0 rfl) ?_
  refine lv_iload_n hx hb dX4_is_20 rfl (lv_at hl 1 rfl) ?_
  refine lv_iconst (v := (nI 2)) hx hb dX4_is_21 (by decide) ?_
  refine vp_callSi (W.runV (As := [.int p1, .int (nI 2)]) (rest := []) ⟨hx, hb, hml, hown, hts⟩ (cw_X4_number l X a_o a_o_kinds a_o_numbers n_o_kinds n_o_numbers s_o_count f_o_kinds f_o_numbers p1 (nI 2) _ h) (cwV 2 hts gX4_is_X4_number rfl rfl rfl (by decide +kernel) ⟨Nat.le_of_ble_eq_true rfl, Nat.le_of_ble_eq_true rfl⟩) (fx_pv hP hK hG hS (va_recv hK hP (ci := 3) (q0 := 0) rfl rfl) [0, 1, 2] rfl) rfl rfl hl.1 rfl (lv_room (Nat.le_of_ble_eq_true rfl)) dX4_is_22 ⟨Nat.le_of_ble_eq_true rfl, Nat.le_of_ble_eq_true rfl⟩) (fun r3 h => ?_)
  refine lv_iload hx hb dX4_is_25 (lv_at hl 4 rfl) ?_
  refine fx_icmp_ne (tgt := 45) hx hb h dX4_is_27 (by decide) (fun h => ?_) (fun h => ?_)
  · refine lv_iconst (v := (nI 0)) hx hb dX4_is_45 (by decide) ?_
    exact W.zret (v := (nI 0)) hx hb hr rfl (fun t ht hW => ⟨_, rfl, h, ht⟩) (fun q hq => by cases hq) dX4_is_46
  refine lv_aload_n hx hb dX4_is_30 rfl (lv_at hl 0 rfl) ?_
  refine lv_iload_n hx hb dX4_is_31 rfl (lv_at hl 1 rfl) ?_
  refine lv_iconst (v := (nI 3)) hx hb dX4_is_32 (by decide) ?_
  refine vp_callSi (W.runV (As := [.int p1, .int (nI 3)]) (rest := []) ⟨hx, hb, hml, hown, hts⟩ (cw_X4_number l X a_o a_o_kinds a_o_numbers n_o_kinds n_o_numbers s_o_count f_o_kinds f_o_numbers p1 (nI 3) _ h) (cwV 2 hts gX4_is_X4_number rfl rfl rfl (by decide +kernel) ⟨Nat.le_of_ble_eq_true rfl, Nat.le_of_ble_eq_true rfl⟩) (fx_pv hP hK hG hS (va_recv hK hP (ci := 3) (q0 := 0) rfl rfl) [0, 1, 2] rfl) rfl rfl hl.1 rfl (lv_room (Nat.le_of_ble_eq_true rfl)) dX4_is_33 ⟨Nat.le_of_ble_eq_true rfl, Nat.le_of_ble_eq_true rfl⟩) (fun r4 h => ?_)
  refine lv_iload hx hb dX4_is_36 (lv_at hl 5 rfl) ?_
  refine fx_icmp_ne (tgt := 45) hx hb h dX4_is_38 (by decide) (fun h => ?_) (fun h => ?_)
  · refine lv_iconst (v := (nI 0)) hx hb dX4_is_45 (by decide) ?_
    exact W.zret (v := (nI 0)) hx hb hr rfl (fun t ht hW => ⟨_, rfl, h, ht⟩) (fun q hq => by cases hq) dX4_is_46
  refine lv_iconst (v := (nI 1)) hx hb dX4_is_41 (by decide) ?_
  refine lv_goto (tgt := 46) hx hb dX4_is_42 (by decide) ?_
  exact W.zret (v := (nI 1)) hx hb hr rfl (fun t ht hW => ⟨_, rfl, h, ht⟩) (fun q hq => by cases hq) dX4_is_46

/-- X4_find: its walk -/
def wp_X4_find (post : Int32 → Prop) (n_o_kinds : Nat) (n_o_numbers : Nat) (s_o_count : Int32) (f_o_kinds : Nat → Int32) (f_o_numbers : Nat → Int32) (p1 : Int32) (p2 : Int32) (p3 : Int32) (p4 : Int32) : Prop :=
  fx_wh1 (fun (rec2 : Int32 → Prop) (x1 : Int32) => fx_br (s_o_count < x1) (post (nI 0)) (wp_X4_is (fun r3 => fx_br (r3 = 0) (fx_nm (x1 + (nI 1)) (fun v4 => rec2 v4)) (post x1)) n_o_kinds n_o_numbers f_o_kinds f_o_numbers x1 p1 p2 p3 p4)) (nI 1)
theorem im_X4_find_X4 : ∀ w ∈ u_ws RX4 TX4 3, w ∈ wsX4_find := by decide +kernel
set_option maxHeartbeats 4000000 in
set_option maxRecDepth 100000 in
theorem cw_X4_find (l : Launch) (X : fx_X) (a_o : Nat) (a_o_kinds : Nat) (a_o_numbers : Nat) (n_o_kinds : Nat) (n_o_numbers : Nat) (s_o_count : Int32) (f_o_kinds : Nat → Int32) (f_o_numbers : Nat → Int32) (p1 : Int32) (p2 : Int32) (p3 : Int32) (p4 : Int32) (post : Int32 → Prop) (h : wp_X4_find post n_o_kinds n_o_numbers s_o_count f_o_kinds f_o_numbers p1 p2 p3 p4) : Met l yX4_find wsX4_find ({ frames := 2, cells := 0, slots := 0, locals := 48 }) (va_Pc [.ref a_o, .int p1, .int p2, .int p3, .int p4] (fx_PP X [(a_o, .inr (3, [.ref a_o_kinds, .ref a_o_numbers, .int s_o_count])), (a_o_kinds, .inl (fx_cI X, n_o_kinds, .inl f_o_kinds)), (a_o_numbers, .inl (fx_cI X, n_o_numbers, .inl f_o_numbers))])) (vp_Si post) 0 0 (fun _ => False) := by
  refine Met.ofW (cc := cX4_find) (maxL := 6) (ret := (some .int)) (by decide) rfl ?_
  intro p e s m args below meth c s₁ B hml hv
  obtain ⟨rfl, hP, hK, hG⟩ := hv
  have hx := B.exec
  have hb := B.bytes
  have hr := B.returns
  have hts := atoms_spec (ws := wsX4_find) B.pre
  have hown : s.vm.findClass RX4 = some m.cls := findClass_of_methodNamed B.named
  have hlocks := B.notSynchronized
  have hS : va_S (fun _ => False) s.heap s.heap [] := va_S.rf
  have k24 := hts (.fieldLink RX4 24 "ProofChecker$Statements" "count" "I") (by decide +kernel)
  have hl := lv_entry ([.ref a_o, .int p1, .int p2, .int p3, .int p4]) (n := 6) (Nat.le_of_ble_eq_true rfl)
  rw [lg_entry_eq]
  generalize (lg_sl ([.ref a_o, .int p1, .int p2, .int p3, .int p4]) ++ List.replicate (6 - (lg_sl ([.ref a_o, .int p1, .int p2, .int p3, .int p4])).length) Slot.unset).toArray = ls at hl ⊢
  have hl : lv_has ls 6 [(0, .ref a_o), (1, .int p1), (2, .int p2), (3, .int p3), (4, .int p4)] := hl
  unfold wp_X4_find at h
  refine lv_iconst (v := (nI 1)) hx hb dX4_find_0 (by decide) ?_
  refine lv_istore (lv' := [(5, .int (nI 1)), (0, .ref a_o), (1, .int p1), (2, .int p2), (3, .int p3), (4, .int p4)]) hx hb dX4_find_1 hl (by decide) rfl (fun ls hl => ?_)
  refine fx_loop1 (G := fun (x1 : Int32) => ∀ (ls : Array Slot), lv_has ls 6 [(5, .int x1), (0, .ref a_o), (1, .int p1), (2, .int p2), (3, .int p3), (4, .int p4)] → W p l e _ s m _ below meth c s.heap [] _ _ _ (F0 m 3 ls [])) (fun rec2 hrec2 x1 h => ?_) h _ (lv_sub hl [0, 1, 2, 3, 4, 5] rfl)
  intro ls hl
  refine lv_iload hx hb dX4_find_3 (lv_at hl 0 rfl) ?_
  refine lv_aload_n hx hb dX4_find_5 rfl (lv_at hl 1 rfl) ?_
  refine va_get (D := fx_D X) (ci := 3) (v := .int s_o_count) (C := RX4) (T := TX4) (N := 3) hx hb hts im_X4_find_X4 hown hK hP 0 rfl rfl 2 (by decide) k24 (fun _ h9 => h9) rfl dX4_find_6 ?_
  refine fx_icmp_gt (tgt := 35) hx hb h dX4_find_9 (by decide) (fun h => ?_) (fun h => ?_)
  · refine lv_iconst (v := (nI 0)) hx hb dX4_find_35 (by decide) ?_
    exact W.iret (v := (nI 0)) hx hb hr  (fun t ht hW => ⟨_, rfl, h, ht⟩) (fun q hq => by cases hq) dX4_find_36
  refine lv_aload_n hx hb dX4_find_12 rfl (lv_at hl 1 rfl) ?_
  refine lv_iload hx hb dX4_find_13 (lv_at hl 0 rfl) ?_
  refine lv_iload_n hx hb dX4_find_15 rfl (lv_at hl 2 rfl) ?_
  refine lv_iload_n hx hb dX4_find_16 rfl (lv_at hl 3 rfl) ?_
  refine lv_iload_n hx hb dX4_find_17 rfl (lv_at hl 4 rfl) ?_
  refine lv_iload hx hb dX4_find_18 (lv_at hl 5 rfl) ?_
  refine vp_callSi (W.runV (As := [.int x1, .int p1, .int p2, .int p3, .int p4]) (rest := []) ⟨hx, hb, hml, hown, hts⟩ (cw_X4_is l X a_o a_o_kinds a_o_numbers n_o_kinds n_o_numbers s_o_count f_o_kinds f_o_numbers x1 p1 p2 p3 p4 _ h) (cwV 5 hts gX4_find_X4_is rfl rfl rfl (by decide +kernel) ⟨Nat.le_of_ble_eq_true rfl, Nat.le_of_ble_eq_true rfl⟩) (fx_pv hP hK hG hS (va_recv hK hP (ci := 3) (q0 := 0) rfl rfl) [0, 1, 2] rfl) rfl rfl hl.1 rfl (lv_room (Nat.le_of_ble_eq_true rfl)) dX4_find_20 ⟨Nat.le_of_ble_eq_true rfl, Nat.le_of_ble_eq_true rfl⟩) (fun r3 h => ?_)
  refine fx_if_eq (tgt := 29) hx hb h dX4_find_23 (by decide) (fun h => ?_) (fun h => ?_)
  · refine fx_iinc (y := (nI 1)) hx hb h dX4_find_29 (by decide) (fun v4 => [(5, .int v4), (0, .ref a_o), (1, .int p1), (2, .int p2), (3, .int p3), (4, .int p4)]) hl 0 rfl (by decide) (fun _ => rfl) (fun v4 ls h hl => ?_)
    refine lv_goto (tgt := 3) hx hb dX4_find_32 (by decide) ?_
    exact hrec2 _ h _ (lv_sub hl [0, 1, 2, 3, 4, 5] rfl)
  refine lv_iload hx hb dX4_find_26 (lv_at hl 0 rfl) ?_
  exact W.iret (v := x1) hx hb hr  (fun t ht hW => ⟨_, rfl, h, ht⟩) (fun q hq => by cases hq) dX4_find_28

/-- X4_put_: its walk -/
def wp_X4_put_ (post : (Nat → Int32) → (Nat → Int32) → Prop) (n_o_kinds : Nat) (n_o_numbers : Nat) (f_o_kinds : Nat → Int32) (f_o_numbers : Nat → Int32) (p1 : Int32) (p2 : Int32) (p3 : Int32) (p4 : Int32) (p5 : Int32) : Prop :=
  fx_br (p1 < (nI 1)) (post f_o_kinds f_o_numbers) (fx_br ((nI n_o_kinds) ≤ p1) (post f_o_kinds f_o_numbers) (fx_ix p1 n_o_kinds (fun k13 => fx_nm (upd f_o_kinds k13 p2) (fun g1 => fx_nm (p1 * (nI 3)) (fun v2 => fx_ix v2 n_o_numbers (fun k12 => fx_nm (upd f_o_numbers k12 p3) (fun g3 => fx_nm (p1 * (nI 3)) (fun v4 => fx_nm (v4 + (nI 1)) (fun v5 => fx_ix v5 n_o_numbers (fun k11 => fx_nm (upd g3 k11 p4) (fun g6 => fx_nm (p1 * (nI 3)) (fun v7 => fx_nm (v7 + (nI 2)) (fun v8 => fx_ix v8 n_o_numbers (fun k10 => fx_nm (upd g6 k10 p5) (fun g9 => post g1 g9)))))))))))))))
theorem im_X4_put__X4 : ∀ w ∈ u_ws RX4 TX4 3, w ∈ wsX4_put_ := by decide +kernel
set_option maxHeartbeats 4000000 in
set_option maxRecDepth 100000 in
theorem cw_X4_put_ (l : Launch) (X : fx_X) (a_o : Nat) (a_o_kinds : Nat) (a_o_numbers : Nat) (n_o_kinds : Nat) (n_o_numbers : Nat) (s_o_count : Int32) (f_o_kinds : Nat → Int32) (f_o_numbers : Nat → Int32) (sz : Nat) (p1 : Int32) (p2 : Int32) (p3 : Int32) (p4 : Int32) (p5 : Int32) (post : (Nat → Int32) → (Nat → Int32) → Prop) (h : wp_X4_put_ post n_o_kinds n_o_numbers f_o_kinds f_o_numbers p1 p2 p3 p4 p5) : Met l yX4_put_ wsX4_put_ ({ frames := 0, cells := 0, slots := 0, locals := 0 }) (va_Pc [.ref a_o, .int p1, .int p2, .int p3, .int p4, .int p5] (fx_PW X [(a_o, .inr (3, [.ref a_o_kinds, .ref a_o_numbers, .int s_o_count])), (a_o_kinds, .inl (fx_cI X, n_o_kinds, .inl f_o_kinds)), (a_o_numbers, .inl (fx_cI X, n_o_numbers, .inl f_o_numbers))] sz)) (va_Qv (fun (u : (Nat → Int32) × (Nat → Int32)) => post u.1 u.2) (fun (u : (Nat → Int32) × (Nat → Int32)) t => fx_EW X (va_A [(a_o, .inr (3, [.ref a_o_kinds, .ref a_o_numbers, .int s_o_count])), (a_o_kinds, .inl (fx_cI X, n_o_kinds, .inl f_o_kinds)), (a_o_numbers, .inl (fx_cI X, n_o_numbers, .inl f_o_numbers))] sz) [(a_o, .inr (3, [.ref a_o_kinds, .ref a_o_numbers, .int s_o_count])), (a_o_kinds, .inl (fx_cI X, n_o_kinds, .inl u.1)), (a_o_numbers, .inl (fx_cI X, n_o_numbers, .inl u.2))] t) (va_A [(a_o, .inr (3, [.ref a_o_kinds, .ref a_o_numbers, .int s_o_count])), (a_o_kinds, .inl (fx_cI X, n_o_kinds, .inl f_o_kinds)), (a_o_numbers, .inl (fx_cI X, n_o_numbers, .inl f_o_numbers))] sz)) 0 0 (va_A [(a_o, .inr (3, [.ref a_o_kinds, .ref a_o_numbers, .int s_o_count])), (a_o_kinds, .inl (fx_cI X, n_o_kinds, .inl f_o_kinds)), (a_o_numbers, .inl (fx_cI X, n_o_numbers, .inl f_o_numbers))] sz) := by
  refine Met.ofW (cc := cX4_put_) (maxL := 6) (ret := none) (by decide) rfl ?_
  intro p e s m args below meth c s₁ B hml hv
  obtain ⟨rfl, hsz, hP, hK, hD0, hG⟩ := hv
  have hx := B.exec
  have hb := B.bytes
  have hr := B.returns
  have hts := atoms_spec (ws := wsX4_put_) B.pre
  have hown : s.vm.findClass RX4 = some m.cls := findClass_of_methodNamed B.named
  have hlocks := B.notSynchronized
  subst hsz
  have hD := hD0.self (sz := s.heap.size)
  generalize hAe : va_A [(a_o, .inr (3, [.ref a_o_kinds, .ref a_o_numbers, .int s_o_count])), (a_o_kinds, .inl (fx_cI X, n_o_kinds, .inl f_o_kinds)), (a_o_numbers, .inl (fx_cI X, n_o_numbers, .inl f_o_numbers))] s.heap.size = A at hD hG ⊢
  have hA : ∀ q : Nat, s.heap.size ≤ q → A q := fun q h => by rw [← hAe]; exact Or.inr h
  have hS : va_S A s.heap s.heap [] := va_S.rf
  have k21 := hts (.fieldLink RX4 21 "ProofChecker$Statements" "numbers" "[I") (by decide +kernel)
  have k15 := hts (.fieldLink RX4 15 "ProofChecker$Statements" "kinds" "[I") (by decide +kernel)
  have hl := lv_entry ([.ref a_o, .int p1, .int p2, .int p3, .int p4, .int p5]) (n := 6) (Nat.le_of_ble_eq_true rfl)
  rw [lg_entry_eq]
  generalize (lg_sl ([.ref a_o, .int p1, .int p2, .int p3, .int p4, .int p5]) ++ List.replicate (6 - (lg_sl ([.ref a_o, .int p1, .int p2, .int p3, .int p4, .int p5])).length) Slot.unset).toArray = ls at hl ⊢
  have hl : lv_has ls 6 [(0, .ref a_o), (1, .int p1), (2, .int p2), (3, .int p3), (4, .int p4), (5, .int p5)] := hl
  unfold wp_X4_put_ at h
  refine lv_iload_n hx hb dX4_put__0 rfl (lv_at hl 1 rfl) ?_
  refine lv_iconst (v := (nI 1)) hx hb dX4_put__1 (by decide) ?_
  refine fx_icmp_lt (tgt := 54) hx hb h dX4_put__2 (by decide) (fun h => ?_) (fun h => ?_)
  · exact W.vret hx hb hr (fun t ht hW => ⟨⟨(f_o_kinds, f_o_numbers), rfl, h, by rw [ht]; exact hP, va_K.moved hW.alike hK, hD⟩, hS.F ht⟩) hS.2.2 dX4_put__54
  refine lv_iload_n hx hb dX4_put__5 rfl (lv_at hl 1 rfl) ?_
  refine lv_aload_n hx hb dX4_put__6 rfl (lv_at hl 0 rfl) ?_
  refine va_get (D := fx_D X) (ci := 3) (v := .ref a_o_kinds) (C := RX4) (T := TX4) (N := 3) hx hb hts im_X4_put__X4 hown hK hP 0 rfl rfl 0 (by decide) k15 (fun _ h9 => h9) rfl dX4_put__7 ?_
  refine va_alen (v := nI n_o_kinds) hx hb hK hP 1 0 rfl rfl rfl dX4_put__10 ?_
  refine fx_icmp_ge (tgt := 54) hx hb h dX4_put__11 (by decide) (fun h => ?_) (fun h => ?_)
  · exact W.vret hx hb hr (fun t ht hW => ⟨⟨(f_o_kinds, f_o_numbers), rfl, h, by rw [ht]; exact hP, va_K.moved hW.alike hK, hD⟩, hS.F ht⟩) hS.2.2 dX4_put__54
  refine lv_aload_n hx hb dX4_put__14 rfl (lv_at hl 0 rfl) ?_
  refine va_get (D := fx_D X) (ci := 3) (v := .ref a_o_kinds) (C := RX4) (T := TX4) (N := 3) hx hb hts im_X4_put__X4 hown hK hP 0 rfl rfl 0 (by decide) k15 (fun _ h9 => h9) rfl dX4_put__15 ?_
  refine lv_iload_n hx hb dX4_put__18 rfl (lv_at hl 1 rfl) ?_
  refine lv_iload_n hx hb dX4_put__19 rfl (lv_at hl 2 rfl) ?_
  refine fx_iast hx hb hK hP hD hS 1 0 rfl rfl h dX4_put__20 (fun g1 => [(a_o, .inr (3, [.ref a_o_kinds, .ref a_o_numbers, .int s_o_count])), (a_o_kinds, .inl (fx_cI X, n_o_kinds, .inl g1)), (a_o_numbers, .inl (fx_cI X, n_o_numbers, .inl f_o_numbers))]) (fun _ => rfl) (fun H locs g1 h hP hD hS => ?_)
  refine lv_aload_n hx hb dX4_put__21 rfl (lv_at hl 0 rfl) ?_
  refine va_get (D := fx_D X) (ci := 3) (v := .ref a_o_numbers) (C := RX4) (T := TX4) (N := 3) hx hb hts im_X4_put__X4 hown hK hP 0 rfl rfl 1 (by decide) k21 (fun _ h9 => h9) rfl dX4_put__22 ?_
  refine lv_iload_n hx hb dX4_put__25 rfl (lv_at hl 1 rfl) ?_
  refine lv_iconst (v := (nI 3)) hx hb dX4_put__26 (by decide) ?_
  refine fx_imul hx hb h dX4_put__27 (fun v2 h => ?_)
  refine lv_iload_n hx hb dX4_put__28 rfl (lv_at hl 3 rfl) ?_
  refine fx_iast hx hb hK hP hD hS 2 0 rfl rfl h dX4_put__29 (fun g3 => [(a_o, .inr (3, [.ref a_o_kinds, .ref a_o_numbers, .int s_o_count])), (a_o_kinds, .inl (fx_cI X, n_o_kinds, .inl g1)), (a_o_numbers, .inl (fx_cI X, n_o_numbers, .inl g3))]) (fun _ => rfl) (fun H locs g3 h hP hD hS => ?_)
  refine lv_aload_n hx hb dX4_put__30 rfl (lv_at hl 0 rfl) ?_
  refine va_get (D := fx_D X) (ci := 3) (v := .ref a_o_numbers) (C := RX4) (T := TX4) (N := 3) hx hb hts im_X4_put__X4 hown hK hP 0 rfl rfl 1 (by decide) k21 (fun _ h9 => h9) rfl dX4_put__31 ?_
  refine lv_iload_n hx hb dX4_put__34 rfl (lv_at hl 1 rfl) ?_
  refine lv_iconst (v := (nI 3)) hx hb dX4_put__35 (by decide) ?_
  refine fx_imul hx hb h dX4_put__36 (fun v4 h => ?_)
  refine lv_iconst (v := (nI 1)) hx hb dX4_put__37 (by decide) ?_
  refine fx_iadd hx hb h dX4_put__38 (fun v5 h => ?_)
  refine lv_iload hx hb dX4_put__39 (lv_at hl 4 rfl) ?_
  refine fx_iast hx hb hK hP hD hS 2 0 rfl rfl h dX4_put__41 (fun g6 => [(a_o, .inr (3, [.ref a_o_kinds, .ref a_o_numbers, .int s_o_count])), (a_o_kinds, .inl (fx_cI X, n_o_kinds, .inl g1)), (a_o_numbers, .inl (fx_cI X, n_o_numbers, .inl g6))]) (fun _ => rfl) (fun H locs g6 h hP hD hS => ?_)
  refine lv_aload_n hx hb dX4_put__42 rfl (lv_at hl 0 rfl) ?_
  refine va_get (D := fx_D X) (ci := 3) (v := .ref a_o_numbers) (C := RX4) (T := TX4) (N := 3) hx hb hts im_X4_put__X4 hown hK hP 0 rfl rfl 1 (by decide) k21 (fun _ h9 => h9) rfl dX4_put__43 ?_
  refine lv_iload_n hx hb dX4_put__46 rfl (lv_at hl 1 rfl) ?_
  refine lv_iconst (v := (nI 3)) hx hb dX4_put__47 (by decide) ?_
  refine fx_imul hx hb h dX4_put__48 (fun v7 h => ?_)
  refine lv_iconst (v := (nI 2)) hx hb dX4_put__49 (by decide) ?_
  refine fx_iadd hx hb h dX4_put__50 (fun v8 h => ?_)
  refine lv_iload hx hb dX4_put__51 (lv_at hl 5 rfl) ?_
  refine fx_iast hx hb hK hP hD hS 2 0 rfl rfl h dX4_put__53 (fun g9 => [(a_o, .inr (3, [.ref a_o_kinds, .ref a_o_numbers, .int s_o_count])), (a_o_kinds, .inl (fx_cI X, n_o_kinds, .inl g1)), (a_o_numbers, .inl (fx_cI X, n_o_numbers, .inl g9))]) (fun _ => rfl) (fun H locs g9 h hP hD hS => ?_)
  exact W.vret hx hb hr (fun t ht hW => ⟨⟨(g1, g9), rfl, h, by rw [ht]; exact hP, va_K.moved hW.alike hK, hD⟩, hS.F ht⟩) hS.2.2 dX4_put__54

/-- X4_clear: its walk -/
def wp_X4_clear (post : (Nat → Int32) → (Nat → Int32) → Prop) (n_o_kinds : Nat) (n_o_numbers : Nat) (f_o_kinds : Nat → Int32) (f_o_numbers : Nat → Int32) (p1 : Int32) : Prop :=
  wp_X4_put_ (fun y1 y2 => post y1 y2) n_o_kinds n_o_numbers f_o_kinds f_o_numbers p1 (nI 0) (nI 0) (nI 0) (nI 0)
set_option maxHeartbeats 4000000 in
set_option maxRecDepth 100000 in
theorem cw_X4_clear (l : Launch) (X : fx_X) (a_o : Nat) (a_o_kinds : Nat) (a_o_numbers : Nat) (n_o_kinds : Nat) (n_o_numbers : Nat) (s_o_count : Int32) (f_o_kinds : Nat → Int32) (f_o_numbers : Nat → Int32) (sz : Nat) (p1 : Int32) (post : (Nat → Int32) → (Nat → Int32) → Prop) (h : wp_X4_clear post n_o_kinds n_o_numbers f_o_kinds f_o_numbers p1) : Met l yX4_clear wsX4_clear ({ frames := 1, cells := 0, slots := 0, locals := 25 }) (va_Pc [.ref a_o, .int p1] (fx_PW X [(a_o, .inr (3, [.ref a_o_kinds, .ref a_o_numbers, .int s_o_count])), (a_o_kinds, .inl (fx_cI X, n_o_kinds, .inl f_o_kinds)), (a_o_numbers, .inl (fx_cI X, n_o_numbers, .inl f_o_numbers))] sz)) (va_Qv (fun (u : (Nat → Int32) × (Nat → Int32)) => post u.1 u.2) (fun (u : (Nat → Int32) × (Nat → Int32)) t => fx_EW X (va_A [(a_o, .inr (3, [.ref a_o_kinds, .ref a_o_numbers, .int s_o_count])), (a_o_kinds, .inl (fx_cI X, n_o_kinds, .inl f_o_kinds)), (a_o_numbers, .inl (fx_cI X, n_o_numbers, .inl f_o_numbers))] sz) [(a_o, .inr (3, [.ref a_o_kinds, .ref a_o_numbers, .int s_o_count])), (a_o_kinds, .inl (fx_cI X, n_o_kinds, .inl u.1)), (a_o_numbers, .inl (fx_cI X, n_o_numbers, .inl u.2))] t) (va_A [(a_o, .inr (3, [.ref a_o_kinds, .ref a_o_numbers, .int s_o_count])), (a_o_kinds, .inl (fx_cI X, n_o_kinds, .inl f_o_kinds)), (a_o_numbers, .inl (fx_cI X, n_o_numbers, .inl f_o_numbers))] sz)) 0 0 (va_A [(a_o, .inr (3, [.ref a_o_kinds, .ref a_o_numbers, .int s_o_count])), (a_o_kinds, .inl (fx_cI X, n_o_kinds, .inl f_o_kinds)), (a_o_numbers, .inl (fx_cI X, n_o_numbers, .inl f_o_numbers))] sz) := by
  refine Met.ofW (cc := cX4_clear) (maxL := 2) (ret := none) (by decide) rfl ?_
  intro p e s m args below meth c s₁ B hml hv
  obtain ⟨rfl, hsz, hP, hK, hD0, hG⟩ := hv
  have hx := B.exec
  have hb := B.bytes
  have hr := B.returns
  have hts := atoms_spec (ws := wsX4_clear) B.pre
  have hown : s.vm.findClass RX4 = some m.cls := findClass_of_methodNamed B.named
  have hlocks := B.notSynchronized
  subst hsz
  have hD := hD0.self (sz := s.heap.size)
  generalize hAe : va_A [(a_o, .inr (3, [.ref a_o_kinds, .ref a_o_numbers, .int s_o_count])), (a_o_kinds, .inl (fx_cI X, n_o_kinds, .inl f_o_kinds)), (a_o_numbers, .inl (fx_cI X, n_o_numbers, .inl f_o_numbers))] s.heap.size = A at hD hG ⊢
  have hA : ∀ q : Nat, s.heap.size ≤ q → A q := fun q h => by rw [← hAe]; exact Or.inr h
  have hS : va_S A s.heap s.heap [] := va_S.rf
  have hl := lv_entry ([.ref a_o, .int p1]) (n := 2) (Nat.le_of_ble_eq_true rfl)
  rw [lg_entry_eq]
  generalize (lg_sl ([.ref a_o, .int p1]) ++ List.replicate (2 - (lg_sl ([.ref a_o, .int p1])).length) Slot.unset).toArray = ls at hl ⊢
  have hl : lv_has ls 2 [(0, .ref a_o), (1, .int p1)] := hl
  unfold wp_X4_clear at h
  refine lv_aload_n hx hb dX4_clear_0 rfl (lv_at hl 0 rfl) ?_
  refine lv_iload_n hx hb dX4_clear_1 rfl (lv_at hl 1 rfl) ?_
  refine lv_iconst (v := (nI 0)) hx hb dX4_clear_2 (by decide) ?_
  refine lv_iconst (v := (nI 0)) hx hb dX4_clear_3 (by decide) ?_
  refine lv_iconst (v := (nI 0)) hx hb dX4_clear_4 (by decide) ?_
  refine lv_iconst (v := (nI 0)) hx hb dX4_clear_5 (by decide) ?_
  have hFc := va_free (wc := [(a_o, .inr (3, [.ref a_o_kinds, .ref a_o_numbers, .int s_o_count])), (a_o_kinds, .inl (fx_cI X, n_o_kinds, .inl f_o_kinds)), (a_o_numbers, .inl (fx_cI X, n_o_numbers, .inl f_o_numbers))]) hD hS hA [0, 1, 2] rfl
  refine va_callv (va_runV (As := [.int p1, .int (nI 0), .int (nI 0), .int (nI 0), .int (nI 0)]) (rest := []) ⟨hx, hb, hml, hown, hts⟩ (cw_X4_put_ l X a_o a_o_kinds a_o_numbers n_o_kinds n_o_numbers s_o_count f_o_kinds f_o_numbers _ p1 (nI 0) (nI 0) (nI 0) (nI 0) _ h) (cwV 5 hts gX4_clear_X4_put_ rfl rfl rfl (by decide +kernel) ⟨Nat.le_of_ble_eq_true rfl, Nat.le_of_ble_eq_true rfl⟩) (fx_pvW hP hD hK hG hS hFc (va_recv hK hP (ci := 3) (q0 := 0) rfl rfl) [0, 1, 2] (by decide) rfl) rfl rfl hl.1 rfl (lv_room (Nat.le_of_ble_eq_true rfl)) dX4_clear_6 ⟨Nat.le_of_ble_eq_true rfl, Nat.le_of_ble_eq_true rfl⟩) hS (fun q _ h => hFc q h) hFc (fun u t H locs ht hvm h hB _ hk hS => ?_)
  obtain ⟨y1, y2⟩ := u
  dsimp only at h
  obtain ⟨hP, hD⟩ := fx_back (wr := []) (ws' := [(a_o, .inr (3, [.ref a_o_kinds, .ref a_o_numbers, .int s_o_count])), (a_o_kinds, .inl (fx_cI X, n_o_kinds, .inl y1)), (a_o_numbers, .inl (fx_cI X, n_o_numbers, .inl y2))]) hP hD [0, 1, 2] [] rfl rfl (by decide) (by decide) hk hFc hB ht [0, 1, 2] (by decide) rfl
  exact W.vret hx hb hr (fun t ht hW => ⟨⟨(y1, y2), rfl, h, by rw [ht]; exact hP, va_K.moved hW.alike hK, hD⟩, hS.F ht⟩) hS.2.2 dX4_clear_9

/-- X4_add: its walk -/
def wp_X4_add (post : Int32 → Int32 → (Nat → Int32) → (Nat → Int32) → Prop) (n_o_kinds : Nat) (n_o_numbers : Nat) (s_o_count : Int32) (f_o_kinds : Nat → Int32) (f_o_numbers : Nat → Int32) (p1 : Int32) (p2 : Int32) (p3 : Int32) (p4 : Int32) : Prop :=
  fx_nm (s_o_count + (nI 1)) (fun v1 => fx_br (v1 < (nI n_o_kinds)) (fx_nm (s_o_count + (nI 1)) (fun v2 => wp_X4_put_ (fun y3 y4 => post v2 v2 y3 y4) n_o_kinds n_o_numbers f_o_kinds f_o_numbers v2 p1 p2 p3 p4)) (post (-4) s_o_count f_o_kinds f_o_numbers))
theorem im_X4_add_X4 : ∀ w ∈ u_ws RX4 TX4 3, w ∈ wsX4_add := by decide +kernel
set_option maxHeartbeats 4000000 in
set_option maxRecDepth 100000 in
theorem cw_X4_add (l : Launch) (X : fx_X) (a_o : Nat) (a_o_kinds : Nat) (a_o_numbers : Nat) (n_o_kinds : Nat) (n_o_numbers : Nat) (s_o_count : Int32) (f_o_kinds : Nat → Int32) (f_o_numbers : Nat → Int32) (sz : Nat) (p1 : Int32) (p2 : Int32) (p3 : Int32) (p4 : Int32) (post : Int32 → Int32 → (Nat → Int32) → (Nat → Int32) → Prop) (h : wp_X4_add post n_o_kinds n_o_numbers s_o_count f_o_kinds f_o_numbers p1 p2 p3 p4) : Met l yX4_add wsX4_add ({ frames := 1, cells := 0, slots := 0, locals := 25 }) (va_Pc [.ref a_o, .int p1, .int p2, .int p3, .int p4] (fx_PW X [(a_o, .inr (3, [.ref a_o_kinds, .ref a_o_numbers, .int s_o_count])), (a_o_kinds, .inl (fx_cI X, n_o_kinds, .inl f_o_kinds)), (a_o_numbers, .inl (fx_cI X, n_o_numbers, .inl f_o_numbers))] sz)) (va_Qi (fun r (u : Int32 × (Nat → Int32) × (Nat → Int32)) => post r u.1 u.2.1 u.2.2) (fun (u : Int32 × (Nat → Int32) × (Nat → Int32)) t => fx_EW X (va_A [(a_o, .inr (3, [.ref a_o_kinds, .ref a_o_numbers, .int s_o_count])), (a_o_kinds, .inl (fx_cI X, n_o_kinds, .inl f_o_kinds)), (a_o_numbers, .inl (fx_cI X, n_o_numbers, .inl f_o_numbers))] sz) [(a_o, .inr (3, [.ref a_o_kinds, .ref a_o_numbers, .int u.1])), (a_o_kinds, .inl (fx_cI X, n_o_kinds, .inl u.2.1)), (a_o_numbers, .inl (fx_cI X, n_o_numbers, .inl u.2.2))] t) (va_A [(a_o, .inr (3, [.ref a_o_kinds, .ref a_o_numbers, .int s_o_count])), (a_o_kinds, .inl (fx_cI X, n_o_kinds, .inl f_o_kinds)), (a_o_numbers, .inl (fx_cI X, n_o_numbers, .inl f_o_numbers))] sz)) 0 0 (va_A [(a_o, .inr (3, [.ref a_o_kinds, .ref a_o_numbers, .int s_o_count])), (a_o_kinds, .inl (fx_cI X, n_o_kinds, .inl f_o_kinds)), (a_o_numbers, .inl (fx_cI X, n_o_numbers, .inl f_o_numbers))] sz) := by
  refine Met.ofW (cc := cX4_add) (maxL := 5) (ret := (some .int)) (by decide) rfl ?_
  intro p e s m args below meth c s₁ B hml hv
  obtain ⟨rfl, hsz, hP, hK, hD0, hG⟩ := hv
  have hx := B.exec
  have hb := B.bytes
  have hr := B.returns
  have hts := atoms_spec (ws := wsX4_add) B.pre
  have hown : s.vm.findClass RX4 = some m.cls := findClass_of_methodNamed B.named
  have hlocks := B.notSynchronized
  subst hsz
  have hD := hD0.self (sz := s.heap.size)
  generalize hAe : va_A [(a_o, .inr (3, [.ref a_o_kinds, .ref a_o_numbers, .int s_o_count])), (a_o_kinds, .inl (fx_cI X, n_o_kinds, .inl f_o_kinds)), (a_o_numbers, .inl (fx_cI X, n_o_numbers, .inl f_o_numbers))] s.heap.size = A at hD hG ⊢
  have hA : ∀ q : Nat, s.heap.size ≤ q → A q := fun q h => by rw [← hAe]; exact Or.inr h
  have hS : va_S A s.heap s.heap [] := va_S.rf
  have k24 := hts (.fieldLink RX4 24 "ProofChecker$Statements" "count" "I") (by decide +kernel)
  have k15 := hts (.fieldLink RX4 15 "ProofChecker$Statements" "kinds" "[I") (by decide +kernel)
  have hl := lv_entry ([.ref a_o, .int p1, .int p2, .int p3, .int p4]) (n := 5) (Nat.le_of_ble_eq_true rfl)
  rw [lg_entry_eq]
  generalize (lg_sl ([.ref a_o, .int p1, .int p2, .int p3, .int p4]) ++ List.replicate (5 - (lg_sl ([.ref a_o, .int p1, .int p2, .int p3, .int p4])).length) Slot.unset).toArray = ls at hl ⊢
  have hl : lv_has ls 5 [(0, .ref a_o), (1, .int p1), (2, .int p2), (3, .int p3), (4, .int p4)] := hl
  unfold wp_X4_add at h
  refine lv_aload_n hx hb dX4_add_0 rfl (lv_at hl 0 rfl) ?_
  refine va_get (D := fx_D X) (ci := 3) (v := .int s_o_count) (C := RX4) (T := TX4) (N := 3) hx hb hts im_X4_add_X4 hown hK hP 0 rfl rfl 2 (by decide) k24 (fun _ h9 => h9) rfl dX4_add_1 ?_
  refine lv_iconst (v := (nI 1)) hx hb dX4_add_4 (by decide) ?_
  refine fx_iadd hx hb h dX4_add_5 (fun v1 h => ?_)
  refine lv_aload_n hx hb dX4_add_6 rfl (lv_at hl 0 rfl) ?_
  refine va_get (D := fx_D X) (ci := 3) (v := .ref a_o_kinds) (C := RX4) (T := TX4) (N := 3) hx hb hts im_X4_add_X4 hown hK hP 0 rfl rfl 0 (by decide) k15 (fun _ h9 => h9) rfl dX4_add_7 ?_
  refine va_alen (v := nI n_o_kinds) hx hb hK hP 1 0 rfl rfl rfl dX4_add_10 ?_
  refine fx_icmp_lt (tgt := 17) hx hb h dX4_add_11 (by decide) (fun h => ?_) (fun h => ?_)
  · refine lv_aload_n hx hb dX4_add_17 rfl (lv_at hl 0 rfl) ?_
    refine lv_dup hx hb dX4_add_18 rfl ?_
    refine va_get (D := fx_D X) (ci := 3) (v := .int s_o_count) (C := RX4) (T := TX4) (N := 3) hx hb hts im_X4_add_X4 hown hK hP 0 rfl rfl 2 (by decide) k24 (fun _ h9 => h9) rfl dX4_add_19 ?_
    refine lv_iconst (v := (nI 1)) hx hb dX4_add_22 (by decide) ?_
    refine fx_iadd hx hb h dX4_add_23 (fun v2 h => ?_)
    refine va_put (D := fx_D X) (ci := 3) (v := .int v2) (ty := .int) (C := RX4) (T := TX4) (N := 3) hx hb hts im_X4_add_X4 tyX4 tyX4_ok nmX4 hown hK hP hD hS 0 rfl rfl 2 (by decide) k24 (fun _ h9 => h9) rfl (by decide +kernel) rfl rfl (Nat.le_of_ble_eq_true rfl) dX4_add_24 (fun H locs hP hD hS => ?_)
    have hP : va_P (fx_D X) vwCl [(a_o, .inr (3, [.ref a_o_kinds, .ref a_o_numbers, .int v2])), (a_o_kinds, .inl (fx_cI X, n_o_kinds, .inl f_o_kinds)), (a_o_numbers, .inl (fx_cI X, n_o_numbers, .inl f_o_numbers))] H := hP
    have hD : va_D A [(a_o, .inr (3, [.ref a_o_kinds, .ref a_o_numbers, .int v2])), (a_o_kinds, .inl (fx_cI X, n_o_kinds, .inl f_o_kinds)), (a_o_numbers, .inl (fx_cI X, n_o_numbers, .inl f_o_numbers))] := hD
    refine lv_aload_n hx hb dX4_add_27 rfl (lv_at hl 0 rfl) ?_
    refine lv_aload_n hx hb dX4_add_28 rfl (lv_at hl 0 rfl) ?_
    refine va_get (D := fx_D X) (ci := 3) (v := .int v2) (C := RX4) (T := TX4) (N := 3) hx hb hts im_X4_add_X4 hown hK hP 0 rfl rfl 2 (by decide) k24 (fun _ h9 => h9) rfl dX4_add_29 ?_
    refine lv_iload_n hx hb dX4_add_32 rfl (lv_at hl 1 rfl) ?_
    refine lv_iload_n hx hb dX4_add_33 rfl (lv_at hl 2 rfl) ?_
    refine lv_iload_n hx hb dX4_add_34 rfl (lv_at hl 3 rfl) ?_
    refine lv_iload hx hb dX4_add_35 (lv_at hl 4 rfl) ?_
    have hFc := va_free (wc := [(a_o, .inr (3, [.ref a_o_kinds, .ref a_o_numbers, .int v2])), (a_o_kinds, .inl (fx_cI X, n_o_kinds, .inl f_o_kinds)), (a_o_numbers, .inl (fx_cI X, n_o_numbers, .inl f_o_numbers))]) hD hS hA [0, 1, 2] rfl
    refine va_callv (va_runV (As := [.int v2, .int p1, .int p2, .int p3, .int p4]) (rest := []) ⟨hx, hb, hml, hown, hts⟩ (cw_X4_put_ l X a_o a_o_kinds a_o_numbers n_o_kinds n_o_numbers v2 f_o_kinds f_o_numbers _ v2 p1 p2 p3 p4 _ h) (cwV 5 hts gX4_add_X4_put_ rfl rfl rfl (by decide +kernel) ⟨Nat.le_of_ble_eq_true rfl, Nat.le_of_ble_eq_true rfl⟩) (fx_pvW hP hD hK hG hS hFc (va_recv hK hP (ci := 3) (q0 := 0) rfl rfl) [0, 1, 2] (by decide) rfl) rfl rfl hl.1 rfl (lv_room (Nat.le_of_ble_eq_true rfl)) dX4_add_37 ⟨Nat.le_of_ble_eq_true rfl, Nat.le_of_ble_eq_true rfl⟩) hS (fun q _ h => hFc q h) hFc (fun u t H locs ht hvm h hB _ hk hS => ?_)
    obtain ⟨y3, y4⟩ := u
    dsimp only at h
    obtain ⟨hP, hD⟩ := fx_back (wr := []) (ws' := [(a_o, .inr (3, [.ref a_o_kinds, .ref a_o_numbers, .int v2])), (a_o_kinds, .inl (fx_cI X, n_o_kinds, .inl y3)), (a_o_numbers, .inl (fx_cI X, n_o_numbers, .inl y4))]) hP hD [0, 1, 2] [] rfl rfl (by decide) (by decide) hk hFc hB ht [0, 1, 2] (by decide) rfl
    refine lv_aload_n hx hb dX4_add_40 rfl (lv_at hl 0 rfl) ?_
    refine va_get (D := fx_D X) (ci := 3) (v := .int v2) (C := RX4) (T := TX4) (N := 3) hx hb hts im_X4_add_X4 hown hK hP 0 rfl rfl 2 (by decide) k24 (fun _ h9 => h9) rfl dX4_add_41 ?_
    exact W.iret (v := v2) hx hb hr  (fun t ht hW => ⟨⟨v2, (v2, y3, y4), rfl, h, by rw [ht]; exact hP, va_K.moved hW.alike hK, hD⟩, hS.F ht⟩) hS.2.2 dX4_add_44
  refine lv_bipush (v := (-4)) hx hb dX4_add_14 (by decide) ?_
  exact W.iret (v := (-4)) hx hb hr  (fun t ht hW => ⟨⟨(-4), (s_o_count, f_o_kinds, f_o_numbers), rfl, h, by rw [ht]; exact hP, va_K.moved hW.alike hK, hD⟩, hS.F ht⟩) hS.2.2 dX4_add_16

/-- X4_isSame: its walk -/
def wp_X4_isSame (post : Int32 → Prop) (n_o_kinds : Nat) (n_o_numbers : Nat) (n_p2_kinds : Nat) (n_p2_numbers : Nat) (f_o_kinds : Nat → Int32) (f_o_numbers : Nat → Int32) (f_p2_kinds : Nat → Int32) (f_p2_numbers : Nat → Int32) (p1 : Int32) (p3 : Int32) : Prop :=
  wp_X4_kind (fun r1 => wp_X4_number (fun r2 => wp_X4_number (fun r3 => wp_X4_number (fun r4 => wp_X4_is (fun r5 => fx_bo r5 (post r5)) n_o_kinds n_o_numbers f_o_kinds f_o_numbers p1 r1 r2 r3 r4) n_p2_kinds n_p2_numbers f_p2_numbers p3 (nI 3)) n_p2_kinds n_p2_numbers f_p2_numbers p3 (nI 2)) n_p2_kinds n_p2_numbers f_p2_numbers p3 (nI 1)) n_p2_kinds f_p2_kinds p3
set_option maxHeartbeats 4000000 in
set_option maxRecDepth 100000 in
theorem cw_X4_isSame (l : Launch) (X : fx_X) (a_o : Nat) (a_o_kinds : Nat) (a_o_numbers : Nat) (a_p2 : Nat) (a_p2_kinds : Nat) (a_p2_numbers : Nat) (n_o_kinds : Nat) (n_o_numbers : Nat) (n_p2_kinds : Nat) (n_p2_numbers : Nat) (s_o_count : Int32) (f_o_kinds : Nat → Int32) (f_o_numbers : Nat → Int32) (s_p2_count : Int32) (f_p2_kinds : Nat → Int32) (f_p2_numbers : Nat → Int32) (p1 : Int32) (p3 : Int32) (post : Int32 → Prop) (h : wp_X4_isSame post n_o_kinds n_o_numbers n_p2_kinds n_p2_numbers f_o_kinds f_o_numbers f_p2_kinds f_p2_numbers p1 p3) : Met l yX4_isSame wsX4_isSame ({ frames := 2, cells := 0, slots := 0, locals := 48 }) (va_Pc [.ref a_o, .int p1, .ref a_p2, .int p3] (fx_PP X [(a_o, .inr (3, [.ref a_o_kinds, .ref a_o_numbers, .int s_o_count])), (a_o_kinds, .inl (fx_cI X, n_o_kinds, .inl f_o_kinds)), (a_o_numbers, .inl (fx_cI X, n_o_numbers, .inl f_o_numbers)), (a_p2, .inr (3, [.ref a_p2_kinds, .ref a_p2_numbers, .int s_p2_count])), (a_p2_kinds, .inl (fx_cI X, n_p2_kinds, .inl f_p2_kinds)), (a_p2_numbers, .inl (fx_cI X, n_p2_numbers, .inl f_p2_numbers))])) (vp_Si post) 0 0 (fun _ => False) := by
  refine Met.ofW (cc := cX4_isSame) (maxL := 4) (ret := (some .boolean)) (by decide) rfl ?_
  intro p e s m args below meth c s₁ B hml hv
  obtain ⟨rfl, hP, hK, hG⟩ := hv
  have hx := B.exec
  have hb := B.bytes
  have hr := B.returns
  have hts := atoms_spec (ws := wsX4_isSame) B.pre
  have hown : s.vm.findClass RX4 = some m.cls := findClass_of_methodNamed B.named
  have hlocks := B.notSynchronized
  have hS : va_S (fun _ => False) s.heap s.heap [] := va_S.rf
  have hl := lv_entry ([.ref a_o, .int p1, .ref a_p2, .int p3]) (n := 4) (Nat.le_of_ble_eq_true rfl)
  rw [lg_entry_eq]
  generalize (lg_sl ([.ref a_o, .int p1, .ref a_p2, .int p3]) ++ List.replicate (4 - (lg_sl ([.ref a_o, .int p1, .ref a_p2, .int p3])).length) Slot.unset).toArray = ls at hl ⊢
  have hl : lv_has ls 4 [(0, .ref a_o), (1, .int p1), (2, .ref a_p2), (3, .int p3)] := hl
  unfold wp_X4_isSame at h
  refine lv_aload_n hx hb dX4_isSame_0 rfl (lv_at hl 0 rfl) ?_
  refine lv_iload_n hx hb dX4_isSame_1 rfl (lv_at hl 1 rfl) ?_
  refine lv_aload_n hx hb dX4_isSame_2 rfl (lv_at hl 2 rfl) ?_
  refine lv_iload_n hx hb dX4_isSame_3 rfl (lv_at hl 3 rfl) ?_
  refine vp_callSi (W.runV (As := [.int p3]) (rest := [.int p1, .ref a_o]) ⟨hx, hb, hml, hown, hts⟩ (cw_X4_kind l X a_p2 a_p2_kinds a_p2_numbers n_p2_kinds s_p2_count f_p2_kinds p3 _ h) (cwV 1 hts gX4_isSame_X4_kind rfl rfl rfl (by decide +kernel) ⟨Nat.le_of_ble_eq_true rfl, Nat.le_of_ble_eq_true rfl⟩) (fx_pv hP hK hG hS (va_recv hK hP (ci := 3) (q0 := 3) rfl rfl) [3, 4] rfl) rfl rfl hl.1 rfl (lv_room (Nat.le_of_ble_eq_true rfl)) dX4_isSame_4 ⟨Nat.le_of_ble_eq_true rfl, Nat.le_of_ble_eq_true rfl⟩) (fun r1 h => ?_)
  refine lv_aload_n hx hb dX4_isSame_7 rfl (lv_at hl 2 rfl) ?_
  refine lv_iload_n hx hb dX4_isSame_8 rfl (lv_at hl 3 rfl) ?_
  refine lv_iconst (v := (nI 1)) hx hb dX4_isSame_9 (by decide) ?_
  refine vp_callSi (W.runV (As := [.int p3, .int (nI 1)]) (rest := [.int r1, .int p1, .ref a_o]) ⟨hx, hb, hml, hown, hts⟩ (cw_X4_number l X a_p2 a_p2_kinds a_p2_numbers n_p2_kinds n_p2_numbers s_p2_count f_p2_kinds f_p2_numbers p3 (nI 1) _ h) (cwV 2 hts gX4_isSame_X4_number rfl rfl rfl (by decide +kernel) ⟨Nat.le_of_ble_eq_true rfl, Nat.le_of_ble_eq_true rfl⟩) (fx_pv hP hK hG hS (va_recv hK hP (ci := 3) (q0 := 3) rfl rfl) [3, 4, 5] rfl) rfl rfl hl.1 rfl (lv_room (Nat.le_of_ble_eq_true rfl)) dX4_isSame_10 ⟨Nat.le_of_ble_eq_true rfl, Nat.le_of_ble_eq_true rfl⟩) (fun r2 h => ?_)
  refine lv_aload_n hx hb dX4_isSame_13 rfl (lv_at hl 2 rfl) ?_
  refine lv_iload_n hx hb dX4_isSame_14 rfl (lv_at hl 3 rfl) ?_
  refine lv_iconst (v := (nI 2)) hx hb dX4_isSame_15 (by decide) ?_
  refine vp_callSi (W.runV (As := [.int p3, .int (nI 2)]) (rest := [.int r2, .int r1, .int p1, .ref a_o]) ⟨hx, hb, hml, hown, hts⟩ (cw_X4_number l X a_p2 a_p2_kinds a_p2_numbers n_p2_kinds n_p2_numbers s_p2_count f_p2_kinds f_p2_numbers p3 (nI 2) _ h) (cwV 2 hts gX4_isSame_X4_number rfl rfl rfl (by decide +kernel) ⟨Nat.le_of_ble_eq_true rfl, Nat.le_of_ble_eq_true rfl⟩) (fx_pv hP hK hG hS (va_recv hK hP (ci := 3) (q0 := 3) rfl rfl) [3, 4, 5] rfl) rfl rfl hl.1 rfl (lv_room (Nat.le_of_ble_eq_true rfl)) dX4_isSame_16 ⟨Nat.le_of_ble_eq_true rfl, Nat.le_of_ble_eq_true rfl⟩) (fun r3 h => ?_)
  refine lv_aload_n hx hb dX4_isSame_19 rfl (lv_at hl 2 rfl) ?_
  refine lv_iload_n hx hb dX4_isSame_20 rfl (lv_at hl 3 rfl) ?_
  refine lv_iconst (v := (nI 3)) hx hb dX4_isSame_21 (by decide) ?_
  refine vp_callSi (W.runV (As := [.int p3, .int (nI 3)]) (rest := [.int r3, .int r2, .int r1, .int p1, .ref a_o]) ⟨hx, hb, hml, hown, hts⟩ (cw_X4_number l X a_p2 a_p2_kinds a_p2_numbers n_p2_kinds n_p2_numbers s_p2_count f_p2_kinds f_p2_numbers p3 (nI 3) _ h) (cwV 2 hts gX4_isSame_X4_number rfl rfl rfl (by decide +kernel) ⟨Nat.le_of_ble_eq_true rfl, Nat.le_of_ble_eq_true rfl⟩) (fx_pv hP hK hG hS (va_recv hK hP (ci := 3) (q0 := 3) rfl rfl) [3, 4, 5] rfl) rfl rfl hl.1 rfl (lv_room (Nat.le_of_ble_eq_true rfl)) dX4_isSame_22 ⟨Nat.le_of_ble_eq_true rfl, Nat.le_of_ble_eq_true rfl⟩) (fun r4 h => ?_)
  refine vp_callSi (W.runV (As := [.int p1, .int r1, .int r2, .int r3, .int r4]) (rest := []) ⟨hx, hb, hml, hown, hts⟩ (cw_X4_is l X a_o a_o_kinds a_o_numbers n_o_kinds n_o_numbers s_o_count f_o_kinds f_o_numbers p1 r1 r2 r3 r4 _ h) (cwV 5 hts gX4_isSame_X4_is rfl rfl rfl (by decide +kernel) ⟨Nat.le_of_ble_eq_true rfl, Nat.le_of_ble_eq_true rfl⟩) (fx_pv hP hK hG hS (va_recv hK hP (ci := 3) (q0 := 0) rfl rfl) [0, 1, 2] rfl) rfl rfl hl.1 rfl (lv_room (Nat.le_of_ble_eq_true rfl)) dX4_isSame_25 ⟨Nat.le_of_ble_eq_true rfl, Nat.le_of_ble_eq_true rfl⟩) (fun r5 h => ?_)
  exact W.zret (v := r5) hx hb hr (fx_bo_n h) (fun t ht hW => ⟨_, rfl, h.2, ht⟩) (fun q hq => by cases hq) dX4_isSame_28

/-- X4_put: its walk -/
def wp_X4_put (post : (Nat → Int32) → (Nat → Int32) → Prop) (n_o_kinds : Nat) (n_o_numbers : Nat) (n_p2_kinds : Nat) (n_p2_numbers : Nat) (f_o_kinds : Nat → Int32) (f_o_numbers : Nat → Int32) (f_p2_kinds : Nat → Int32) (f_p2_numbers : Nat → Int32) (p1 : Int32) (p3 : Int32) : Prop :=
  wp_X4_kind (fun r1 => wp_X4_number (fun r2 => wp_X4_number (fun r3 => wp_X4_number (fun r4 => wp_X4_put_ (fun y5 y6 => post y5 y6) n_o_kinds n_o_numbers f_o_kinds f_o_numbers p1 r1 r2 r3 r4) n_p2_kinds n_p2_numbers f_p2_numbers p3 (nI 3)) n_p2_kinds n_p2_numbers f_p2_numbers p3 (nI 2)) n_p2_kinds n_p2_numbers f_p2_numbers p3 (nI 1)) n_p2_kinds f_p2_kinds p3
set_option maxHeartbeats 4000000 in
set_option maxRecDepth 100000 in
theorem cw_X4_put (l : Launch) (X : fx_X) (a_o : Nat) (a_o_kinds : Nat) (a_o_numbers : Nat) (a_p2 : Nat) (a_p2_kinds : Nat) (a_p2_numbers : Nat) (n_o_kinds : Nat) (n_o_numbers : Nat) (n_p2_kinds : Nat) (n_p2_numbers : Nat) (s_o_count : Int32) (f_o_kinds : Nat → Int32) (f_o_numbers : Nat → Int32) (s_p2_count : Int32) (f_p2_kinds : Nat → Int32) (f_p2_numbers : Nat → Int32) (sz : Nat) (p1 : Int32) (p3 : Int32) (post : (Nat → Int32) → (Nat → Int32) → Prop) (h : wp_X4_put post n_o_kinds n_o_numbers n_p2_kinds n_p2_numbers f_o_kinds f_o_numbers f_p2_kinds f_p2_numbers p1 p3) : Met l yX4_put wsX4_put ({ frames := 1, cells := 0, slots := 0, locals := 25 }) (va_Pc [.ref a_o, .int p1, .ref a_p2, .int p3] (fx_PW X [(a_o, .inr (3, [.ref a_o_kinds, .ref a_o_numbers, .int s_o_count])), (a_o_kinds, .inl (fx_cI X, n_o_kinds, .inl f_o_kinds)), (a_o_numbers, .inl (fx_cI X, n_o_numbers, .inl f_o_numbers)), (a_p2, .inr (3, [.ref a_p2_kinds, .ref a_p2_numbers, .int s_p2_count])), (a_p2_kinds, .inl (fx_cI X, n_p2_kinds, .inl f_p2_kinds)), (a_p2_numbers, .inl (fx_cI X, n_p2_numbers, .inl f_p2_numbers))] sz)) (va_Qv (fun (u : (Nat → Int32) × (Nat → Int32)) => post u.1 u.2) (fun (u : (Nat → Int32) × (Nat → Int32)) t => fx_EW X (va_A [(a_o, .inr (3, [.ref a_o_kinds, .ref a_o_numbers, .int s_o_count])), (a_o_kinds, .inl (fx_cI X, n_o_kinds, .inl f_o_kinds)), (a_o_numbers, .inl (fx_cI X, n_o_numbers, .inl f_o_numbers)), (a_p2, .inr (3, [.ref a_p2_kinds, .ref a_p2_numbers, .int s_p2_count])), (a_p2_kinds, .inl (fx_cI X, n_p2_kinds, .inl f_p2_kinds)), (a_p2_numbers, .inl (fx_cI X, n_p2_numbers, .inl f_p2_numbers))] sz) [(a_o, .inr (3, [.ref a_o_kinds, .ref a_o_numbers, .int s_o_count])), (a_o_kinds, .inl (fx_cI X, n_o_kinds, .inl u.1)), (a_o_numbers, .inl (fx_cI X, n_o_numbers, .inl u.2)), (a_p2, .inr (3, [.ref a_p2_kinds, .ref a_p2_numbers, .int s_p2_count])), (a_p2_kinds, .inl (fx_cI X, n_p2_kinds, .inl f_p2_kinds)), (a_p2_numbers, .inl (fx_cI X, n_p2_numbers, .inl f_p2_numbers))] t) (va_A [(a_o, .inr (3, [.ref a_o_kinds, .ref a_o_numbers, .int s_o_count])), (a_o_kinds, .inl (fx_cI X, n_o_kinds, .inl f_o_kinds)), (a_o_numbers, .inl (fx_cI X, n_o_numbers, .inl f_o_numbers)), (a_p2, .inr (3, [.ref a_p2_kinds, .ref a_p2_numbers, .int s_p2_count])), (a_p2_kinds, .inl (fx_cI X, n_p2_kinds, .inl f_p2_kinds)), (a_p2_numbers, .inl (fx_cI X, n_p2_numbers, .inl f_p2_numbers))] sz)) 0 0 (va_A [(a_o, .inr (3, [.ref a_o_kinds, .ref a_o_numbers, .int s_o_count])), (a_o_kinds, .inl (fx_cI X, n_o_kinds, .inl f_o_kinds)), (a_o_numbers, .inl (fx_cI X, n_o_numbers, .inl f_o_numbers)), (a_p2, .inr (3, [.ref a_p2_kinds, .ref a_p2_numbers, .int s_p2_count])), (a_p2_kinds, .inl (fx_cI X, n_p2_kinds, .inl f_p2_kinds)), (a_p2_numbers, .inl (fx_cI X, n_p2_numbers, .inl f_p2_numbers))] sz) := by
  refine Met.ofW (cc := cX4_put) (maxL := 4) (ret := none) (by decide) rfl ?_
  intro p e s m args below meth c s₁ B hml hv
  obtain ⟨rfl, hsz, hP, hK, hD0, hG⟩ := hv
  have hx := B.exec
  have hb := B.bytes
  have hr := B.returns
  have hts := atoms_spec (ws := wsX4_put) B.pre
  have hown : s.vm.findClass RX4 = some m.cls := findClass_of_methodNamed B.named
  have hlocks := B.notSynchronized
  subst hsz
  have hD := hD0.self (sz := s.heap.size)
  generalize hAe : va_A [(a_o, .inr (3, [.ref a_o_kinds, .ref a_o_numbers, .int s_o_count])), (a_o_kinds, .inl (fx_cI X, n_o_kinds, .inl f_o_kinds)), (a_o_numbers, .inl (fx_cI X, n_o_numbers, .inl f_o_numbers)), (a_p2, .inr (3, [.ref a_p2_kinds, .ref a_p2_numbers, .int s_p2_count])), (a_p2_kinds, .inl (fx_cI X, n_p2_kinds, .inl f_p2_kinds)), (a_p2_numbers, .inl (fx_cI X, n_p2_numbers, .inl f_p2_numbers))] s.heap.size = A at hD hG ⊢
  have hA : ∀ q : Nat, s.heap.size ≤ q → A q := fun q h => by rw [← hAe]; exact Or.inr h
  have hS : va_S A s.heap s.heap [] := va_S.rf
  have hl := lv_entry ([.ref a_o, .int p1, .ref a_p2, .int p3]) (n := 4) (Nat.le_of_ble_eq_true rfl)
  rw [lg_entry_eq]
  generalize (lg_sl ([.ref a_o, .int p1, .ref a_p2, .int p3]) ++ List.replicate (4 - (lg_sl ([.ref a_o, .int p1, .ref a_p2, .int p3])).length) Slot.unset).toArray = ls at hl ⊢
  have hl : lv_has ls 4 [(0, .ref a_o), (1, .int p1), (2, .ref a_p2), (3, .int p3)] := hl
  unfold wp_X4_put at h
  refine lv_aload_n hx hb dX4_put_0 rfl (lv_at hl 0 rfl) ?_
  refine lv_iload_n hx hb dX4_put_1 rfl (lv_at hl 1 rfl) ?_
  refine lv_aload_n hx hb dX4_put_2 rfl (lv_at hl 2 rfl) ?_
  refine lv_iload_n hx hb dX4_put_3 rfl (lv_at hl 3 rfl) ?_
  refine vp_callSi (W.runV (As := [.int p3]) (rest := [.int p1, .ref a_o]) ⟨hx, hb, hml, hown, hts⟩ (cw_X4_kind l X a_p2 a_p2_kinds a_p2_numbers n_p2_kinds s_p2_count f_p2_kinds p3 _ h) (cwV 1 hts gX4_put_X4_kind rfl rfl rfl (by decide +kernel) ⟨Nat.le_of_ble_eq_true rfl, Nat.le_of_ble_eq_true rfl⟩) (fx_pv hP hK hG hS (va_recv hK hP (ci := 3) (q0 := 3) rfl rfl) [3, 4] rfl) rfl rfl hl.1 rfl (lv_room (Nat.le_of_ble_eq_true rfl)) dX4_put_4 ⟨Nat.le_of_ble_eq_true rfl, Nat.le_of_ble_eq_true rfl⟩) (fun r1 h => ?_)
  refine lv_aload_n hx hb dX4_put_7 rfl (lv_at hl 2 rfl) ?_
  refine lv_iload_n hx hb dX4_put_8 rfl (lv_at hl 3 rfl) ?_
  refine lv_iconst (v := (nI 1)) hx hb dX4_put_9 (by decide) ?_
  refine vp_callSi (W.runV (As := [.int p3, .int (nI 1)]) (rest := [.int r1, .int p1, .ref a_o]) ⟨hx, hb, hml, hown, hts⟩ (cw_X4_number l X a_p2 a_p2_kinds a_p2_numbers n_p2_kinds n_p2_numbers s_p2_count f_p2_kinds f_p2_numbers p3 (nI 1) _ h) (cwV 2 hts gX4_put_X4_number rfl rfl rfl (by decide +kernel) ⟨Nat.le_of_ble_eq_true rfl, Nat.le_of_ble_eq_true rfl⟩) (fx_pv hP hK hG hS (va_recv hK hP (ci := 3) (q0 := 3) rfl rfl) [3, 4, 5] rfl) rfl rfl hl.1 rfl (lv_room (Nat.le_of_ble_eq_true rfl)) dX4_put_10 ⟨Nat.le_of_ble_eq_true rfl, Nat.le_of_ble_eq_true rfl⟩) (fun r2 h => ?_)
  refine lv_aload_n hx hb dX4_put_13 rfl (lv_at hl 2 rfl) ?_
  refine lv_iload_n hx hb dX4_put_14 rfl (lv_at hl 3 rfl) ?_
  refine lv_iconst (v := (nI 2)) hx hb dX4_put_15 (by decide) ?_
  refine vp_callSi (W.runV (As := [.int p3, .int (nI 2)]) (rest := [.int r2, .int r1, .int p1, .ref a_o]) ⟨hx, hb, hml, hown, hts⟩ (cw_X4_number l X a_p2 a_p2_kinds a_p2_numbers n_p2_kinds n_p2_numbers s_p2_count f_p2_kinds f_p2_numbers p3 (nI 2) _ h) (cwV 2 hts gX4_put_X4_number rfl rfl rfl (by decide +kernel) ⟨Nat.le_of_ble_eq_true rfl, Nat.le_of_ble_eq_true rfl⟩) (fx_pv hP hK hG hS (va_recv hK hP (ci := 3) (q0 := 3) rfl rfl) [3, 4, 5] rfl) rfl rfl hl.1 rfl (lv_room (Nat.le_of_ble_eq_true rfl)) dX4_put_16 ⟨Nat.le_of_ble_eq_true rfl, Nat.le_of_ble_eq_true rfl⟩) (fun r3 h => ?_)
  refine lv_aload_n hx hb dX4_put_19 rfl (lv_at hl 2 rfl) ?_
  refine lv_iload_n hx hb dX4_put_20 rfl (lv_at hl 3 rfl) ?_
  refine lv_iconst (v := (nI 3)) hx hb dX4_put_21 (by decide) ?_
  refine vp_callSi (W.runV (As := [.int p3, .int (nI 3)]) (rest := [.int r3, .int r2, .int r1, .int p1, .ref a_o]) ⟨hx, hb, hml, hown, hts⟩ (cw_X4_number l X a_p2 a_p2_kinds a_p2_numbers n_p2_kinds n_p2_numbers s_p2_count f_p2_kinds f_p2_numbers p3 (nI 3) _ h) (cwV 2 hts gX4_put_X4_number rfl rfl rfl (by decide +kernel) ⟨Nat.le_of_ble_eq_true rfl, Nat.le_of_ble_eq_true rfl⟩) (fx_pv hP hK hG hS (va_recv hK hP (ci := 3) (q0 := 3) rfl rfl) [3, 4, 5] rfl) rfl rfl hl.1 rfl (lv_room (Nat.le_of_ble_eq_true rfl)) dX4_put_22 ⟨Nat.le_of_ble_eq_true rfl, Nat.le_of_ble_eq_true rfl⟩) (fun r4 h => ?_)
  have hFc := va_free (wc := [(a_o, .inr (3, [.ref a_o_kinds, .ref a_o_numbers, .int s_o_count])), (a_o_kinds, .inl (fx_cI X, n_o_kinds, .inl f_o_kinds)), (a_o_numbers, .inl (fx_cI X, n_o_numbers, .inl f_o_numbers))]) hD hS hA [0, 1, 2] rfl
  refine va_callv (va_runV (As := [.int p1, .int r1, .int r2, .int r3, .int r4]) (rest := []) ⟨hx, hb, hml, hown, hts⟩ (cw_X4_put_ l X a_o a_o_kinds a_o_numbers n_o_kinds n_o_numbers s_o_count f_o_kinds f_o_numbers _ p1 r1 r2 r3 r4 _ h) (cwV 5 hts gX4_put_X4_put_ rfl rfl rfl (by decide +kernel) ⟨Nat.le_of_ble_eq_true rfl, Nat.le_of_ble_eq_true rfl⟩) (fx_pvW hP hD hK hG hS hFc (va_recv hK hP (ci := 3) (q0 := 0) rfl rfl) [0, 1, 2] (by decide) rfl) rfl rfl hl.1 rfl (lv_room (Nat.le_of_ble_eq_true rfl)) dX4_put_25 ⟨Nat.le_of_ble_eq_true rfl, Nat.le_of_ble_eq_true rfl⟩) hS (fun q _ h => hFc q h) hFc (fun u t H locs ht hvm h hB _ hk hS => ?_)
  obtain ⟨y5, y6⟩ := u
  dsimp only at h
  obtain ⟨hP, hD⟩ := fx_back (wr := [(a_p2, .inr (3, [.ref a_p2_kinds, .ref a_p2_numbers, .int s_p2_count])), (a_p2_kinds, .inl (fx_cI X, n_p2_kinds, .inl f_p2_kinds)), (a_p2_numbers, .inl (fx_cI X, n_p2_numbers, .inl f_p2_numbers))]) (ws' := [(a_o, .inr (3, [.ref a_o_kinds, .ref a_o_numbers, .int s_o_count])), (a_o_kinds, .inl (fx_cI X, n_o_kinds, .inl y5)), (a_o_numbers, .inl (fx_cI X, n_o_numbers, .inl y6)), (a_p2, .inr (3, [.ref a_p2_kinds, .ref a_p2_numbers, .int s_p2_count])), (a_p2_kinds, .inl (fx_cI X, n_p2_kinds, .inl f_p2_kinds)), (a_p2_numbers, .inl (fx_cI X, n_p2_numbers, .inl f_p2_numbers))]) hP hD [0, 1, 2] [3, 4, 5] rfl rfl (by decide) (by decide) hk hFc hB ht [3, 4, 5, 0, 1, 2] (by decide) rfl
  exact W.vret hx hb hr (fun t ht hW => ⟨⟨(y5, y6), rfl, h, by rw [ht]; exact hP, va_K.moved hW.alike hK, hD⟩, hS.F ht⟩) hS.2.2 dX4_put_28

/-- X4_put_s: its walk -/
def wp_X4_put_s (post : (Nat → Int32) → (Nat → Int32) → Prop) (n_o_kinds : Nat) (n_o_numbers : Nat) (f_o_kinds : Nat → Int32) (f_o_numbers : Nat → Int32) (p1 : Int32) (p3 : Int32) : Prop :=
  wp_X4_kind (fun r1 => wp_X4_number (fun r2 => wp_X4_number (fun r3 => wp_X4_number (fun r4 => wp_X4_put_ (fun y5 y6 => post y5 y6) n_o_kinds n_o_numbers f_o_kinds f_o_numbers p1 r1 r2 r3 r4) n_o_kinds n_o_numbers f_o_numbers p3 (nI 3)) n_o_kinds n_o_numbers f_o_numbers p3 (nI 2)) n_o_kinds n_o_numbers f_o_numbers p3 (nI 1)) n_o_kinds f_o_kinds p3
set_option maxHeartbeats 4000000 in
set_option maxRecDepth 100000 in
theorem cw_X4_put_s (l : Launch) (X : fx_X) (a_o : Nat) (a_o_kinds : Nat) (a_o_numbers : Nat) (n_o_kinds : Nat) (n_o_numbers : Nat) (s_o_count : Int32) (f_o_kinds : Nat → Int32) (f_o_numbers : Nat → Int32) (sz : Nat) (p1 : Int32) (p3 : Int32) (post : (Nat → Int32) → (Nat → Int32) → Prop) (h : wp_X4_put_s post n_o_kinds n_o_numbers f_o_kinds f_o_numbers p1 p3) : Met l yX4_put wsX4_put ({ frames := 1, cells := 0, slots := 0, locals := 25 }) (va_Pc [.ref a_o, .int p1, .ref a_o, .int p3] (fx_PW X [(a_o, .inr (3, [.ref a_o_kinds, .ref a_o_numbers, .int s_o_count])), (a_o_kinds, .inl (fx_cI X, n_o_kinds, .inl f_o_kinds)), (a_o_numbers, .inl (fx_cI X, n_o_numbers, .inl f_o_numbers))] sz)) (va_Qv (fun (u : (Nat → Int32) × (Nat → Int32)) => post u.1 u.2) (fun (u : (Nat → Int32) × (Nat → Int32)) t => fx_EW X (va_A [(a_o, .inr (3, [.ref a_o_kinds, .ref a_o_numbers, .int s_o_count])), (a_o_kinds, .inl (fx_cI X, n_o_kinds, .inl f_o_kinds)), (a_o_numbers, .inl (fx_cI X, n_o_numbers, .inl f_o_numbers))] sz) [(a_o, .inr (3, [.ref a_o_kinds, .ref a_o_numbers, .int s_o_count])), (a_o_kinds, .inl (fx_cI X, n_o_kinds, .inl u.1)), (a_o_numbers, .inl (fx_cI X, n_o_numbers, .inl u.2))] t) (va_A [(a_o, .inr (3, [.ref a_o_kinds, .ref a_o_numbers, .int s_o_count])), (a_o_kinds, .inl (fx_cI X, n_o_kinds, .inl f_o_kinds)), (a_o_numbers, .inl (fx_cI X, n_o_numbers, .inl f_o_numbers))] sz)) 0 0 (va_A [(a_o, .inr (3, [.ref a_o_kinds, .ref a_o_numbers, .int s_o_count])), (a_o_kinds, .inl (fx_cI X, n_o_kinds, .inl f_o_kinds)), (a_o_numbers, .inl (fx_cI X, n_o_numbers, .inl f_o_numbers))] sz) := by
  refine Met.ofW (cc := cX4_put) (maxL := 4) (ret := none) (by decide) rfl ?_
  intro p e s m args below meth c s₁ B hml hv
  obtain ⟨rfl, hsz, hP, hK, hD0, hG⟩ := hv
  have hx := B.exec
  have hb := B.bytes
  have hr := B.returns
  have hts := atoms_spec (ws := wsX4_put) B.pre
  have hown : s.vm.findClass RX4 = some m.cls := findClass_of_methodNamed B.named
  have hlocks := B.notSynchronized
  subst hsz
  have hD := hD0.self (sz := s.heap.size)
  generalize hAe : va_A [(a_o, .inr (3, [.ref a_o_kinds, .ref a_o_numbers, .int s_o_count])), (a_o_kinds, .inl (fx_cI X, n_o_kinds, .inl f_o_kinds)), (a_o_numbers, .inl (fx_cI X, n_o_numbers, .inl f_o_numbers))] s.heap.size = A at hD hG ⊢
  have hA : ∀ q : Nat, s.heap.size ≤ q → A q := fun q h => by rw [← hAe]; exact Or.inr h
  have hS : va_S A s.heap s.heap [] := va_S.rf
  have hl := lv_entry ([.ref a_o, .int p1, .ref a_o, .int p3]) (n := 4) (Nat.le_of_ble_eq_true rfl)
  rw [lg_entry_eq]
  generalize (lg_sl ([.ref a_o, .int p1, .ref a_o, .int p3]) ++ List.replicate (4 - (lg_sl ([.ref a_o, .int p1, .ref a_o, .int p3])).length) Slot.unset).toArray = ls at hl ⊢
  have hl : lv_has ls 4 [(0, .ref a_o), (1, .int p1), (2, .ref a_o), (3, .int p3)] := hl
  unfold wp_X4_put_s at h
  refine lv_aload_n hx hb dX4_put_0 rfl (lv_at hl 0 rfl) ?_
  refine lv_iload_n hx hb dX4_put_1 rfl (lv_at hl 1 rfl) ?_
  refine lv_aload_n hx hb dX4_put_2 rfl (lv_at hl 2 rfl) ?_
  refine lv_iload_n hx hb dX4_put_3 rfl (lv_at hl 3 rfl) ?_
  refine vp_callSi (W.runV (As := [.int p3]) (rest := [.int p1, .ref a_o]) ⟨hx, hb, hml, hown, hts⟩ (cw_X4_kind l X a_o a_o_kinds a_o_numbers n_o_kinds s_o_count f_o_kinds p3 _ h) (cwV 1 hts gX4_put_X4_kind rfl rfl rfl (by decide +kernel) ⟨Nat.le_of_ble_eq_true rfl, Nat.le_of_ble_eq_true rfl⟩) (fx_pv hP hK hG hS (va_recv hK hP (ci := 3) (q0 := 0) rfl rfl) [0, 1] rfl) rfl rfl hl.1 rfl (lv_room (Nat.le_of_ble_eq_true rfl)) dX4_put_4 ⟨Nat.le_of_ble_eq_true rfl, Nat.le_of_ble_eq_true rfl⟩) (fun r1 h => ?_)
  refine lv_aload_n hx hb dX4_put_7 rfl (lv_at hl 2 rfl) ?_
  refine lv_iload_n hx hb dX4_put_8 rfl (lv_at hl 3 rfl) ?_
  refine lv_iconst (v := (nI 1)) hx hb dX4_put_9 (by decide) ?_
  refine vp_callSi (W.runV (As := [.int p3, .int (nI 1)]) (rest := [.int r1, .int p1, .ref a_o]) ⟨hx, hb, hml, hown, hts⟩ (cw_X4_number l X a_o a_o_kinds a_o_numbers n_o_kinds n_o_numbers s_o_count f_o_kinds f_o_numbers p3 (nI 1) _ h) (cwV 2 hts gX4_put_X4_number rfl rfl rfl (by decide +kernel) ⟨Nat.le_of_ble_eq_true rfl, Nat.le_of_ble_eq_true rfl⟩) (fx_pv hP hK hG hS (va_recv hK hP (ci := 3) (q0 := 0) rfl rfl) [0, 1, 2] rfl) rfl rfl hl.1 rfl (lv_room (Nat.le_of_ble_eq_true rfl)) dX4_put_10 ⟨Nat.le_of_ble_eq_true rfl, Nat.le_of_ble_eq_true rfl⟩) (fun r2 h => ?_)
  refine lv_aload_n hx hb dX4_put_13 rfl (lv_at hl 2 rfl) ?_
  refine lv_iload_n hx hb dX4_put_14 rfl (lv_at hl 3 rfl) ?_
  refine lv_iconst (v := (nI 2)) hx hb dX4_put_15 (by decide) ?_
  refine vp_callSi (W.runV (As := [.int p3, .int (nI 2)]) (rest := [.int r2, .int r1, .int p1, .ref a_o]) ⟨hx, hb, hml, hown, hts⟩ (cw_X4_number l X a_o a_o_kinds a_o_numbers n_o_kinds n_o_numbers s_o_count f_o_kinds f_o_numbers p3 (nI 2) _ h) (cwV 2 hts gX4_put_X4_number rfl rfl rfl (by decide +kernel) ⟨Nat.le_of_ble_eq_true rfl, Nat.le_of_ble_eq_true rfl⟩) (fx_pv hP hK hG hS (va_recv hK hP (ci := 3) (q0 := 0) rfl rfl) [0, 1, 2] rfl) rfl rfl hl.1 rfl (lv_room (Nat.le_of_ble_eq_true rfl)) dX4_put_16 ⟨Nat.le_of_ble_eq_true rfl, Nat.le_of_ble_eq_true rfl⟩) (fun r3 h => ?_)
  refine lv_aload_n hx hb dX4_put_19 rfl (lv_at hl 2 rfl) ?_
  refine lv_iload_n hx hb dX4_put_20 rfl (lv_at hl 3 rfl) ?_
  refine lv_iconst (v := (nI 3)) hx hb dX4_put_21 (by decide) ?_
  refine vp_callSi (W.runV (As := [.int p3, .int (nI 3)]) (rest := [.int r3, .int r2, .int r1, .int p1, .ref a_o]) ⟨hx, hb, hml, hown, hts⟩ (cw_X4_number l X a_o a_o_kinds a_o_numbers n_o_kinds n_o_numbers s_o_count f_o_kinds f_o_numbers p3 (nI 3) _ h) (cwV 2 hts gX4_put_X4_number rfl rfl rfl (by decide +kernel) ⟨Nat.le_of_ble_eq_true rfl, Nat.le_of_ble_eq_true rfl⟩) (fx_pv hP hK hG hS (va_recv hK hP (ci := 3) (q0 := 0) rfl rfl) [0, 1, 2] rfl) rfl rfl hl.1 rfl (lv_room (Nat.le_of_ble_eq_true rfl)) dX4_put_22 ⟨Nat.le_of_ble_eq_true rfl, Nat.le_of_ble_eq_true rfl⟩) (fun r4 h => ?_)
  have hFc := va_free (wc := [(a_o, .inr (3, [.ref a_o_kinds, .ref a_o_numbers, .int s_o_count])), (a_o_kinds, .inl (fx_cI X, n_o_kinds, .inl f_o_kinds)), (a_o_numbers, .inl (fx_cI X, n_o_numbers, .inl f_o_numbers))]) hD hS hA [0, 1, 2] rfl
  refine va_callv (va_runV (As := [.int p1, .int r1, .int r2, .int r3, .int r4]) (rest := []) ⟨hx, hb, hml, hown, hts⟩ (cw_X4_put_ l X a_o a_o_kinds a_o_numbers n_o_kinds n_o_numbers s_o_count f_o_kinds f_o_numbers _ p1 r1 r2 r3 r4 _ h) (cwV 5 hts gX4_put_X4_put_ rfl rfl rfl (by decide +kernel) ⟨Nat.le_of_ble_eq_true rfl, Nat.le_of_ble_eq_true rfl⟩) (fx_pvW hP hD hK hG hS hFc (va_recv hK hP (ci := 3) (q0 := 0) rfl rfl) [0, 1, 2] (by decide) rfl) rfl rfl hl.1 rfl (lv_room (Nat.le_of_ble_eq_true rfl)) dX4_put_25 ⟨Nat.le_of_ble_eq_true rfl, Nat.le_of_ble_eq_true rfl⟩) hS (fun q _ h => hFc q h) hFc (fun u t H locs ht hvm h hB _ hk hS => ?_)
  obtain ⟨y5, y6⟩ := u
  dsimp only at h
  obtain ⟨hP, hD⟩ := fx_back (wr := []) (ws' := [(a_o, .inr (3, [.ref a_o_kinds, .ref a_o_numbers, .int s_o_count])), (a_o_kinds, .inl (fx_cI X, n_o_kinds, .inl y5)), (a_o_numbers, .inl (fx_cI X, n_o_numbers, .inl y6))]) hP hD [0, 1, 2] [] rfl rfl (by decide) (by decide) hk hFc hB ht [0, 1, 2] (by decide) rfl
  exact W.vret hx hb hr (fun t ht hW => ⟨⟨(y5, y6), rfl, h, by rw [ht]; exact hP, va_K.moved hW.alike hK, hD⟩, hS.F ht⟩) hS.2.2 dX4_put_28

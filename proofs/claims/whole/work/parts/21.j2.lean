/-- J8_newLength_cabcc: its walk -/
def wp_J8_newLength_cabcc (post : Int32 → Prop) (p1 : Int32) (p2 : Int32) (p3 : Int32) : Prop :=
  fx_nm (if p2 < p3 then p3 else p2) (fun v1 => fx_nm (p1 + v1) (fun v2 => fx_br (v2 ≤ (nI 0)) (False) (fx_br ((nI 2147483639) < v2) (False) (post v2))))
set_option maxHeartbeats 4000000 in
set_option maxRecDepth 100000 in
theorem cw_J8_newLength_cabcc (l : Launch) (X : fx_X)   (p1 : Int32) (p2 : Int32) (p3 : Int32) (post : Int32 → Prop) (h : wp_J8_newLength_cabcc post p1 p2 p3) : Met l yJ8_newLength_cabcc wsJ8_newLength_cabcc ({ frames := 1, cells := 0, slots := 0, locals := 21 }) (va_Pc [.int p1, .int p2, .int p3] (fx_PP X [])) (vp_Si post) 0 0 (fun _ => False) := by
  refine Met.ofW (cc := cJ8_newLength_cabcc) (maxL := 4) (ret := (some .int)) (by decide) rfl ?_
  intro p e s m args below meth c s₁ B hml hv
  obtain ⟨rfl, hP, hK, hG⟩ := hv
  have hx := B.exec
  have hb := B.bytes
  have hr := B.returns
  have hts := atoms_spec (ws := wsJ8_newLength_cabcc) B.pre
  have hown : s.vm.findClass RJ8 = some m.cls := findClass_of_methodNamed B.named
  have hlocks := B.notSynchronized
  have hS : va_S (fun _ => False) s.heap s.heap [] := va_S.rf
  have k194 := hts (.methodLink RJ8 194 Lib.Math.max.name) (by decide +kernel)
  have kstva_mmax := hts (.static Lib.Math.max.name) (by decide +kernel)
  have kini := hts (.initialized "java/lang/Math") (by decide +kernel)
  have kcova_mmax := hts (.code Lib.Math.max.name Lib.Math.max.code 2 (some .int)) (by decide +kernel)
  have k200 := hts (.constant RJ8 200 (2147483639)) (by decide +kernel)
  have hl := lv_entry ([.int p1, .int p2, .int p3]) (n := 4) (Nat.le_of_ble_eq_true rfl)
  rw [lg_entry_eq]
  generalize (lg_sl ([.int p1, .int p2, .int p3]) ++ List.replicate (4 - (lg_sl ([.int p1, .int p2, .int p3])).length) Slot.unset).toArray = ls at hl ⊢
  have hl : lv_has ls 4 [(0, .int p1), (1, .int p2), (2, .int p3)] := hl
  unfold wp_J8_newLength_cabcc at h
  refine lv_iload_n hx hb dJ8_newLength_cabcc_0 rfl (lv_at hl 0 rfl) ?_
  refine lv_iload_n hx hb dJ8_newLength_cabcc_1 rfl (lv_at hl 1 rfl) ?_
  refine lv_iload_n hx hb dJ8_newLength_cabcc_2 rfl (lv_at hl 2 rfl) ?_
  refine va_mmax hx hb (by rw [hml]; exact hl.1.symm) hown k194 kstva_mmax kini kcova_mmax (Nat.le_of_ble_eq_true rfl) (Nat.le_of_ble_eq_true rfl) (Nat.le_of_ble_eq_true rfl) (Nat.le_of_ble_eq_true rfl) dJ8_newLength_cabcc_3 ?_
  have h := h _ rfl
  generalize (if p2 < p3 then p3 else p2) = v1 at h ⊢
  refine fx_iadd hx hb h dJ8_newLength_cabcc_6 (fun v2 h => ?_)
  refine lv_istore_n (lv' := [(3, .int v2), (0, .int p1), (1, .int p2), (2, .int p3)]) hx hb dJ8_newLength_cabcc_7 rfl hl (by decide) rfl (fun ls hl => ?_)
  refine lv_iconst (v := (nI 0)) hx hb dJ8_newLength_cabcc_8 (by decide) ?_
  refine lv_iload_n hx hb dJ8_newLength_cabcc_9 rfl (lv_at hl 0 rfl) ?_
  refine fx_icmp_ge (tgt := 21) hx hb h dJ8_newLength_cabcc_10 (by decide) (fun h => ?_) (fun h => ?_)
  · refine lv_iload_n hx hb dJ8_newLength_cabcc_21 rfl (lv_at hl 1 rfl) ?_
    refine lv_iload_n hx hb dJ8_newLength_cabcc_22 rfl (lv_at hl 2 rfl) ?_
    exact h.elim
  refine lv_iload_n hx hb dJ8_newLength_cabcc_13 rfl (lv_at hl 0 rfl) ?_
  refine lv_ldc (v := (nI 2147483639)) hx hb hown k200 dJ8_newLength_cabcc_14 ?_
  refine fx_icmp_gt (tgt := 21) hx hb h dJ8_newLength_cabcc_16 (by decide) (fun h => ?_) (fun h => ?_)
  · refine lv_iload_n hx hb dJ8_newLength_cabcc_21 rfl (lv_at hl 1 rfl) ?_
    refine lv_iload_n hx hb dJ8_newLength_cabcc_22 rfl (lv_at hl 2 rfl) ?_
    exact h.elim
  refine lv_iload_n hx hb dJ8_newLength_cabcc_19 rfl (lv_at hl 0 rfl) ?_
  exact W.iret (v := v2) hx hb hr  (fun t ht hW => ⟨_, rfl, h, ht⟩) (fun q hq => by cases hq) dJ8_newLength_cabcc_20

/-- J5_newCapacity_0f7a4: its walk -/
def wp_J5_newCapacity_0f7a4 (post : Int32 → Prop) (n_o_value : Nat) (p1 : Int32) : Prop :=
  fx_nm (p1 <<< ((nI 0) &&& 31)) (fun v1 => fx_nm (v1 - (nI n_o_value)) (fun v2 => fx_nm ((nI 2) <<< ((nI 0) &&& 31)) (fun v3 => fx_nm ((nI n_o_value) + v3) (fun v4 => wp_J8_newLength_cabcc (fun r5 => fx_br (r5 = (nI 2147483647)) (False) (fx_nm (r5 >>> ((nI 0) &&& 31)) (fun v6 => post v6))) (nI n_o_value) v2 v4))))
theorem im_J5_newCapacity_0f7a4_J4 : ∀ w ∈ u_ws RJ4 TJ4 4, w ∈ wsJ5_newCapacity_0f7a4 := by decide +kernel
set_option maxHeartbeats 4000000 in
set_option maxRecDepth 100000 in
theorem cw_J5_newCapacity_0f7a4 (l : Launch) (X : fx_X) (a_o : Nat) (s_o_maybeLatin1 : Int32) (s_o_count : Int32) (a_o_value : Nat) (n_o_value : Nat) (f_o_value : Nat → Int32) (p1 : Int32) (post : Int32 → Prop) (h : wp_J5_newCapacity_0f7a4 post n_o_value p1) : Met l yJ5_newCapacity_0f7a4 wsJ5_newCapacity_0f7a4 ({ frames := 2, cells := 0, slots := 0, locals := 44 }) (va_Pc [.ref a_o, .int p1] (fx_PP X [(a_o, .inr (0, [.ref a_o_value, .int (nI 0), .int s_o_maybeLatin1, .int s_o_count])), (a_o_value, .inl (fx_cB X, n_o_value, .inl f_o_value))])) (vp_Si post) 0 0 (fun _ => False) := by
  refine Met.ofW (cc := cJ5_newCapacity_0f7a4) (maxL := 6) (ret := (some .int)) (by decide) rfl ?_
  intro p e s m args below meth c s₁ B hml hv
  obtain ⟨rfl, hP, hK, hG⟩ := hv
  have hx := B.exec
  have hb := B.bytes
  have hr := B.returns
  have hts := atoms_spec (ws := wsJ5_newCapacity_0f7a4) B.pre
  have hown : s.vm.findClass RJ5 = some m.cls := findClass_of_methodNamed B.named
  have hlocks := B.notSynchronized
  have hS : va_S (fun _ => False) s.heap s.heap [] := va_S.rf
  have k39 := hts (.constant RJ5 39 (2147483647)) (by decide +kernel)
  have k22 := hts (.fieldLink RJ5 22 "java/lang/AbstractStringBuilder" "coder" "B") (by decide +kernel)
  have k15 := hts (.fieldLink RJ5 15 "java/lang/AbstractStringBuilder" "value" "[B") (by decide +kernel)
  have hl := lv_entry ([.ref a_o, .int p1]) (n := 6) (Nat.le_of_ble_eq_true rfl)
  rw [lg_entry_eq]
  generalize (lg_sl ([.ref a_o, .int p1]) ++ List.replicate (6 - (lg_sl ([.ref a_o, .int p1])).length) Slot.unset).toArray = ls at hl ⊢
  have hl : lv_has ls 6 [(0, .ref a_o), (1, .int p1)] := hl
  unfold wp_J5_newCapacity_0f7a4 at h
  refine lv_aload_n hx hb dJ5_newCapacity_0f7a4_0 rfl (lv_at hl 0 rfl) ?_
  refine va_get (D := fx_D X) (ci := 0) (v := .ref a_o_value) (C := RJ4) (T := TJ4) (N := 4) hx hb hts im_J5_newCapacity_0f7a4_J4 hown hK hP 0 rfl rfl 0 (by decide) k15 (fun _ h9 => h9) rfl dJ5_newCapacity_0f7a4_1 ?_
  refine va_alen (v := nI n_o_value) hx hb hK hP 1 3 rfl rfl rfl dJ5_newCapacity_0f7a4_4 ?_
  refine lv_istore_n (lv' := [(2, .int (nI n_o_value)), (0, .ref a_o), (1, .int p1)]) hx hb dJ5_newCapacity_0f7a4_5 rfl hl (by decide) rfl (fun ls hl => ?_)
  refine lv_iload_n hx hb dJ5_newCapacity_0f7a4_6 rfl (lv_at hl 2 rfl) ?_
  refine lv_aload_n hx hb dJ5_newCapacity_0f7a4_7 rfl (lv_at hl 1 rfl) ?_
  refine va_get (D := fx_D X) (ci := 0) (v := .int (nI 0)) (C := RJ4) (T := TJ4) (N := 4) hx hb hts im_J5_newCapacity_0f7a4_J4 hown hK hP 0 rfl rfl 1 (by decide) k22 (fun _ h9 => h9) rfl dJ5_newCapacity_0f7a4_8 ?_
  refine fx_ishl hx hb h dJ5_newCapacity_0f7a4_11 (fun v1 h => ?_)
  refine lv_istore_n (lv' := [(3, .int v1), (2, .int (nI n_o_value)), (0, .ref a_o), (1, .int p1)]) hx hb dJ5_newCapacity_0f7a4_12 rfl hl (by decide) rfl (fun ls hl => ?_)
  refine lv_iload_n hx hb dJ5_newCapacity_0f7a4_13 rfl (lv_at hl 0 rfl) ?_
  refine lv_iload_n hx hb dJ5_newCapacity_0f7a4_14 rfl (lv_at hl 1 rfl) ?_
  refine fx_isub hx hb h dJ5_newCapacity_0f7a4_15 (fun v2 h => ?_)
  refine lv_istore (lv' := [(4, .int v2), (3, .int v1), (2, .int (nI n_o_value)), (0, .ref a_o), (1, .int p1)]) hx hb dJ5_newCapacity_0f7a4_16 hl (by decide) rfl (fun ls hl => ?_)
  refine lv_iload_n hx hb dJ5_newCapacity_0f7a4_18 rfl (lv_at hl 2 rfl) ?_
  refine lv_iload hx hb dJ5_newCapacity_0f7a4_19 (lv_at hl 0 rfl) ?_
  refine lv_iload_n hx hb dJ5_newCapacity_0f7a4_21 rfl (lv_at hl 2 rfl) ?_
  refine lv_iconst (v := (nI 2)) hx hb dJ5_newCapacity_0f7a4_22 (by decide) ?_
  refine lv_aload_n hx hb dJ5_newCapacity_0f7a4_23 rfl (lv_at hl 3 rfl) ?_
  refine va_get (D := fx_D X) (ci := 0) (v := .int (nI 0)) (C := RJ4) (T := TJ4) (N := 4) hx hb hts im_J5_newCapacity_0f7a4_J4 hown hK hP 0 rfl rfl 1 (by decide) k22 (fun _ h9 => h9) rfl dJ5_newCapacity_0f7a4_24 ?_
  refine fx_ishl hx hb h dJ5_newCapacity_0f7a4_27 (fun v3 h => ?_)
  refine fx_iadd hx hb h dJ5_newCapacity_0f7a4_28 (fun v4 h => ?_)
  refine vp_callSi (W.runS (As := [.int (nI n_o_value), .int v2, .int v4]) (rest := []) ⟨hx, hb, hml, hown, hts⟩ (cw_J8_newLength_cabcc l X   (nI n_o_value) v2 v4 _ h) (va_cwS 3 hts gJ5_newCapacity_0f7a4_J8_newLength_cabcc rfl rfl rfl (by decide +kernel) ⟨Nat.le_of_ble_eq_true rfl, Nat.le_of_ble_eq_true rfl⟩) (fx_ps (wc := []) hP hK hG hS [] rfl) rfl rfl hl.1 rfl (lv_room (Nat.le_of_ble_eq_true rfl)) dJ5_newCapacity_0f7a4_29 ⟨Nat.le_of_ble_eq_true rfl, Nat.le_of_ble_eq_true rfl⟩) (fun r5 h => ?_)
  refine lv_istore (lv' := [(5, .int r5), (4, .int v2), (3, .int v1), (2, .int (nI n_o_value)), (0, .ref a_o), (1, .int p1)]) hx hb dJ5_newCapacity_0f7a4_32 hl (by decide) rfl (fun ls hl => ?_)
  refine lv_iload hx hb dJ5_newCapacity_0f7a4_34 (lv_at hl 0 rfl) ?_
  refine lv_ldc (v := (nI 2147483647)) hx hb hown k39 dJ5_newCapacity_0f7a4_36 ?_
  refine fx_icmp_ne (tgt := 51) hx hb h dJ5_newCapacity_0f7a4_38 (by decide) (fun h => ?_) (fun h => ?_)
  · refine lv_iload hx hb dJ5_newCapacity_0f7a4_51 (lv_at hl 0 rfl) ?_
    refine lv_aload_n hx hb dJ5_newCapacity_0f7a4_53 rfl (lv_at hl 4 rfl) ?_
    refine va_get (D := fx_D X) (ci := 0) (v := .int (nI 0)) (C := RJ4) (T := TJ4) (N := 4) hx hb hts im_J5_newCapacity_0f7a4_J4 hown hK hP 0 rfl rfl 1 (by decide) k22 (fun _ h9 => h9) rfl dJ5_newCapacity_0f7a4_54 ?_
    refine fx_ishr hx hb h dJ5_newCapacity_0f7a4_57 (fun v6 h => ?_)
    exact W.iret (v := v6) hx hb hr  (fun t ht hW => ⟨_, rfl, h, ht⟩) (fun q hq => by cases hq) dJ5_newCapacity_0f7a4_58
  exact h.elim

/-- J5_ensureCapacityInternal_d00df: its walk -/
def wp_J5_ensureCapacityInternal_d00df (post : Nat → (Nat → Int32) → Prop) (mc ms : Nat) (n_o_value : Nat) (f_o_value : Nat → Int32) (p1 : Int32) : Prop :=
  fx_nm ((nI n_o_value) >>> ((nI 0) &&& 31)) (fun v1 => fx_nm (p1 - v1) (fun v2 => fx_br (v2 ≤ 0) (post n_o_value f_o_value) (wp_J5_newCapacity_0f7a4 (fun r3 => fx_nm (r3 <<< ((nI 0) &&& 31)) (fun v4 => fx_al 0 0 mc ms (fun a8 b9 => wp_J7_copyOf_9075b (fun n6 g7 => post n6 g7) a8 b9 n_o_value f_o_value v4))) n_o_value p1)))
theorem im_J5_ensureCapacityInternal_d00df_J4 : ∀ w ∈ u_ws RJ4 TJ4 4, w ∈ wsJ5_ensureCapacityInternal_d00df := by decide +kernel
set_option maxHeartbeats 4000000 in
set_option maxRecDepth 100000 in
theorem cw_J5_ensureCapacityInternal_d00df (l : Launch) (X : fx_X) (a_o : Nat) (s_o_maybeLatin1 : Int32) (s_o_count : Int32) (a_o_value : Nat) (n_o_value : Nat) (f_o_value : Nat → Int32) (sz : Nat) (mc ms : Nat) (p1 : Int32) (post : Nat → (Nat → Int32) → Prop) (h : wp_J5_ensureCapacityInternal_d00df post mc ms n_o_value f_o_value p1) : Met l yJ5_ensureCapacityInternal_d00df wsJ5_ensureCapacityInternal_d00df ({ frames := 3, cells := mc, slots := ms, locals := 82 }) (va_Pc [.ref a_o, .int p1] (fx_PW X [(a_o, .inr (0, [.ref a_o_value, .int (nI 0), .int s_o_maybeLatin1, .int s_o_count])), (a_o_value, .inl (fx_cB X, n_o_value, .inl f_o_value))] sz)) (va_Qv (fun (u : Nat × Nat × (Nat → Int32)) => post u.2.1 u.2.2) (fun (u : Nat × Nat × (Nat → Int32)) t => fx_EW X (va_A [(a_o, .inr (0, [.ref a_o_value, .int (nI 0), .int s_o_maybeLatin1, .int s_o_count])), (a_o_value, .inl (fx_cB X, n_o_value, .inl f_o_value))] sz) [(a_o, .inr (0, [.ref u.1, .int (nI 0), .int s_o_maybeLatin1, .int s_o_count])), (u.1, .inl (fx_cB X, u.2.1, .inl u.2.2))] t) (va_A [(a_o, .inr (0, [.ref a_o_value, .int (nI 0), .int s_o_maybeLatin1, .int s_o_count])), (a_o_value, .inl (fx_cB X, n_o_value, .inl f_o_value))] sz)) mc ms (va_A [(a_o, .inr (0, [.ref a_o_value, .int (nI 0), .int s_o_maybeLatin1, .int s_o_count])), (a_o_value, .inl (fx_cB X, n_o_value, .inl f_o_value))] sz) := by
  refine Met.ofW (cc := cJ5_ensureCapacityInternal_d00df) (maxL := 3) (ret := none) (by decide) rfl ?_
  intro p e s m args below meth c s₁ B hml hv
  obtain ⟨rfl, hsz, hP, hK, hD0, hG⟩ := hv
  have hx := B.exec
  have hb := B.bytes
  have hr := B.returns
  have hts := atoms_spec (ws := wsJ5_ensureCapacityInternal_d00df) B.pre
  have hown : s.vm.findClass RJ5 = some m.cls := findClass_of_methodNamed B.named
  have hlocks := B.notSynchronized
  subst hsz
  have hD := hD0.self (sz := s.heap.size)
  generalize hAe : va_A [(a_o, .inr (0, [.ref a_o_value, .int (nI 0), .int s_o_maybeLatin1, .int s_o_count])), (a_o_value, .inl (fx_cB X, n_o_value, .inl f_o_value))] s.heap.size = A at hD hG ⊢
  have hA : ∀ q : Nat, s.heap.size ≤ q → A q := fun q h => by rw [← hAe]; exact Or.inr h
  have hS : va_S A s.heap s.heap [] := va_S.rf
  have hce : 0 ≤ mc := Nat.zero_le _
  have hsl : 0 ≤ ms := Nat.zero_le _
  have k15 := hts (.fieldLink RJ5 15 "java/lang/AbstractStringBuilder" "value" "[B") (by decide +kernel)
  have k22 := hts (.fieldLink RJ5 22 "java/lang/AbstractStringBuilder" "coder" "B") (by decide +kernel)
  have hl := lv_entry ([.ref a_o, .int p1]) (n := 3) (Nat.le_of_ble_eq_true rfl)
  rw [lg_entry_eq]
  generalize (lg_sl ([.ref a_o, .int p1]) ++ List.replicate (3 - (lg_sl ([.ref a_o, .int p1])).length) Slot.unset).toArray = ls at hl ⊢
  have hl : lv_has ls 3 [(0, .ref a_o), (1, .int p1)] := hl
  unfold wp_J5_ensureCapacityInternal_d00df at h
  refine lv_aload_n hx hb dJ5_ensureCapacityInternal_d00df_0 rfl (lv_at hl 0 rfl) ?_
  refine va_get (D := fx_D X) (ci := 0) (v := .ref a_o_value) (C := RJ4) (T := TJ4) (N := 4) hx hb hts im_J5_ensureCapacityInternal_d00df_J4 hown hK hP 0 rfl rfl 0 (by decide) k15 (fun _ h9 => h9) rfl dJ5_ensureCapacityInternal_d00df_1 ?_
  refine va_alen (v := nI n_o_value) hx hb hK hP 1 3 rfl rfl rfl dJ5_ensureCapacityInternal_d00df_4 ?_
  refine lv_aload_n hx hb dJ5_ensureCapacityInternal_d00df_5 rfl (lv_at hl 0 rfl) ?_
  refine va_get (D := fx_D X) (ci := 0) (v := .int (nI 0)) (C := RJ4) (T := TJ4) (N := 4) hx hb hts im_J5_ensureCapacityInternal_d00df_J4 hown hK hP 0 rfl rfl 1 (by decide) k22 (fun _ h9 => h9) rfl dJ5_ensureCapacityInternal_d00df_6 ?_
  refine fx_ishr hx hb h dJ5_ensureCapacityInternal_d00df_9 (fun v1 h => ?_)
  refine lv_istore_n (lv' := [(2, .int v1), (0, .ref a_o), (1, .int p1)]) hx hb dJ5_ensureCapacityInternal_d00df_10 rfl hl (by decide) rfl (fun ls hl => ?_)
  refine lv_iload_n hx hb dJ5_ensureCapacityInternal_d00df_11 rfl (lv_at hl 2 rfl) ?_
  refine lv_iload_n hx hb dJ5_ensureCapacityInternal_d00df_12 rfl (lv_at hl 0 rfl) ?_
  refine fx_isub hx hb h dJ5_ensureCapacityInternal_d00df_13 (fun v2 h => ?_)
  refine fx_if_le (tgt := 38) hx hb h dJ5_ensureCapacityInternal_d00df_14 (by decide) (fun h => ?_) (fun h => ?_)
  · refine W.widen (k := mc) (n := ms) hce hsl ?_
    exact W.vret hx hb hr (fun t ht hW => ⟨⟨(a_o_value, n_o_value, f_o_value), rfl, h, by rw [ht]; exact hP, va_K.moved hW.alike hK, hD⟩, hS.F ht⟩) hS.2.2 dJ5_ensureCapacityInternal_d00df_38
  refine lv_aload_n hx hb dJ5_ensureCapacityInternal_d00df_17 rfl (lv_at hl 1 rfl) ?_
  refine lv_aload_n hx hb dJ5_ensureCapacityInternal_d00df_18 rfl (lv_at hl 1 rfl) ?_
  refine va_get (D := fx_D X) (ci := 0) (v := .ref a_o_value) (C := RJ4) (T := TJ4) (N := 4) hx hb hts im_J5_ensureCapacityInternal_d00df_J4 hown hK hP 0 rfl rfl 0 (by decide) k15 (fun _ h9 => h9) rfl dJ5_ensureCapacityInternal_d00df_19 ?_
  refine lv_aload_n hx hb dJ5_ensureCapacityInternal_d00df_22 rfl (lv_at hl 1 rfl) ?_
  refine lv_iload_n hx hb dJ5_ensureCapacityInternal_d00df_23 rfl (lv_at hl 2 rfl) ?_
  refine vp_callSi ((va_runU (As := [.int p1]) (rest := [.ref a_o_value, .ref a_o])  ⟨hx, hb, hml, hown, hts⟩ (cw_J5_newCapacity_0f7a4 l X a_o s_o_maybeLatin1 s_o_count a_o_value n_o_value f_o_value p1 _ h) (va_cwU 1 hts gJ5_ensureCapacityInternal_d00df_J5_newCapacity_0f7a4_u104J4 rfl rfl rfl rfl (by decide +kernel) ⟨Nat.le_of_ble_eq_true rfl, Nat.le_of_ble_eq_true rfl⟩) (fx_pv hP hK hG hS (va_recv hK hP (ci := 0) (q0 := 0) rfl rfl) [0, 1] rfl) rfl rfl hl.1 rfl (lv_room (Nat.le_of_ble_eq_true rfl)) dJ5_ensureCapacityInternal_d00df_24 ⟨hce, hsl⟩).run) (fun r3 h => ?_)
  refine lv_aload_n hx hb dJ5_ensureCapacityInternal_d00df_27 rfl (lv_at hl 1 rfl) ?_
  refine va_get (D := fx_D X) (ci := 0) (v := .int (nI 0)) (C := RJ4) (T := TJ4) (N := 4) hx hb hts im_J5_ensureCapacityInternal_d00df_J4 hown hK hP 0 rfl rfl 1 (by decide) k22 (fun _ h9 => h9) rfl dJ5_ensureCapacityInternal_d00df_28 ?_
  refine fx_ishl hx hb h dJ5_ensureCapacityInternal_d00df_31 (fun v4 h => ?_)
  obtain ⟨a8, b9, hce, hsl, h⟩ := h
  have hFc := va_free (wc := [(a_o_value, .inl (fx_cB X, n_o_value, .inl f_o_value))]) hD hS hA [1] rfl
  refine va_callr (va_runS (As := [.ref a_o_value, .int v4]) (rest := [.ref a_o]) ⟨hx, hb, hml, hown, hts⟩ (cw_J7_copyOf_9075b l X a_o_value n_o_value f_o_value _ a8 b9 v4 _ h) (va_cwS 2 hts gJ5_ensureCapacityInternal_d00df_J7_copyOf_9075b rfl rfl rfl (by decide +kernel) ⟨Nat.le_of_ble_eq_true rfl, Nat.le_of_ble_eq_true rfl⟩) (fx_psW hP hD hK hG hS hFc [1] (by decide) rfl) rfl rfl hl.1 rfl (lv_room (Nat.le_of_ble_eq_true rfl)) dJ5_ensureCapacityInternal_d00df_32 ⟨hce, hsl⟩) hS (fun q _ h => hFc q h) hFc (fun u q5 t H locs ht hvm h hB _ hk hS => ?_)
  obtain ⟨n6, g7⟩ := u
  dsimp only at h
  obtain ⟨hP, hD⟩ := fx_back (wr := [(a_o, .inr (0, [.ref a_o_value, .int (nI 0), .int s_o_maybeLatin1, .int s_o_count]))]) (ws' := [(a_o, .inr (0, [.ref a_o_value, .int (nI 0), .int s_o_maybeLatin1, .int s_o_count])), (a_o_value, .inl (fx_cB X, n_o_value, .inl f_o_value)), (q5, .inl (fx_cB X, n6, .inl g7))]) hP hD [1] [0] rfl rfl (by decide) (by decide) hk hFc hB ht [0, 1, 2] (by decide) rfl
  refine va_put (D := fx_D X) (ci := 0) (v := .ref q5) (ty := .array .byte) (C := RJ4) (T := TJ4) (N := 4) hx hb hts im_J5_ensureCapacityInternal_d00df_J4 tyJ4 tyJ4_ok nmJ4 hown hK hP hD hS 0 rfl rfl 0 (by decide) k15 (fun _ h9 => h9) rfl (by decide +kernel) rfl rfl (Nat.le_of_ble_eq_true rfl) dJ5_ensureCapacityInternal_d00df_35 (fun H locs hP hD hS => ?_)
  have hP := va_P.sub (ws' := [(a_o, .inr (0, [.ref q5, .int (nI 0), .int s_o_maybeLatin1, .int s_o_count])), (q5, .inl (fx_cB X, n6, .inl g7))]) hP [0, 2] rfl
  have hD := va_D.sub (ws' := [(a_o, .inr (0, [.ref q5, .int (nI 0), .int s_o_maybeLatin1, .int s_o_count])), (q5, .inl (fx_cB X, n6, .inl g7))]) hD [0, 2] (by decide) rfl
  refine W.widen (k := mc) (n := ms) hce hsl ?_
  exact W.vret hx hb hr (fun t ht hW => ⟨⟨(q5, n6, g7), rfl, h, by rw [ht]; exact hP, va_K.moved hW.alike hK, hD⟩, hS.F ht⟩) hS.2.2 dJ5_ensureCapacityInternal_d00df_38

/-- J6_stringSize_0f7a4: its walk -/
def wp_J6_stringSize_0f7a4 (post : Int32 → Prop) (p1 : Int32) : Prop :=
  fx_jn2 (fun (x1 : Int32) (x2 : Int32) => fx_wh2 (fun (rec6 : Int32 → Int32 → Prop) (x4 : Int32) (x5 : Int32) => fx_br ((nI 10) ≤ x4) (fx_nm ((nI 10) + x1) (fun v7 => post v7)) (fx_br (x2 ≤ x5) (fx_nm ((nI 10) * x5) (fun v8 => fx_nm (x4 + (nI 1)) (fun v9 => rec6 v9 v8))) (fx_nm (x4 + x1) (fun v10 => post v10)))) (nI 1) (-10)) (fun K3 => fx_br (p1 < 0) (K3 (nI 1) p1) (fx_nm (-p1) (fun v11 => K3 (nI 0) v11)))
set_option maxHeartbeats 4000000 in
set_option maxRecDepth 100000 in
theorem cw_J6_stringSize_0f7a4 (l : Launch) (X : fx_X)   (p1 : Int32) (post : Int32 → Prop) (h : wp_J6_stringSize_0f7a4 post p1) : Met l yJ6_stringSize_0f7a4 wsJ6_stringSize_0f7a4 ({ frames := 0, cells := 0, slots := 0, locals := 0 }) (va_Pc [.int p1] (fx_PP X [])) (vp_Si post) 0 0 (fun _ => False) := by
  refine Met.ofW (cc := cJ6_stringSize_0f7a4) (maxL := 4) (ret := (some .int)) (by decide) rfl ?_
  intro p e s m args below meth c s₁ B hml hv
  obtain ⟨rfl, hP, hK, hG⟩ := hv
  have hx := B.exec
  have hb := B.bytes
  have hr := B.returns
  have hts := atoms_spec (ws := wsJ6_stringSize_0f7a4) B.pre
  have hown : s.vm.findClass RJ6 = some m.cls := findClass_of_methodNamed B.named
  have hlocks := B.notSynchronized
  have hS : va_S (fun _ => False) s.heap s.heap [] := va_S.rf
  have hl := lv_entry ([.int p1]) (n := 4) (Nat.le_of_ble_eq_true rfl)
  rw [lg_entry_eq]
  generalize (lg_sl ([.int p1]) ++ List.replicate (4 - (lg_sl ([.int p1])).length) Slot.unset).toArray = ls at hl ⊢
  have hl : lv_has ls 4 [(0, .int p1)] := hl
  unfold wp_J6_stringSize_0f7a4 at h
  refine lv_iconst (v := (nI 1)) hx hb dJ6_stringSize_0f7a4_0 (by decide) ?_
  refine lv_istore_n (lv' := [(1, .int (nI 1)), (0, .int p1)]) hx hb dJ6_stringSize_0f7a4_1 rfl hl (by decide) rfl (fun ls hl => ?_)
  refine lv_iload_n hx hb dJ6_stringSize_0f7a4_2 rfl (lv_at hl 1 rfl) ?_
  refine fx_join2 (G := fun (x1 : Int32) (x2 : Int32) (R : Room) (av : Array Value) (Q : State → Prop) => ∀ (ls : Array Slot), lv_has ls 4 [(1, .int x1), (0, .int x2)] → W p l e R s m av below meth c s.heap [] 0 0 Q (F0 m 11 ls [])) h (fun x1 x2 h => ?_) (fun K3 hK3 h => ?_)
  · intro ls hl
    refine lv_bipush (v := (-10)) hx hb dJ6_stringSize_0f7a4_11 (by decide) ?_
    refine lv_istore_n (lv' := [(2, .int (-10)), (1, .int x1), (0, .int x2)]) hx hb dJ6_stringSize_0f7a4_13 rfl hl (by decide) rfl (fun ls hl => ?_)
    refine lv_iconst (v := (nI 1)) hx hb dJ6_stringSize_0f7a4_14 (by decide) ?_
    refine lv_istore_n (lv' := [(3, .int (nI 1)), (2, .int (-10)), (1, .int x1), (0, .int x2)]) hx hb dJ6_stringSize_0f7a4_15 rfl hl (by decide) rfl (fun ls hl => ?_)
    refine fx_loop2 (G := fun (x4 : Int32) (x5 : Int32) => ∀ (ls : Array Slot), lv_has ls 4 [(3, .int x4), (2, .int x5), (1, .int x1), (0, .int x2)] → W p l e _ s m _ below meth c s.heap [] _ _ _ (F0 m 16 ls [])) (fun rec6 hrec6 x4 x5 h => ?_) h _ (lv_sub hl [0, 1, 2, 3] rfl)
    intro ls hl
    refine lv_iload_n hx hb dJ6_stringSize_0f7a4_16 rfl (lv_at hl 0 rfl) ?_
    refine lv_bipush (v := (nI 10)) hx hb dJ6_stringSize_0f7a4_17 (by decide) ?_
    refine fx_icmp_ge (tgt := 42) hx hb h dJ6_stringSize_0f7a4_19 (by decide) (fun h => ?_) (fun h => ?_)
    · refine lv_bipush (v := (nI 10)) hx hb dJ6_stringSize_0f7a4_42 (by decide) ?_
      refine lv_iload_n hx hb dJ6_stringSize_0f7a4_44 rfl (lv_at hl 2 rfl) ?_
      refine fx_iadd hx hb h dJ6_stringSize_0f7a4_45 (fun v7 h => ?_)
      exact W.iret (v := v7) hx hb hr  (fun t ht hW => ⟨_, rfl, h, ht⟩) (fun q hq => by cases hq) dJ6_stringSize_0f7a4_46
    refine lv_iload_n hx hb dJ6_stringSize_0f7a4_22 rfl (lv_at hl 3 rfl) ?_
    refine lv_iload_n hx hb dJ6_stringSize_0f7a4_23 rfl (lv_at hl 1 rfl) ?_
    refine fx_icmp_le (tgt := 31) hx hb h dJ6_stringSize_0f7a4_24 (by decide) (fun h => ?_) (fun h => ?_)
    · refine lv_bipush (v := (nI 10)) hx hb dJ6_stringSize_0f7a4_31 (by decide) ?_
      refine lv_iload_n hx hb dJ6_stringSize_0f7a4_33 rfl (lv_at hl 1 rfl) ?_
      refine fx_imul hx hb h dJ6_stringSize_0f7a4_34 (fun v8 h => ?_)
      refine lv_istore_n (lv' := [(2, .int v8), (3, .int x4), (1, .int x1), (0, .int x2)]) hx hb dJ6_stringSize_0f7a4_35 rfl hl (by decide) rfl (fun ls hl => ?_)
      refine fx_iinc (y := (nI 1)) hx hb h dJ6_stringSize_0f7a4_36 (by decide) (fun v9 => [(3, .int v9), (2, .int v8), (1, .int x1), (0, .int x2)]) hl 1 rfl (by decide) (fun _ => rfl) (fun v9 ls h hl => ?_)
      refine lv_goto (tgt := 16) hx hb dJ6_stringSize_0f7a4_39 (by decide) ?_
      exact hrec6 _ _ h _ (lv_sub hl [0, 1, 2, 3] rfl)
    refine lv_iload_n hx hb dJ6_stringSize_0f7a4_27 rfl (lv_at hl 0 rfl) ?_
    refine lv_iload_n hx hb dJ6_stringSize_0f7a4_28 rfl (lv_at hl 2 rfl) ?_
    refine fx_iadd hx hb h dJ6_stringSize_0f7a4_29 (fun v10 h => ?_)
    exact W.iret (v := v10) hx hb hr  (fun t ht hW => ⟨_, rfl, h, ht⟩) (fun q hq => by cases hq) dJ6_stringSize_0f7a4_30
  refine fx_if_lt (tgt := 11) hx hb h dJ6_stringSize_0f7a4_3 (by decide) (fun h => ?_) (fun h => ?_)
  · exact hK3 _ _ h _ (lv_sub hl [0, 1] rfl)
  refine lv_iconst (v := (nI 0)) hx hb dJ6_stringSize_0f7a4_6 (by decide) ?_
  refine lv_istore_n (lv' := [(1, .int (nI 0)), (0, .int p1)]) hx hb dJ6_stringSize_0f7a4_7 rfl hl (by decide) rfl (fun ls hl => ?_)
  refine lv_iload_n hx hb dJ6_stringSize_0f7a4_8 rfl (lv_at hl 1 rfl) ?_
  refine fx_ineg hx hb h dJ6_stringSize_0f7a4_9 (fun v11 h => ?_)
  refine lv_istore_n (lv' := [(0, .int v11), (1, .int (nI 0))]) hx hb dJ6_stringSize_0f7a4_10 rfl hl (by decide) rfl (fun ls hl => ?_)
  exact hK3 _ _ h _ (lv_sub hl [1, 0] rfl)

/-- J6_getChars_ba4f3: its walk -/
def wp_J6_getChars_ba4f3 (post : Int32 → (Nat → Int32) → Prop) (n_p3 : Nat) (f_p3 : Nat → Int32) (p1 : Int32) (p2 : Int32) : Prop :=
  fx_jn1 (fun (x1 : Int32) => fx_jn1 (fun (x3 : Int32) => fx_wh3 (fun (rec8 : Int32 → Int32 → (Nat → Int32) → Prop) (x5 : Int32) (x6 : Int32) (y7 : Nat → Int32) => fx_br ((-100) < x6) (fx_nm (x5 + (-1)) (fun v9 => fx_nm (-x6) (fun v10 => fx_ix v10 100 (fun k12 => fx_nm (nI (48 + k12 % 10)) (fun v11 => fx_ix v9 n_p3 (fun k26 => fx_nm (upd y7 k26 (vp_nar .byte v11)) (fun g13 => fx_jn2 (fun (x14 : Int32) (y15 : Nat → Int32) => fx_br (x1 = 0) (post x14 y15) (fx_nm (x14 + (-1)) (fun v17 => fx_ix v17 n_p3 (fun k19 => fx_nm (upd y15 k19 (vp_nar .byte (nI 45))) (fun g18 => post v17 g18))))) (fun K16 => fx_br ((-9) ≤ x6) (K16 v9 g13) (fx_nm (v9 + (-1)) (fun v20 => fx_nm (-x6) (fun v21 => fx_ix v21 100 (fun k23 => fx_nm (nI (48 + k23 / 10)) (fun v22 => fx_ix v20 n_p3 (fun k25 => fx_nm (upd g13 k25 (vp_nar .byte v22)) (fun g24 => K16 v20 g24))))))))))))))) (fx_dv (nI 100) (fx_nm (x6 / (nI 100)) (fun v27 => fx_nm (v27 * (nI 100)) (fun v28 => fx_nm (v28 - x6) (fun v29 => fx_nm (x5 + (-1)) (fun v30 => fx_ix v29 100 (fun k32 => fx_nm (nI (48 + k32 % 10)) (fun v31 => fx_ix v30 n_p3 (fun k39 => fx_nm (upd y7 k39 (vp_nar .byte v31)) (fun g33 => fx_nm (v30 + (-1)) (fun v34 => fx_ix v29 100 (fun k36 => fx_nm (nI (48 + k36 / 10)) (fun v35 => fx_ix v34 n_p3 (fun k38 => fx_nm (upd g33 k38 (vp_nar .byte v35)) (fun g37 => rec8 v34 v27 g37)))))))))))))))) p2 x3 f_p3) (fun K4 => fx_br (x1 = 0) (fx_nm (-p1) (fun v40 => K4 v40)) (K4 p1))) (fun K2 => fx_br (0 ≤ p1) (K2 (nI 0)) (K2 (nI 1)))
set_option maxHeartbeats 4000000 in
set_option maxRecDepth 100000 in
theorem cw_J6_getChars_ba4f3 (l : Launch) (X : fx_X) (a_p3 : Nat) (n_p3 : Nat) (f_p3 : Nat → Int32) (sz : Nat) (p1 : Int32) (p2 : Int32) (post : Int32 → (Nat → Int32) → Prop) (h : wp_J6_getChars_ba4f3 post n_p3 f_p3 p1 p2) : Met l yJ6_getChars_ba4f3 wsJ6_getChars_ba4f3 ({ frames := 0, cells := 0, slots := 0, locals := 0 }) (va_Pc [.int p1, .int p2, .ref a_p3] (fx_PW X [(a_p3, .inl (fx_cB X, n_p3, .inl f_p3))] sz)) (va_Qi (fun r (u : (Nat → Int32)) => post r u) (fun (u : (Nat → Int32)) t => fx_EW X (va_A [(a_p3, .inl (fx_cB X, n_p3, .inl f_p3))] sz) [(a_p3, .inl (fx_cB X, n_p3, .inl u))] t) (va_A [(a_p3, .inl (fx_cB X, n_p3, .inl f_p3))] sz)) 0 0 (va_A [(a_p3, .inl (fx_cB X, n_p3, .inl f_p3))] sz) := by
  refine Met.ofW (cc := cJ6_getChars_ba4f3) (maxL := 7) (ret := (some .int)) (by decide) rfl ?_
  intro p e s m args below meth c s₁ B hml hv
  obtain ⟨rfl, hsz, hP, hK, hD0, hG⟩ := hv
  have hx := B.exec
  have hb := B.bytes
  have hr := B.returns
  have hts := atoms_spec (ws := wsJ6_getChars_ba4f3) B.pre
  have hown : s.vm.findClass RJ6 = some m.cls := findClass_of_methodNamed B.named
  have hlocks := B.notSynchronized
  subst hsz
  have hD := hD0.self (sz := s.heap.size)
  generalize hAe : va_A [(a_p3, .inl (fx_cB X, n_p3, .inl f_p3))] s.heap.size = A at hD hG ⊢
  have hA : ∀ q : Nat, s.heap.size ≤ q → A q := fun q h => by rw [← hAe]; exact Or.inr h
  have hS : va_S A s.heap s.heap [] := va_S.rf
  have k83 := hts (.fieldLink RJ6 83 "java/lang/Integer" "DigitOnes" "[B") (by decide +kernel)
  have k87 := hts (.fieldLink RJ6 87 "java/lang/Integer" "DigitTens" "[B") (by decide +kernel)
  have hl := lv_entry ([.int p1, .int p2, .ref a_p3]) (n := 7) (Nat.le_of_ble_eq_true rfl)
  rw [lg_entry_eq]
  generalize (lg_sl ([.int p1, .int p2, .ref a_p3]) ++ List.replicate (7 - (lg_sl ([.int p1, .int p2, .ref a_p3])).length) Slot.unset).toArray = ls at hl ⊢
  have hl : lv_has ls 7 [(0, .int p1), (1, .int p2), (2, .ref a_p3)] := hl
  unfold wp_J6_getChars_ba4f3 at h
  refine lv_iload_n hx hb dJ6_getChars_ba4f3_0 rfl (lv_at hl 1 rfl) ?_
  refine lv_istore (lv' := [(5, .int p2), (0, .int p1), (1, .int p2), (2, .ref a_p3)]) hx hb dJ6_getChars_ba4f3_1 hl (by decide) rfl (fun ls hl => ?_)
  refine lv_iload_n hx hb dJ6_getChars_ba4f3_3 rfl (lv_at hl 1 rfl) ?_
  refine fx_join1 (G := fun (x1 : Int32) (R : Room) (av : Array Value) (Q : State → Prop) => ∀ (H : Heap) (locs : List Loc) (ls : Array Slot), va_P (fx_D X) vwCl [(a_p3, .inl (fx_cB X, n_p3, .inl f_p3))] H → va_D A [(a_p3, .inl (fx_cB X, n_p3, .inl f_p3))] → va_S A s.heap H locs → lv_has ls 7 [(5, .int p2), (0, .int p1), (2, .ref a_p3)] → W p l e R s m av below meth c H locs 0 0 Q (F0 m 12 ls [.int x1])) h (fun x1 h => ?_) (fun K2 hK2 h => ?_)
  · intro H locs ls hP hD hS hl
    refine lv_istore (lv' := [(6, .int x1), (5, .int p2), (0, .int p1), (2, .ref a_p3)]) hx hb dJ6_getChars_ba4f3_12 hl (by decide) rfl (fun ls hl => ?_)
    refine lv_iload hx hb dJ6_getChars_ba4f3_14 (lv_at hl 0 rfl) ?_
    refine fx_join1 (G := fun (x3 : Int32) (R : Room) (av : Array Value) (Q : State → Prop) => ∀ (H : Heap) (locs : List Loc) (ls : Array Slot), va_P (fx_D X) vwCl [(a_p3, .inl (fx_cB X, n_p3, .inl f_p3))] H → va_D A [(a_p3, .inl (fx_cB X, n_p3, .inl f_p3))] → va_S A s.heap H locs → lv_has ls 7 [(6, .int x1), (5, .int p2), (0, .int x3), (2, .ref a_p3)] → W p l e R s m av below meth c H locs 0 0 Q (F0 m 22 ls [])) h (fun x3 h => ?_) (fun K4 hK4 h => ?_)
    · intro H locs ls hP hD hS hl
      refine fx_loop3 (G := fun (x5 : Int32) (x6 : Int32) (y7 : Nat → Int32) => ∀ (H : Heap) (locs : List Loc) (ls : Array Slot), va_P (fx_D X) vwCl [(a_p3, .inl (fx_cB X, n_p3, .inl y7))] H → va_D A [(a_p3, .inl (fx_cB X, n_p3, .inl y7))] → va_S A s.heap H locs → lv_has ls 7 [(6, .int x1), (5, .int x5), (0, .int x6), (2, .ref a_p3)] → W p l e _ s m _ below meth c H locs _ _ _ (F0 m 22 ls [])) (fun rec8 hrec8 x5 x6 y7 h => ?_) h _ _ _ hP hD hS (lv_sub hl [0, 1, 2, 3] rfl)
      intro H locs ls hP hD hS hl
      refine lv_iload_n hx hb dJ6_getChars_ba4f3_22 rfl (lv_at hl 2 rfl) ?_
      refine lv_bipush (v := (-100)) hx hb dJ6_getChars_ba4f3_23 (by decide) ?_
      refine fx_icmp_gt (tgt := 72) hx hb h dJ6_getChars_ba4f3_25 (by decide) (fun h => ?_) (fun h => ?_)
      · refine lv_aload_n hx hb dJ6_getChars_ba4f3_72 rfl (lv_at hl 3 rfl) ?_
        refine fx_iinc (y := (-1)) hx hb h dJ6_getChars_ba4f3_73 (by decide) (fun v9 => [(5, .int v9), (6, .int x1), (0, .int x6), (2, .ref a_p3)]) hl 1 rfl (by decide) (fun _ => rfl) (fun v9 ls h hl => ?_)
        refine lv_iload hx hb dJ6_getChars_ba4f3_76 (lv_at hl 0 rfl) ?_
        refine va_gets (v := .ref (fx_t1 X)) hx hb hG.dz1 hS hown k83 (fun _ h9 => h9) dJ6_getChars_ba4f3_78 ?_
        refine lv_iload_n hx hb dJ6_getChars_ba4f3_81 rfl (lv_at hl 2 rfl) ?_
        refine fx_ineg hx hb h dJ6_getChars_ba4f3_82 (fun v10 h => ?_)
        refine fx_stb hx hb hG.dt1 hS h dJ6_getChars_ba4f3_83 (fun v11 h => ?_)
        refine fx_bast hx hb hK hP hD hS 0 3 rfl rfl h dJ6_getChars_ba4f3_84 (fun g13 => [(a_p3, .inl (fx_cB X, n_p3, .inl g13))]) (fun _ => rfl) (fun H locs g13 h hP hD hS => ?_)
        refine lv_iload_n hx hb dJ6_getChars_ba4f3_85 rfl (lv_at hl 2 rfl) ?_
        refine lv_bipush (v := (-9)) hx hb dJ6_getChars_ba4f3_86 (by decide) ?_
        refine fx_join2 (G := fun (x14 : Int32) (y15 : Nat → Int32) (R : Room) (av : Array Value) (Q : State → Prop) => ∀ (H : Heap) (locs : List Loc) (ls : Array Slot), va_P (fx_D X) vwCl [(a_p3, .inl (fx_cB X, n_p3, .inl y15))] H → va_D A [(a_p3, .inl (fx_cB X, n_p3, .inl y15))] → va_S A s.heap H locs → lv_has ls 7 [(5, .int x14), (6, .int x1), (2, .ref a_p3)] → W p l e R s m av below meth c H locs 0 0 Q (F0 m 104 ls [])) h (fun x14 y15 h => ?_) (fun K16 hK16 h => ?_)
        · intro H locs ls hP hD hS hl
          refine lv_iload hx hb dJ6_getChars_ba4f3_104 (lv_at hl 1 rfl) ?_
          refine fx_if_eq (tgt := 118) hx hb h dJ6_getChars_ba4f3_106 (by decide) (fun h => ?_) (fun h => ?_)
          · refine lv_iload hx hb dJ6_getChars_ba4f3_118 (lv_at hl 0 rfl) ?_
            exact W.iret (v := x14) hx hb hr  (fun t ht hW => ⟨⟨x14, y15, rfl, h, by rw [ht]; exact hP, va_K.moved hW.alike hK, hD⟩, hS.F ht⟩) hS.2.2 dJ6_getChars_ba4f3_120
          refine lv_aload_n hx hb dJ6_getChars_ba4f3_109 rfl (lv_at hl 2 rfl) ?_
          refine fx_iinc (y := (-1)) hx hb h dJ6_getChars_ba4f3_110 (by decide) (fun v17 => [(5, .int v17), (6, .int x1), (2, .ref a_p3)]) hl 0 rfl (by decide) (fun _ => rfl) (fun v17 ls h hl => ?_)
          refine lv_iload hx hb dJ6_getChars_ba4f3_113 (lv_at hl 0 rfl) ?_
          refine lv_bipush (v := (nI 45)) hx hb dJ6_getChars_ba4f3_115 (by decide) ?_
          refine fx_bast hx hb hK hP hD hS 0 3 rfl rfl h dJ6_getChars_ba4f3_117 (fun g18 => [(a_p3, .inl (fx_cB X, n_p3, .inl g18))]) (fun _ => rfl) (fun H locs g18 h hP hD hS => ?_)
          refine lv_iload hx hb dJ6_getChars_ba4f3_118 (lv_at hl 0 rfl) ?_
          exact W.iret (v := v17) hx hb hr  (fun t ht hW => ⟨⟨v17, g18, rfl, h, by rw [ht]; exact hP, va_K.moved hW.alike hK, hD⟩, hS.F ht⟩) hS.2.2 dJ6_getChars_ba4f3_120
        refine fx_icmp_ge (tgt := 104) hx hb h dJ6_getChars_ba4f3_88 (by decide) (fun h => ?_) (fun h => ?_)
        · exact hK16 _ _ h _ _ _ hP hD hS (lv_sub hl [0, 1, 3] rfl)
        refine lv_aload_n hx hb dJ6_getChars_ba4f3_91 rfl (lv_at hl 3 rfl) ?_
        refine fx_iinc (y := (-1)) hx hb h dJ6_getChars_ba4f3_92 (by decide) (fun v20 => [(5, .int v20), (6, .int x1), (0, .int x6), (2, .ref a_p3)]) hl 0 rfl (by decide) (fun _ => rfl) (fun v20 ls h hl => ?_)
        refine lv_iload hx hb dJ6_getChars_ba4f3_95 (lv_at hl 0 rfl) ?_
        refine va_gets (v := .ref (fx_t2 X)) hx hb hG.dz2 hS hown k87 (fun _ h9 => h9) dJ6_getChars_ba4f3_97 ?_
        refine lv_iload_n hx hb dJ6_getChars_ba4f3_100 rfl (lv_at hl 2 rfl) ?_
        refine fx_ineg hx hb h dJ6_getChars_ba4f3_101 (fun v21 h => ?_)
        refine fx_stb hx hb hG.dt2 hS h dJ6_getChars_ba4f3_102 (fun v22 h => ?_)
        refine fx_bast hx hb hK hP hD hS 0 3 rfl rfl h dJ6_getChars_ba4f3_103 (fun g24 => [(a_p3, .inl (fx_cB X, n_p3, .inl g24))]) (fun _ => rfl) (fun H locs g24 h hP hD hS => ?_)
        exact hK16 _ _ h _ _ _ hP hD hS (lv_sub hl [0, 1, 3] rfl)
      refine lv_iload_n hx hb dJ6_getChars_ba4f3_28 rfl (lv_at hl 2 rfl) ?_
      refine lv_bipush (v := (nI 100)) hx hb dJ6_getChars_ba4f3_29 (by decide) ?_
      refine fx_idiv hx hb h dJ6_getChars_ba4f3_31 (fun v27 h => ?_)
      refine lv_istore_n (lv' := [(3, .int v27), (6, .int x1), (5, .int x5), (0, .int x6), (2, .ref a_p3)]) hx hb dJ6_getChars_ba4f3_32 rfl hl (by decide) rfl (fun ls hl => ?_)
      refine lv_iload_n hx hb dJ6_getChars_ba4f3_33 rfl (lv_at hl 0 rfl) ?_
      refine lv_bipush (v := (nI 100)) hx hb dJ6_getChars_ba4f3_34 (by decide) ?_
      refine fx_imul hx hb h dJ6_getChars_ba4f3_36 (fun v28 h => ?_)
      refine lv_iload_n hx hb dJ6_getChars_ba4f3_37 rfl (lv_at hl 3 rfl) ?_
      refine fx_isub hx hb h dJ6_getChars_ba4f3_38 (fun v29 h => ?_)
      refine lv_istore (lv' := [(4, .int v29), (3, .int v27), (6, .int x1), (5, .int x5), (0, .int x6), (2, .ref a_p3)]) hx hb dJ6_getChars_ba4f3_39 hl (by decide) rfl (fun ls hl => ?_)
      refine lv_iload_n hx hb dJ6_getChars_ba4f3_41 rfl (lv_at hl 1 rfl) ?_
      refine lv_istore_n (lv' := [(0, .int v27), (4, .int v29), (3, .int v27), (6, .int x1), (5, .int x5), (2, .ref a_p3)]) hx hb dJ6_getChars_ba4f3_42 rfl hl (by decide) rfl (fun ls hl => ?_)
      refine lv_aload_n hx hb dJ6_getChars_ba4f3_43 rfl (lv_at hl 5 rfl) ?_
      refine fx_iinc (y := (-1)) hx hb h dJ6_getChars_ba4f3_44 (by decide) (fun v30 => [(5, .int v30), (0, .int v27), (4, .int v29), (3, .int v27), (6, .int x1), (2, .ref a_p3)]) hl 4 rfl (by decide) (fun _ => rfl) (fun v30 ls h hl => ?_)
      refine lv_iload hx hb dJ6_getChars_ba4f3_47 (lv_at hl 0 rfl) ?_
      refine va_gets (v := .ref (fx_t1 X)) hx hb hG.dz1 hS hown k83 (fun _ h9 => h9) dJ6_getChars_ba4f3_49 ?_
      refine lv_iload hx hb dJ6_getChars_ba4f3_52 (lv_at hl 2 rfl) ?_
      refine fx_stb hx hb hG.dt1 hS h dJ6_getChars_ba4f3_54 (fun v31 h => ?_)
      refine fx_bast hx hb hK hP hD hS 0 3 rfl rfl h dJ6_getChars_ba4f3_55 (fun g33 => [(a_p3, .inl (fx_cB X, n_p3, .inl g33))]) (fun _ => rfl) (fun H locs g33 h hP hD hS => ?_)
      refine lv_aload_n hx hb dJ6_getChars_ba4f3_56 rfl (lv_at hl 5 rfl) ?_
      refine fx_iinc (y := (-1)) hx hb h dJ6_getChars_ba4f3_57 (by decide) (fun v34 => [(5, .int v34), (0, .int v27), (4, .int v29), (3, .int v27), (6, .int x1), (2, .ref a_p3)]) hl 0 rfl (by decide) (fun _ => rfl) (fun v34 ls h hl => ?_)
      refine lv_iload hx hb dJ6_getChars_ba4f3_60 (lv_at hl 0 rfl) ?_
      refine va_gets (v := .ref (fx_t2 X)) hx hb hG.dz2 hS hown k87 (fun _ h9 => h9) dJ6_getChars_ba4f3_62 ?_
      refine lv_iload hx hb dJ6_getChars_ba4f3_65 (lv_at hl 2 rfl) ?_
      refine fx_stb hx hb hG.dt2 hS h dJ6_getChars_ba4f3_67 (fun v35 h => ?_)
      refine fx_bast hx hb hK hP hD hS 0 3 rfl rfl h dJ6_getChars_ba4f3_68 (fun g37 => [(a_p3, .inl (fx_cB X, n_p3, .inl g37))]) (fun _ => rfl) (fun H locs g37 h hP hD hS => ?_)
      refine lv_goto (tgt := 22) hx hb dJ6_getChars_ba4f3_69 (by decide) ?_
      exact hrec8 _ _ _ h _ _ _ hP hD hS (lv_sub hl [4, 0, 1, 5] rfl)
    refine fx_if_ne (tgt := 22) hx hb h dJ6_getChars_ba4f3_16 (by decide) (fun h => ?_) (fun h => ?_)
    · exact hK4 _ h _ _ _ hP hD hS (lv_sub hl [0, 1, 2, 3] rfl)
    refine lv_iload_n hx hb dJ6_getChars_ba4f3_19 rfl (lv_at hl 2 rfl) ?_
    refine fx_ineg hx hb h dJ6_getChars_ba4f3_20 (fun v40 h => ?_)
    refine lv_istore_n (lv' := [(0, .int v40), (6, .int x1), (5, .int p2), (2, .ref a_p3)]) hx hb dJ6_getChars_ba4f3_21 rfl hl (by decide) rfl (fun ls hl => ?_)
    exact hK4 _ h _ _ _ hP hD hS (lv_sub hl [1, 2, 0, 3] rfl)
  refine fx_if_ge (tgt := 11) hx hb h dJ6_getChars_ba4f3_4 (by decide) (fun h => ?_) (fun h => ?_)
  · refine lv_iconst (v := (nI 0)) hx hb dJ6_getChars_ba4f3_11 (by decide) ?_
    exact hK2 _ h _ _ _ hP hD hS (lv_sub hl [0, 1, 3] rfl)
  refine lv_iconst (v := (nI 1)) hx hb dJ6_getChars_ba4f3_7 (by decide) ?_
  refine lv_goto (tgt := 12) hx hb dJ6_getChars_ba4f3_8 (by decide) ?_
  exact hK2 _ h _ _ _ hP hD hS (lv_sub hl [0, 1, 3] rfl)

/-- J5_isLatin1_aae02: its walk -/
def wp_J5_isLatin1_aae02 (post : Int32 → Prop)  : Prop :=
  post (nI 1)
theorem im_J5_isLatin1_aae02_J4 : ∀ w ∈ u_ws RJ4 TJ4 4, w ∈ wsJ5_isLatin1_aae02 := by decide +kernel
set_option maxHeartbeats 4000000 in
set_option maxRecDepth 100000 in
theorem cw_J5_isLatin1_aae02 (l : Launch) (X : fx_X) (a_o : Nat) (a_o_value : Nat) (s_o_maybeLatin1 : Int32) (s_o_count : Int32)  (post : Int32 → Prop) (h : wp_J5_isLatin1_aae02 post) : Met l yJ5_isLatin1_aae02 wsJ5_isLatin1_aae02 ({ frames := 0, cells := 0, slots := 0, locals := 0 }) (va_Pc [.ref a_o] (fx_PP X [(a_o, .inr (0, [.ref a_o_value, .int (nI 0), .int s_o_maybeLatin1, .int s_o_count]))])) (vp_Si post) 0 0 (fun _ => False) := by
  refine Met.ofW (cc := cJ5_isLatin1_aae02) (maxL := 1) (ret := (some .boolean)) (by decide) rfl ?_
  intro p e s m args below meth c s₁ B hml hv
  obtain ⟨rfl, hP, hK, hG⟩ := hv
  have hx := B.exec
  have hb := B.bytes
  have hr := B.returns
  have hts := atoms_spec (ws := wsJ5_isLatin1_aae02) B.pre
  have hown : s.vm.findClass RJ5 = some m.cls := findClass_of_methodNamed B.named
  have hlocks := B.notSynchronized
  have hS : va_S (fun _ => False) s.heap s.heap [] := va_S.rf
  have k18 := hts (.fieldLink RJ5 18 "java/lang/String" "COMPACT_STRINGS" "Z") (by decide +kernel)
  have k22 := hts (.fieldLink RJ5 22 "java/lang/AbstractStringBuilder" "coder" "B") (by decide +kernel)
  have hl := lv_entry ([.ref a_o]) (n := 1) (Nat.le_of_ble_eq_true rfl)
  rw [lg_entry_eq]
  generalize (lg_sl ([.ref a_o]) ++ List.replicate (1 - (lg_sl ([.ref a_o])).length) Slot.unset).toArray = ls at hl ⊢
  have hl : lv_has ls 1 [(0, .ref a_o)] := hl
  unfold wp_J5_isLatin1_aae02 at h
  refine va_gets (v := .int (nI 1)) hx hb hG.cs hS hown k18 (fun _ h9 => h9) dJ5_isLatin1_aae02_0 ?_
  refine lv_if_eq (tgt := 17) hx hb dJ5_isLatin1_aae02_3 (by decide) (fun q => absurd q (by decide)) (fun _ => ?_)
  refine lv_aload_n hx hb dJ5_isLatin1_aae02_6 rfl (lv_at hl 0 rfl) ?_
  refine va_get (D := fx_D X) (ci := 0) (v := .int (nI 0)) (C := RJ4) (T := TJ4) (N := 4) hx hb hts im_J5_isLatin1_aae02_J4 hown hK hP 0 rfl rfl 1 (by decide) k22 (fun _ h9 => h9) rfl dJ5_isLatin1_aae02_7 ?_
  refine lv_if_ne (tgt := 17) hx hb dJ5_isLatin1_aae02_10 (by decide) (fun q => absurd (by decide) q) (fun _ => ?_)
  refine lv_iconst (v := (nI 1)) hx hb dJ5_isLatin1_aae02_13 (by decide) ?_
  refine lv_goto (tgt := 18) hx hb dJ5_isLatin1_aae02_14 (by decide) ?_
  exact W.zret (v := (nI 1)) hx hb hr rfl (fun t ht hW => ⟨_, rfl, h, ht⟩) (fun q hq => by cases hq) dJ5_isLatin1_aae02_18

/-- J1_canEncode_fc78d: its walk -/
def wp_J1_canEncode_fc78d (post : Int32 → Prop) (p1 : Int32) : Prop :=
  fx_br ((nI 255) < p1) (post (nI 0)) (post (nI 1))
set_option maxHeartbeats 4000000 in
set_option maxRecDepth 100000 in
theorem cw_J1_canEncode_fc78d (l : Launch) (X : fx_X)   (p1 : Int32) (post : Int32 → Prop) (h : wp_J1_canEncode_fc78d post p1) : Met l yJ1_canEncode_fc78d wsJ1_canEncode_fc78d ({ frames := 0, cells := 0, slots := 0, locals := 0 }) (va_Pc [.int p1] (fx_PP X [])) (vp_Si post) 0 0 (fun _ => False) := by
  refine Met.ofW (cc := cJ1_canEncode_fc78d) (maxL := 1) (ret := (some .boolean)) (by decide) rfl ?_
  intro p e s m args below meth c s₁ B hml hv
  obtain ⟨rfl, hP, hK, hG⟩ := hv
  have hx := B.exec
  have hb := B.bytes
  have hr := B.returns
  have hts := atoms_spec (ws := wsJ1_canEncode_fc78d) B.pre
  have hown : s.vm.findClass RJ1 = some m.cls := findClass_of_methodNamed B.named
  have hlocks := B.notSynchronized
  have hS : va_S (fun _ => False) s.heap s.heap [] := va_S.rf
  have hl := lv_entry ([.int p1]) (n := 1) (Nat.le_of_ble_eq_true rfl)
  rw [lg_entry_eq]
  generalize (lg_sl ([.int p1]) ++ List.replicate (1 - (lg_sl ([.int p1])).length) Slot.unset).toArray = ls at hl ⊢
  have hl : lv_has ls 1 [(0, .int p1)] := hl
  unfold wp_J1_canEncode_fc78d at h
  refine lv_iload_n hx hb dJ1_canEncode_fc78d_0 rfl (lv_at hl 0 rfl) ?_
  refine lv_sipush (v := (nI 255)) hx hb dJ1_canEncode_fc78d_1 (by decide) ?_
  refine fx_icmp_gt (tgt := 11) hx hb h dJ1_canEncode_fc78d_4 (by decide) (fun h => ?_) (fun h => ?_)
  · refine lv_iconst (v := (nI 0)) hx hb dJ1_canEncode_fc78d_11 (by decide) ?_
    exact W.zret (v := (nI 0)) hx hb hr rfl (fun t ht hW => ⟨_, rfl, h, ht⟩) (fun q hq => by cases hq) dJ1_canEncode_fc78d_12
  refine lv_iconst (v := (nI 1)) hx hb dJ1_canEncode_fc78d_7 (by decide) ?_
  refine lv_goto (tgt := 12) hx hb dJ1_canEncode_fc78d_8 (by decide) ?_
  exact W.zret (v := (nI 1)) hx hb hr rfl (fun t ht hW => ⟨_, rfl, h, ht⟩) (fun q hq => by cases hq) dJ1_canEncode_fc78d_12

/-- J5_length_8abf5: its walk -/
def wp_J5_length_8abf5 (post : Int32 → Prop) (s_o_count : Int32) : Prop :=
  post s_o_count
theorem im_J5_length_8abf5_J4 : ∀ w ∈ u_ws RJ4 TJ4 4, w ∈ wsJ5_length_8abf5 := by decide +kernel
set_option maxHeartbeats 4000000 in
set_option maxRecDepth 100000 in
theorem cw_J5_length_8abf5 (l : Launch) (X : fx_X) (a_o : Nat) (a_o_value : Nat) (s_o_maybeLatin1 : Int32) (s_o_count : Int32)  (post : Int32 → Prop) (h : wp_J5_length_8abf5 post s_o_count) : Met l yJ5_length_8abf5 wsJ5_length_8abf5 ({ frames := 0, cells := 0, slots := 0, locals := 0 }) (va_Pc [.ref a_o] (fx_PP X [(a_o, .inr (0, [.ref a_o_value, .int (nI 0), .int s_o_maybeLatin1, .int s_o_count]))])) (vp_Si post) 0 0 (fun _ => False) := by
  refine Met.ofW (cc := cJ5_length_8abf5) (maxL := 1) (ret := (some .int)) (by decide) rfl ?_
  intro p e s m args below meth c s₁ B hml hv
  obtain ⟨rfl, hP, hK, hG⟩ := hv
  have hx := B.exec
  have hb := B.bytes
  have hr := B.returns
  have hts := atoms_spec (ws := wsJ5_length_8abf5) B.pre
  have hown : s.vm.findClass RJ5 = some m.cls := findClass_of_methodNamed B.named
  have hlocks := B.notSynchronized
  have hS : va_S (fun _ => False) s.heap s.heap [] := va_S.rf
  have k79 := hts (.fieldLink RJ5 79 "java/lang/AbstractStringBuilder" "count" "I") (by decide +kernel)
  have hl := lv_entry ([.ref a_o]) (n := 1) (Nat.le_of_ble_eq_true rfl)
  rw [lg_entry_eq]
  generalize (lg_sl ([.ref a_o]) ++ List.replicate (1 - (lg_sl ([.ref a_o])).length) Slot.unset).toArray = ls at hl ⊢
  have hl : lv_has ls 1 [(0, .ref a_o)] := hl
  unfold wp_J5_length_8abf5 at h
  refine lv_aload_n hx hb dJ5_length_8abf5_0 rfl (lv_at hl 0 rfl) ?_
  refine va_get (D := fx_D X) (ci := 0) (v := .int s_o_count) (C := RJ4) (T := TJ4) (N := 4) hx hb hts im_J5_length_8abf5_J4 hown hK hP 0 rfl rfl 3 (by decide) k79 (fun _ h9 => h9) rfl dJ5_length_8abf5_1 ?_
  exact W.iret (v := s_o_count) hx hb hr  (fun t ht hW => ⟨_, rfl, h, ht⟩) (fun q hq => by cases hq) dJ5_length_8abf5_4

/-- J5_charAt_5068e: its walk -/
def wp_J5_charAt_5068e (post : Int32 → Prop) (s_o_count : Int32) (n_o_value : Nat) (f_o_value : Nat → Int32) (p1 : Int32) : Prop :=
  fx_nm ((nI n_o_value) >>> ((nI 0) &&& 31)) (fun v1 => fx_nm (if v1 < s_o_count then v1 else s_o_count) (fun v2 => wp_J0_checkIndex_df160 (fx_ix p1 n_o_value (fun k4 => fx_nm (f_o_value k4) (fun v3 => fx_nm (v3 &&& (nI 255)) (fun v5 => fx_nm ((v5.toUInt32 % 65536).toInt32) (fun v6 => fx_ch v6 (post v6)))))) p1 v2))
theorem im_J5_charAt_5068e_J4 : ∀ w ∈ u_ws RJ4 TJ4 4, w ∈ wsJ5_charAt_5068e := by decide +kernel
set_option maxHeartbeats 4000000 in
set_option maxRecDepth 100000 in
theorem cw_J5_charAt_5068e (l : Launch) (X : fx_X) (a_o : Nat) (s_o_maybeLatin1 : Int32) (s_o_count : Int32) (a_o_value : Nat) (n_o_value : Nat) (f_o_value : Nat → Int32) (p1 : Int32) (post : Int32 → Prop) (h : wp_J5_charAt_5068e post s_o_count n_o_value f_o_value p1) : Met l yJ5_charAt_5068e wsJ5_charAt_5068e ({ frames := 2, cells := 0, slots := 0, locals := 43 }) (va_Pc [.ref a_o, .int p1] (fx_PP X [(a_o, .inr (0, [.ref a_o_value, .int (nI 0), .int s_o_maybeLatin1, .int s_o_count])), (a_o_value, .inl (fx_cB X, n_o_value, .inl f_o_value))])) (vp_Si post) 0 0 (fun _ => False) := by
  refine Met.ofW (cc := cJ5_charAt_5068e) (maxL := 5) (ret := (some .char)) (by decide) rfl ?_
  intro p e s m args below meth c s₁ B hml hv
  obtain ⟨rfl, hP, hK, hG⟩ := hv
  have hx := B.exec
  have hb := B.bytes
  have hr := B.returns
  have hts := atoms_spec (ws := wsJ5_charAt_5068e) B.pre
  have hown : s.vm.findClass RJ5 = some m.cls := findClass_of_methodNamed B.named
  have hlocks := B.notSynchronized
  have hS : va_S (fun _ => False) s.heap s.heap [] := va_S.rf
  have k138 := hts (.methodLink RJ5 138 Lib.Math.min.name) (by decide +kernel)
  have kstva_mmin := hts (.static Lib.Math.min.name) (by decide +kernel)
  have kini := hts (.initialized "java/lang/Math") (by decide +kernel)
  have kcova_mmin := hts (.code Lib.Math.min.name Lib.Math.min.code 2 (some .int)) (by decide +kernel)
  have k79 := hts (.fieldLink RJ5 79 "java/lang/AbstractStringBuilder" "count" "I") (by decide +kernel)
  have k15 := hts (.fieldLink RJ5 15 "java/lang/AbstractStringBuilder" "value" "[B") (by decide +kernel)
  have k22 := hts (.fieldLink RJ5 22 "java/lang/AbstractStringBuilder" "coder" "B") (by decide +kernel)
  have hl := lv_entry ([.ref a_o, .int p1]) (n := 5) (Nat.le_of_ble_eq_true rfl)
  rw [lg_entry_eq]
  generalize (lg_sl ([.ref a_o, .int p1]) ++ List.replicate (5 - (lg_sl ([.ref a_o, .int p1])).length) Slot.unset).toArray = ls at hl ⊢
  have hl : lv_has ls 5 [(0, .ref a_o), (1, .int p1)] := hl
  unfold wp_J5_charAt_5068e at h
  refine lv_aload_n hx hb dJ5_charAt_5068e_0 rfl (lv_at hl 0 rfl) ?_
  refine va_get (D := fx_D X) (ci := 0) (v := .int (nI 0)) (C := RJ4) (T := TJ4) (N := 4) hx hb hts im_J5_charAt_5068e_J4 hown hK hP 0 rfl rfl 1 (by decide) k22 (fun _ h9 => h9) rfl dJ5_charAt_5068e_1 ?_
  refine lv_istore_n (lv' := [(2, .int (nI 0)), (0, .ref a_o), (1, .int p1)]) hx hb dJ5_charAt_5068e_4 rfl hl (by decide) rfl (fun ls hl => ?_)
  refine lv_aload_n hx hb dJ5_charAt_5068e_5 rfl (lv_at hl 1 rfl) ?_
  refine va_get (D := fx_D X) (ci := 0) (v := .ref a_o_value) (C := RJ4) (T := TJ4) (N := 4) hx hb hts im_J5_charAt_5068e_J4 hown hK hP 0 rfl rfl 0 (by decide) k15 (fun _ h9 => h9) rfl dJ5_charAt_5068e_6 ?_
  refine lv_astore_n (lv' := [(3, .ref a_o_value), (2, .int (nI 0)), (0, .ref a_o), (1, .int p1)]) hx hb dJ5_charAt_5068e_9 rfl hl (by decide) rfl (fun ls hl => ?_)
  refine lv_aload_n hx hb dJ5_charAt_5068e_10 rfl (lv_at hl 2 rfl) ?_
  refine va_get (D := fx_D X) (ci := 0) (v := .int s_o_count) (C := RJ4) (T := TJ4) (N := 4) hx hb hts im_J5_charAt_5068e_J4 hown hK hP 0 rfl rfl 3 (by decide) k79 (fun _ h9 => h9) rfl dJ5_charAt_5068e_11 ?_
  refine lv_aload_n hx hb dJ5_charAt_5068e_14 rfl (lv_at hl 0 rfl) ?_
  refine va_alen (v := nI n_o_value) hx hb hK hP 1 3 rfl rfl rfl dJ5_charAt_5068e_15 ?_
  refine lv_iload_n hx hb dJ5_charAt_5068e_16 rfl (lv_at hl 1 rfl) ?_
  refine fx_ishr hx hb h dJ5_charAt_5068e_17 (fun v1 h => ?_)
  refine va_mmin hx hb (by rw [hml]; exact hl.1.symm) hown k138 kstva_mmin kini kcova_mmin (Nat.le_of_ble_eq_true rfl) (Nat.le_of_ble_eq_true rfl) (Nat.le_of_ble_eq_true rfl) (Nat.le_of_ble_eq_true rfl) dJ5_charAt_5068e_18 ?_
  have h := h _ rfl
  generalize (if v1 < s_o_count then v1 else s_o_count) = v2 at h ⊢
  refine lv_istore (lv' := [(4, .int v2), (3, .ref a_o_value), (2, .int (nI 0)), (0, .ref a_o), (1, .int p1)]) hx hb dJ5_charAt_5068e_21 hl (by decide) rfl (fun ls hl => ?_)
  refine lv_iload_n hx hb dJ5_charAt_5068e_23 rfl (lv_at hl 4 rfl) ?_
  refine lv_iload hx hb dJ5_charAt_5068e_24 (lv_at hl 0 rfl) ?_
  refine va_csv (W.runS (As := [.int p1, .int v2]) (rest := []) ⟨hx, hb, hml, hown, hts⟩ (cw_J0_checkIndex_df160 l X   p1 v2 _ h) (va_cwS 2 hts gJ5_charAt_5068e_J0_checkIndex_df160 rfl rfl rfl (by decide +kernel) ⟨Nat.le_of_ble_eq_true rfl, Nat.le_of_ble_eq_true rfl⟩) (fx_ps (wc := []) hP hK hG hS [] rfl) rfl rfl hl.1 rfl (lv_room (Nat.le_of_ble_eq_true rfl)) dJ5_charAt_5068e_26 ⟨Nat.le_of_ble_eq_true rfl, Nat.le_of_ble_eq_true rfl⟩) (fun h => ?_)
  refine lv_iload_n hx hb dJ5_charAt_5068e_29 rfl (lv_at hl 2 rfl) ?_
  refine lv_if_ne (tgt := 42) hx hb dJ5_charAt_5068e_30 (by decide) (fun q => absurd (by decide) q) (fun _ => ?_)
  refine lv_aload_n hx hb dJ5_charAt_5068e_33 rfl (lv_at hl 1 rfl) ?_
  refine lv_iload_n hx hb dJ5_charAt_5068e_34 rfl (lv_at hl 4 rfl) ?_
  refine fx_bald hx hb hK hP 1 3 rfl rfl h dJ5_charAt_5068e_35 (fun v3 h => ?_)
  refine lv_sipush (v := (nI 255)) hx hb dJ5_charAt_5068e_36 (by decide) ?_
  refine fx_iand hx hb h dJ5_charAt_5068e_39 (fun v5 h => ?_)
  refine fx_i2c hx hb h dJ5_charAt_5068e_40 (fun v6 h => ?_)
  exact W.zret (v := v6) hx hb hr (fx_ch_n h) (fun t ht hW => ⟨_, rfl, h.2, ht⟩) (fun q hq => by cases hq) dJ5_charAt_5068e_41

/-- J5_append_c97b9: its walk -/
def wp_J5_append_c97b9 (post : Int32 → Nat → (Nat → Int32) → Prop) (mc ms : Nat) (s_o_count : Int32) (n_o_value : Nat) (f_o_value : Nat → Int32) (p1 : Int32) : Prop :=
  wp_J6_stringSize_0f7a4 (fun r1 => fx_nm (s_o_count + r1) (fun v2 => fx_al 0 0 mc ms (fun a6 b7 => wp_J5_ensureCapacityInternal_d00df (fun y4 y5 => wp_J5_isLatin1_aae02 (fun r8 => fx_br (r8 = 0) (False) (wp_J6_getChars_ba4f3 (fun r9 y10 => post v2 y4 y10) y4 y5 p1 v2)) ) a6 b7 n_o_value f_o_value v2))) p1
theorem im_J5_append_c97b9_J4 : ∀ w ∈ u_ws RJ4 TJ4 4, w ∈ wsJ5_append_c97b9 := by decide +kernel
set_option maxHeartbeats 4000000 in
set_option maxRecDepth 100000 in
theorem cw_J5_append_c97b9 (l : Launch) (X : fx_X) (a_o : Nat) (s_o_maybeLatin1 : Int32) (s_o_count : Int32) (a_o_value : Nat) (n_o_value : Nat) (f_o_value : Nat → Int32) (sz : Nat) (mc ms : Nat) (p1 : Int32) (post : Int32 → Nat → (Nat → Int32) → Prop) (h : wp_J5_append_c97b9 post mc ms s_o_count n_o_value f_o_value p1) : Met l yJ5_append_c97b9 wsJ5_append_c97b9 ({ frames := 4, cells := mc, slots := ms, locals := 104 }) (va_Pc [.ref a_o, .int p1] (fx_PW X [(a_o, .inr (0, [.ref a_o_value, .int (nI 0), .int s_o_maybeLatin1, .int s_o_count])), (a_o_value, .inl (fx_cB X, n_o_value, .inl f_o_value))] sz)) (va_Qr (fun (u : Int32 × Nat × Nat × (Nat → Int32)) => post u.1 u.2.2.1 u.2.2.2) (fun (u : Int32 × Nat × Nat × (Nat → Int32)) a t => a_o = a ∧ fx_EW X (va_A [(a_o, .inr (0, [.ref a_o_value, .int (nI 0), .int s_o_maybeLatin1, .int s_o_count])), (a_o_value, .inl (fx_cB X, n_o_value, .inl f_o_value))] sz) [(a_o, .inr (0, [.ref u.2.1, .int (nI 0), .int s_o_maybeLatin1, .int u.1])), (u.2.1, .inl (fx_cB X, u.2.2.1, .inl u.2.2.2))] t) (va_A [(a_o, .inr (0, [.ref a_o_value, .int (nI 0), .int s_o_maybeLatin1, .int s_o_count])), (a_o_value, .inl (fx_cB X, n_o_value, .inl f_o_value))] sz)) mc ms (va_A [(a_o, .inr (0, [.ref a_o_value, .int (nI 0), .int s_o_maybeLatin1, .int s_o_count])), (a_o_value, .inl (fx_cB X, n_o_value, .inl f_o_value))] sz) := by
  refine Met.ofW (cc := cJ5_append_c97b9) (maxL := 4) (ret := (some (.object "java/lang/AbstractStringBuilder"))) (by decide) rfl ?_
  intro p e s m args below meth c s₁ B hml hv
  obtain ⟨rfl, hsz, hP, hK, hD0, hG⟩ := hv
  have hx := B.exec
  have hb := B.bytes
  have hr := B.returns
  have hts := atoms_spec (ws := wsJ5_append_c97b9) B.pre
  have hown : s.vm.findClass RJ5 = some m.cls := findClass_of_methodNamed B.named
  have hlocks := B.notSynchronized
  subst hsz
  have hD := hD0.self (sz := s.heap.size)
  generalize hAe : va_A [(a_o, .inr (0, [.ref a_o_value, .int (nI 0), .int s_o_maybeLatin1, .int s_o_count])), (a_o_value, .inl (fx_cB X, n_o_value, .inl f_o_value))] s.heap.size = A at hD hG ⊢
  have hA : ∀ q : Nat, s.heap.size ≤ q → A q := fun q h => by rw [← hAe]; exact Or.inr h
  have hS : va_S A s.heap s.heap [] := va_S.rf
  have hce : 0 ≤ mc := Nat.zero_le _
  have hsl : 0 ≤ ms := Nat.zero_le _
  have k15 := hts (.fieldLink RJ5 15 "java/lang/AbstractStringBuilder" "value" "[B") (by decide +kernel)
  have k79 := hts (.fieldLink RJ5 79 "java/lang/AbstractStringBuilder" "count" "I") (by decide +kernel)
  have hl := lv_entry ([.ref a_o, .int p1]) (n := 4) (Nat.le_of_ble_eq_true rfl)
  rw [lg_entry_eq]
  generalize (lg_sl ([.ref a_o, .int p1]) ++ List.replicate (4 - (lg_sl ([.ref a_o, .int p1])).length) Slot.unset).toArray = ls at hl ⊢
  have hl : lv_has ls 4 [(0, .ref a_o), (1, .int p1)] := hl
  unfold wp_J5_append_c97b9 at h
  refine lv_aload_n hx hb dJ5_append_c97b9_0 rfl (lv_at hl 0 rfl) ?_
  refine va_get (D := fx_D X) (ci := 0) (v := .int s_o_count) (C := RJ4) (T := TJ4) (N := 4) hx hb hts im_J5_append_c97b9_J4 hown hK hP 0 rfl rfl 3 (by decide) k79 (fun _ h9 => h9) rfl dJ5_append_c97b9_1 ?_
  refine lv_istore_n (lv' := [(2, .int s_o_count), (0, .ref a_o), (1, .int p1)]) hx hb dJ5_append_c97b9_4 rfl hl (by decide) rfl (fun ls hl => ?_)
  refine lv_iload_n hx hb dJ5_append_c97b9_5 rfl (lv_at hl 0 rfl) ?_
  refine lv_iload_n hx hb dJ5_append_c97b9_6 rfl (lv_at hl 2 rfl) ?_
  refine vp_callSi (W.runS (As := [.int p1]) (rest := [.int s_o_count]) ⟨hx, hb, hml, hown, hts⟩ (cw_J6_stringSize_0f7a4 l X   p1 _ h) (va_cwS 1 hts gJ5_append_c97b9_J6_stringSize_0f7a4 rfl rfl rfl (by decide +kernel) ⟨Nat.le_of_ble_eq_true rfl, Nat.le_of_ble_eq_true rfl⟩) (fx_ps (wc := []) hP hK hG hS [] rfl) rfl rfl hl.1 rfl (lv_room (Nat.le_of_ble_eq_true rfl)) dJ5_append_c97b9_7 ⟨hce, hsl⟩) (fun r1 h => ?_)
  refine fx_iadd hx hb h dJ5_append_c97b9_10 (fun v2 h => ?_)
  refine lv_istore_n (lv' := [(3, .int v2), (2, .int s_o_count), (0, .ref a_o), (1, .int p1)]) hx hb dJ5_append_c97b9_11 rfl hl (by decide) rfl (fun ls hl => ?_)
  refine lv_aload_n hx hb dJ5_append_c97b9_12 rfl (lv_at hl 2 rfl) ?_
  refine lv_iload_n hx hb dJ5_append_c97b9_13 rfl (lv_at hl 0 rfl) ?_
  obtain ⟨a6, b7, hce, hsl, h⟩ := h
  have hFc := va_free (wc := [(a_o, .inr (0, [.ref a_o_value, .int (nI 0), .int s_o_maybeLatin1, .int s_o_count])), (a_o_value, .inl (fx_cB X, n_o_value, .inl f_o_value))]) hD hS hA [0, 1] rfl
  refine va_callv (va_runU (As := [.int v2]) (rest := [])  ⟨hx, hb, hml, hown, hts⟩ (cw_J5_ensureCapacityInternal_d00df l X a_o s_o_maybeLatin1 s_o_count a_o_value n_o_value f_o_value _ a6 b7 v2 _ h) (va_cwU 1 hts gJ5_append_c97b9_J5_ensureCapacityInternal_d00df_u100J4 rfl rfl rfl rfl (by decide +kernel) ⟨Nat.le_of_ble_eq_true rfl, Nat.le_of_ble_eq_true rfl⟩) (fx_pvW hP hD hK hG hS hFc (va_recv hK hP (ci := 0) (q0 := 0) rfl rfl) [0, 1] (by decide) rfl) rfl rfl hl.1 rfl (lv_room (Nat.le_of_ble_eq_true rfl)) dJ5_append_c97b9_14 ⟨hce, hsl⟩) hS (fun q _ h => hFc q h) hFc (fun u t H locs ht hvm h hB _ hk hS => ?_)
  obtain ⟨y3, y4, y5⟩ := u
  dsimp only at h
  obtain ⟨hP, hD⟩ := fx_back (wr := []) (ws' := [(a_o, .inr (0, [.ref y3, .int (nI 0), .int s_o_maybeLatin1, .int s_o_count])), (y3, .inl (fx_cB X, y4, .inl y5))]) hP hD [0, 1] [] rfl rfl (by decide) (by decide) hk hFc hB ht [0, 1] (by decide) rfl
  refine lv_aload_n hx hb dJ5_append_c97b9_17 rfl (lv_at hl 2 rfl) ?_
  refine vp_callSi ((va_runU (As := []) (rest := [])  ⟨hx, hb, hml, hown, hts⟩ (cw_J5_isLatin1_aae02 l X a_o y3 s_o_maybeLatin1 s_o_count  _ h) (va_cwU 0 hts gJ5_append_c97b9_J5_isLatin1_aae02_u83J4 rfl rfl rfl rfl (by decide +kernel) ⟨Nat.le_of_ble_eq_true rfl, Nat.le_of_ble_eq_true rfl⟩) (fx_pv hP hK hG hS (va_recv hK hP (ci := 0) (q0 := 0) rfl rfl) [0] rfl) rfl rfl hl.1 rfl (lv_room (Nat.le_of_ble_eq_true rfl)) dJ5_append_c97b9_18 ⟨hce, hsl⟩).run) (fun r8 h => ?_)
  refine fx_if_eq (tgt := 37) hx hb h dJ5_append_c97b9_21 (by decide) (fun h => ?_) (fun h => ?_)
  · refine lv_iload_n hx hb dJ5_append_c97b9_37 rfl (lv_at hl 3 rfl) ?_
    refine lv_iload_n hx hb dJ5_append_c97b9_38 rfl (lv_at hl 1 rfl) ?_
    refine lv_iload_n hx hb dJ5_append_c97b9_39 rfl (lv_at hl 0 rfl) ?_
    refine lv_aload_n hx hb dJ5_append_c97b9_40 rfl (lv_at hl 2 rfl) ?_
    refine va_get (D := fx_D X) (ci := 0) (v := .ref y3) (C := RJ4) (T := TJ4) (N := 4) hx hb hts im_J5_append_c97b9_J4 hown hK hP 0 rfl rfl 0 (by decide) k15 (fun _ h9 => h9) rfl dJ5_append_c97b9_41 ?_
    exact h.elim
  refine lv_iload_n hx hb dJ5_append_c97b9_24 rfl (lv_at hl 3 rfl) ?_
  refine lv_iload_n hx hb dJ5_append_c97b9_25 rfl (lv_at hl 0 rfl) ?_
  refine lv_aload_n hx hb dJ5_append_c97b9_26 rfl (lv_at hl 2 rfl) ?_
  refine va_get (D := fx_D X) (ci := 0) (v := .ref y3) (C := RJ4) (T := TJ4) (N := 4) hx hb hts im_J5_append_c97b9_J4 hown hK hP 0 rfl rfl 0 (by decide) k15 (fun _ h9 => h9) rfl dJ5_append_c97b9_27 ?_
  have hFc := va_free (wc := [(y3, .inl (fx_cB X, y4, .inl y5))]) hD hS hA [1] rfl
  refine va_calli (va_runS (As := [.int p1, .int v2, .ref y3]) (rest := []) ⟨hx, hb, hml, hown, hts⟩ (cw_J6_getChars_ba4f3 l X y3 y4 y5 _ p1 v2 _ h) (va_cwS 3 hts gJ5_append_c97b9_J6_getChars_ba4f3 rfl rfl rfl (by decide +kernel) ⟨Nat.le_of_ble_eq_true rfl, Nat.le_of_ble_eq_true rfl⟩) (fx_psW hP hD hK hG hS hFc [1] (by decide) rfl) rfl rfl hl.1 rfl (lv_room (Nat.le_of_ble_eq_true rfl)) dJ5_append_c97b9_30 ⟨hce, hsl⟩) hS (fun q _ h => hFc q h) hFc (fun r9 u t H locs ht hvm h hB _ hk hS => ?_)
  obtain ⟨y10, rfl⟩ : ∃ z, z = u := ⟨_, rfl⟩
  obtain ⟨hP, hD⟩ := fx_back (wr := [(a_o, .inr (0, [.ref y3, .int (nI 0), .int s_o_maybeLatin1, .int s_o_count]))]) (ws' := [(a_o, .inr (0, [.ref y3, .int (nI 0), .int s_o_maybeLatin1, .int s_o_count])), (y3, .inl (fx_cB X, y4, .inl y10))]) hP hD [1] [0] rfl rfl (by decide) (by decide) hk hFc hB ht [0, 1] (by decide) rfl
  refine lv_pop hx hb dJ5_append_c97b9_33 rfl ?_
  refine lv_goto (tgt := 48) hx hb dJ5_append_c97b9_34 (by decide) ?_
  refine lv_aload_n hx hb dJ5_append_c97b9_48 rfl (lv_at hl 2 rfl) ?_
  refine lv_iload_n hx hb dJ5_append_c97b9_49 rfl (lv_at hl 0 rfl) ?_
  refine va_put (D := fx_D X) (ci := 0) (v := .int v2) (ty := .int) (C := RJ4) (T := TJ4) (N := 4) hx hb hts im_J5_append_c97b9_J4 tyJ4 tyJ4_ok nmJ4 hown hK hP hD hS 0 rfl rfl 3 (by decide) k79 (fun _ h9 => h9) rfl (by decide +kernel) rfl rfl (Nat.le_of_ble_eq_true rfl) dJ5_append_c97b9_50 (fun H locs hP hD hS => ?_)
  have hP : va_P (fx_D X) vwCl [(a_o, .inr (0, [.ref y3, .int (nI 0), .int s_o_maybeLatin1, .int v2])), (y3, .inl (fx_cB X, y4, .inl y10))] H := hP
  have hD : va_D A [(a_o, .inr (0, [.ref y3, .int (nI 0), .int s_o_maybeLatin1, .int v2])), (y3, .inl (fx_cB X, y4, .inl y10))] := hD
  refine lv_aload_n hx hb dJ5_append_c97b9_53 rfl (lv_at hl 2 rfl) ?_
  refine W.widen (k := mc) (n := ms) hce hsl ?_
  exact W.aret (v := .ref a_o) hx hb hr (Or.inl ⟨_, rfl⟩) (Or.inr ⟨_, rfl⟩) (fun t ht hW => ⟨⟨(v2, y3, y4, y10), a_o, rfl, h, rfl, by rw [ht]; exact hP, va_K.moved hW.alike hK, hD⟩, hS.F ht⟩) hS.2.2 dJ5_append_c97b9_54

/-- J5_append_3fe6f: its walk -/
def wp_J5_append_3fe6f (post : Int32 → Nat → (Nat → Int32) → Prop) (mc ms : Nat) (s_o_count : Int32) (n_o_value : Nat) (f_o_value : Nat → Int32) (p1 : Int32) : Prop :=
  fx_nm (s_o_count + (nI 1)) (fun v1 => fx_al 0 0 mc ms (fun a5 b6 => wp_J5_ensureCapacityInternal_d00df (fun y3 y4 => wp_J5_isLatin1_aae02 (fun r7 => fx_br (r7 = 0) (wp_J5_isLatin1_aae02 (fun r8 => fx_jn0 (fx_nm (s_o_count + (nI 1)) (fun v10 => False)) (fun K9 => fx_br (r8 = 0) (K9) (False))) ) (wp_J1_canEncode_fc78d (fun r11 => fx_br (r11 = 0) (wp_J5_isLatin1_aae02 (fun r12 => fx_jn0 (fx_nm (s_o_count + (nI 1)) (fun v14 => False)) (fun K13 => fx_br (r12 = 0) (K13) (False))) ) (fx_nm (s_o_count + (nI 1)) (fun v15 => fx_nm (p1.toInt8.toInt32) (fun v16 => fx_ix s_o_count y3 (fun k18 => fx_nm (upd y4 k18 (vp_nar .byte v16)) (fun g17 => post v15 y3 g17)))))) p1)) ) a5 b6 n_o_value f_o_value v1))
theorem im_J5_append_3fe6f_J4 : ∀ w ∈ u_ws RJ4 TJ4 4, w ∈ wsJ5_append_3fe6f := by decide +kernel
set_option maxHeartbeats 4000000 in
set_option maxRecDepth 100000 in
theorem cw_J5_append_3fe6f (l : Launch) (X : fx_X) (a_o : Nat) (s_o_maybeLatin1 : Int32) (s_o_count : Int32) (a_o_value : Nat) (n_o_value : Nat) (f_o_value : Nat → Int32) (sz : Nat) (mc ms : Nat) (p1 : Int32) (post : Int32 → Nat → (Nat → Int32) → Prop) (h : wp_J5_append_3fe6f post mc ms s_o_count n_o_value f_o_value p1) : Met l yJ5_append_3fe6f wsJ5_append_3fe6f ({ frames := 4, cells := mc, slots := ms, locals := 104 }) (va_Pc [.ref a_o, .int p1] (fx_PW X [(a_o, .inr (0, [.ref a_o_value, .int (nI 0), .int s_o_maybeLatin1, .int s_o_count])), (a_o_value, .inl (fx_cB X, n_o_value, .inl f_o_value))] sz)) (va_Qr (fun (u : Int32 × Nat × Nat × (Nat → Int32)) => post u.1 u.2.2.1 u.2.2.2) (fun (u : Int32 × Nat × Nat × (Nat → Int32)) a t => a_o = a ∧ fx_EW X (va_A [(a_o, .inr (0, [.ref a_o_value, .int (nI 0), .int s_o_maybeLatin1, .int s_o_count])), (a_o_value, .inl (fx_cB X, n_o_value, .inl f_o_value))] sz) [(a_o, .inr (0, [.ref u.2.1, .int (nI 0), .int s_o_maybeLatin1, .int u.1])), (u.2.1, .inl (fx_cB X, u.2.2.1, .inl u.2.2.2))] t) (va_A [(a_o, .inr (0, [.ref a_o_value, .int (nI 0), .int s_o_maybeLatin1, .int s_o_count])), (a_o_value, .inl (fx_cB X, n_o_value, .inl f_o_value))] sz)) mc ms (va_A [(a_o, .inr (0, [.ref a_o_value, .int (nI 0), .int s_o_maybeLatin1, .int s_o_count])), (a_o_value, .inl (fx_cB X, n_o_value, .inl f_o_value))] sz) := by
  refine Met.ofW (cc := cJ5_append_3fe6f) (maxL := 2) (ret := (some (.object "java/lang/AbstractStringBuilder"))) (by decide) rfl ?_
  intro p e s m args below meth c s₁ B hml hv
  obtain ⟨rfl, hsz, hP, hK, hD0, hG⟩ := hv
  have hx := B.exec
  have hb := B.bytes
  have hr := B.returns
  have hts := atoms_spec (ws := wsJ5_append_3fe6f) B.pre
  have hown : s.vm.findClass RJ5 = some m.cls := findClass_of_methodNamed B.named
  have hlocks := B.notSynchronized
  subst hsz
  have hD := hD0.self (sz := s.heap.size)
  generalize hAe : va_A [(a_o, .inr (0, [.ref a_o_value, .int (nI 0), .int s_o_maybeLatin1, .int s_o_count])), (a_o_value, .inl (fx_cB X, n_o_value, .inl f_o_value))] s.heap.size = A at hD hG ⊢
  have hA : ∀ q : Nat, s.heap.size ≤ q → A q := fun q h => by rw [← hAe]; exact Or.inr h
  have hS : va_S A s.heap s.heap [] := va_S.rf
  have hce : 0 ≤ mc := Nat.zero_le _
  have hsl : 0 ≤ ms := Nat.zero_le _
  have k79 := hts (.fieldLink RJ5 79 "java/lang/AbstractStringBuilder" "count" "I") (by decide +kernel)
  have k15 := hts (.fieldLink RJ5 15 "java/lang/AbstractStringBuilder" "value" "[B") (by decide +kernel)
  have hl := lv_entry ([.ref a_o, .int p1]) (n := 2) (Nat.le_of_ble_eq_true rfl)
  rw [lg_entry_eq]
  generalize (lg_sl ([.ref a_o, .int p1]) ++ List.replicate (2 - (lg_sl ([.ref a_o, .int p1])).length) Slot.unset).toArray = ls at hl ⊢
  have hl : lv_has ls 2 [(0, .ref a_o), (1, .int p1)] := hl
  unfold wp_J5_append_3fe6f at h
  refine lv_aload_n hx hb dJ5_append_3fe6f_0 rfl (lv_at hl 0 rfl) ?_
  refine lv_aload_n hx hb dJ5_append_3fe6f_1 rfl (lv_at hl 0 rfl) ?_
  refine va_get (D := fx_D X) (ci := 0) (v := .int s_o_count) (C := RJ4) (T := TJ4) (N := 4) hx hb hts im_J5_append_3fe6f_J4 hown hK hP 0 rfl rfl 3 (by decide) k79 (fun _ h9 => h9) rfl dJ5_append_3fe6f_2 ?_
  refine lv_iconst (v := (nI 1)) hx hb dJ5_append_3fe6f_5 (by decide) ?_
  refine fx_iadd hx hb h dJ5_append_3fe6f_6 (fun v1 h => ?_)
  obtain ⟨a5, b6, hce, hsl, h⟩ := h
  have hFc := va_free (wc := [(a_o, .inr (0, [.ref a_o_value, .int (nI 0), .int s_o_maybeLatin1, .int s_o_count])), (a_o_value, .inl (fx_cB X, n_o_value, .inl f_o_value))]) hD hS hA [0, 1] rfl
  refine va_callv (va_runU (As := [.int v1]) (rest := [])  ⟨hx, hb, hml, hown, hts⟩ (cw_J5_ensureCapacityInternal_d00df l X a_o s_o_maybeLatin1 s_o_count a_o_value n_o_value f_o_value _ a5 b6 v1 _ h) (va_cwU 1 hts gJ5_append_3fe6f_J5_ensureCapacityInternal_d00df_u100J4 rfl rfl rfl rfl (by decide +kernel) ⟨Nat.le_of_ble_eq_true rfl, Nat.le_of_ble_eq_true rfl⟩) (fx_pvW hP hD hK hG hS hFc (va_recv hK hP (ci := 0) (q0 := 0) rfl rfl) [0, 1] (by decide) rfl) rfl rfl hl.1 rfl (lv_room (Nat.le_of_ble_eq_true rfl)) dJ5_append_3fe6f_7 ⟨hce, hsl⟩) hS (fun q _ h => hFc q h) hFc (fun u t H locs ht hvm h hB _ hk hS => ?_)
  obtain ⟨y2, y3, y4⟩ := u
  dsimp only at h
  obtain ⟨hP, hD⟩ := fx_back (wr := []) (ws' := [(a_o, .inr (0, [.ref y2, .int (nI 0), .int s_o_maybeLatin1, .int s_o_count])), (y2, .inl (fx_cB X, y3, .inl y4))]) hP hD [0, 1] [] rfl rfl (by decide) (by decide) hk hFc hB ht [0, 1] (by decide) rfl
  refine lv_aload_n hx hb dJ5_append_3fe6f_10 rfl (lv_at hl 0 rfl) ?_
  refine vp_callSi ((va_runU (As := []) (rest := [])  ⟨hx, hb, hml, hown, hts⟩ (cw_J5_isLatin1_aae02 l X a_o y2 s_o_maybeLatin1 s_o_count  _ h) (va_cwU 0 hts gJ5_append_3fe6f_J5_isLatin1_aae02_u83J4 rfl rfl rfl rfl (by decide +kernel) ⟨Nat.le_of_ble_eq_true rfl, Nat.le_of_ble_eq_true rfl⟩) (fx_pv hP hK hG hS (va_recv hK hP (ci := 0) (q0 := 0) rfl rfl) [0] rfl) rfl rfl hl.1 rfl (lv_room (Nat.le_of_ble_eq_true rfl)) dJ5_append_3fe6f_11 ⟨hce, hsl⟩).run) (fun r7 h => ?_)
  refine fx_if_eq (tgt := 45) hx hb h dJ5_append_3fe6f_14 (by decide) (fun h => ?_) (fun h => ?_)
  · refine lv_aload_n hx hb dJ5_append_3fe6f_45 rfl (lv_at hl 0 rfl) ?_
    refine vp_callSi ((va_runU (As := []) (rest := [])  ⟨hx, hb, hml, hown, hts⟩ (cw_J5_isLatin1_aae02 l X a_o y2 s_o_maybeLatin1 s_o_count  _ h) (va_cwU 0 hts gJ5_append_3fe6f_J5_isLatin1_aae02_u83J4 rfl rfl rfl rfl (by decide +kernel) ⟨Nat.le_of_ble_eq_true rfl, Nat.le_of_ble_eq_true rfl⟩) (fx_pv hP hK hG hS (va_recv hK hP (ci := 0) (q0 := 0) rfl rfl) [0] rfl) rfl rfl hl.1 rfl (lv_room (Nat.le_of_ble_eq_true rfl)) dJ5_append_3fe6f_46 ⟨hce, hsl⟩).run) (fun r8 h => ?_)
    refine fx_join0 (G := fun (R : Room) (av : Array Value) (Q : State → Prop) => ∀ (H : Heap) (locs : List Loc) (ls : Array Slot), va_P (fx_D X) vwCl [(a_o, .inr (0, [.ref y2, .int (nI 0), .int s_o_maybeLatin1, .int s_o_count])), (y2, .inl (fx_cB X, y3, .inl y4))] H → va_D A [(a_o, .inr (0, [.ref y2, .int (nI 0), .int s_o_maybeLatin1, .int s_o_count])), (y2, .inl (fx_cB X, y3, .inl y4))] → va_S A s.heap H locs → lv_has ls 2 [(0, .ref a_o), (1, .int p1)] → (0 + a5) ≤ mc → (0 + b6) ≤ ms → W p l e R s m av below meth c H locs (0 + a5) (0 + b6) Q (F0 m 56 ls [])) h (fun h => ?_) (fun K9 hK9 h => ?_)
    · intro H locs ls hP hD hS hl hce hsl
      refine lv_aload_n hx hb dJ5_append_3fe6f_56 rfl (lv_at hl 0 rfl) ?_
      refine va_get (D := fx_D X) (ci := 0) (v := .ref y2) (C := RJ4) (T := TJ4) (N := 4) hx hb hts im_J5_append_3fe6f_J4 hown hK hP 0 rfl rfl 0 (by decide) k15 (fun _ h9 => h9) rfl dJ5_append_3fe6f_57 ?_
      refine lv_aload_n hx hb dJ5_append_3fe6f_60 rfl (lv_at hl 0 rfl) ?_
      refine lv_dup hx hb dJ5_append_3fe6f_61 rfl ?_
      refine va_get (D := fx_D X) (ci := 0) (v := .int s_o_count) (C := RJ4) (T := TJ4) (N := 4) hx hb hts im_J5_append_3fe6f_J4 hown hK hP 0 rfl rfl 3 (by decide) k79 (fun _ h9 => h9) rfl dJ5_append_3fe6f_62 ?_
      refine lv_dup_x1 hx hb dJ5_append_3fe6f_65 rfl rfl ?_
      refine lv_iconst (v := (nI 1)) hx hb dJ5_append_3fe6f_66 (by decide) ?_
      refine fx_iadd hx hb h dJ5_append_3fe6f_67 (fun v10 h => ?_)
      refine va_put (D := fx_D X) (ci := 0) (v := .int v10) (ty := .int) (C := RJ4) (T := TJ4) (N := 4) hx hb hts im_J5_append_3fe6f_J4 tyJ4 tyJ4_ok nmJ4 hown hK hP hD hS 0 rfl rfl 3 (by decide) k79 (fun _ h9 => h9) rfl (by decide +kernel) rfl rfl (Nat.le_of_ble_eq_true rfl) dJ5_append_3fe6f_68 (fun H locs hP hD hS => ?_)
      have hP : va_P (fx_D X) vwCl [(a_o, .inr (0, [.ref y2, .int (nI 0), .int s_o_maybeLatin1, .int v10])), (y2, .inl (fx_cB X, y3, .inl y4))] H := hP
      have hD : va_D A [(a_o, .inr (0, [.ref y2, .int (nI 0), .int s_o_maybeLatin1, .int v10])), (y2, .inl (fx_cB X, y3, .inl y4))] := hD
      refine lv_iload_n hx hb dJ5_append_3fe6f_71 rfl (lv_at hl 1 rfl) ?_
      exact h.elim
    refine fx_if_eq (tgt := 56) hx hb h dJ5_append_3fe6f_49 (by decide) (fun h => ?_) (fun h => ?_)
    · exact hK9  h _ _ _ hP hD hS (lv_sub hl [0, 1] rfl) hce hsl
    refine lv_aload_n hx hb dJ5_append_3fe6f_52 rfl (lv_at hl 0 rfl) ?_
    exact h.elim
  refine lv_iload_n hx hb dJ5_append_3fe6f_17 rfl (lv_at hl 1 rfl) ?_
  refine vp_callSi (W.runS (As := [.int p1]) (rest := []) ⟨hx, hb, hml, hown, hts⟩ (cw_J1_canEncode_fc78d l X   p1 _ h) (va_cwS 1 hts gJ5_append_3fe6f_J1_canEncode_fc78d rfl rfl rfl (by decide +kernel) ⟨Nat.le_of_ble_eq_true rfl, Nat.le_of_ble_eq_true rfl⟩) (fx_ps (wc := []) hP hK hG hS [] rfl) rfl rfl hl.1 rfl (lv_room (Nat.le_of_ble_eq_true rfl)) dJ5_append_3fe6f_18 ⟨hce, hsl⟩) (fun r11 h => ?_)
  refine fx_if_eq (tgt := 45) hx hb h dJ5_append_3fe6f_21 (by decide) (fun h => ?_) (fun h => ?_)
  · refine lv_aload_n hx hb dJ5_append_3fe6f_45 rfl (lv_at hl 0 rfl) ?_
    refine vp_callSi ((va_runU (As := []) (rest := [])  ⟨hx, hb, hml, hown, hts⟩ (cw_J5_isLatin1_aae02 l X a_o y2 s_o_maybeLatin1 s_o_count  _ h) (va_cwU 0 hts gJ5_append_3fe6f_J5_isLatin1_aae02_u83J4 rfl rfl rfl rfl (by decide +kernel) ⟨Nat.le_of_ble_eq_true rfl, Nat.le_of_ble_eq_true rfl⟩) (fx_pv hP hK hG hS (va_recv hK hP (ci := 0) (q0 := 0) rfl rfl) [0] rfl) rfl rfl hl.1 rfl (lv_room (Nat.le_of_ble_eq_true rfl)) dJ5_append_3fe6f_46 ⟨hce, hsl⟩).run) (fun r12 h => ?_)
    refine fx_join0 (G := fun (R : Room) (av : Array Value) (Q : State → Prop) => ∀ (H : Heap) (locs : List Loc) (ls : Array Slot), va_P (fx_D X) vwCl [(a_o, .inr (0, [.ref y2, .int (nI 0), .int s_o_maybeLatin1, .int s_o_count])), (y2, .inl (fx_cB X, y3, .inl y4))] H → va_D A [(a_o, .inr (0, [.ref y2, .int (nI 0), .int s_o_maybeLatin1, .int s_o_count])), (y2, .inl (fx_cB X, y3, .inl y4))] → va_S A s.heap H locs → lv_has ls 2 [(0, .ref a_o), (1, .int p1)] → (0 + a5) ≤ mc → (0 + b6) ≤ ms → W p l e R s m av below meth c H locs (0 + a5) (0 + b6) Q (F0 m 56 ls [])) h (fun h => ?_) (fun K13 hK13 h => ?_)
    · intro H locs ls hP hD hS hl hce hsl
      refine lv_aload_n hx hb dJ5_append_3fe6f_56 rfl (lv_at hl 0 rfl) ?_
      refine va_get (D := fx_D X) (ci := 0) (v := .ref y2) (C := RJ4) (T := TJ4) (N := 4) hx hb hts im_J5_append_3fe6f_J4 hown hK hP 0 rfl rfl 0 (by decide) k15 (fun _ h9 => h9) rfl dJ5_append_3fe6f_57 ?_
      refine lv_aload_n hx hb dJ5_append_3fe6f_60 rfl (lv_at hl 0 rfl) ?_
      refine lv_dup hx hb dJ5_append_3fe6f_61 rfl ?_
      refine va_get (D := fx_D X) (ci := 0) (v := .int s_o_count) (C := RJ4) (T := TJ4) (N := 4) hx hb hts im_J5_append_3fe6f_J4 hown hK hP 0 rfl rfl 3 (by decide) k79 (fun _ h9 => h9) rfl dJ5_append_3fe6f_62 ?_
      refine lv_dup_x1 hx hb dJ5_append_3fe6f_65 rfl rfl ?_
      refine lv_iconst (v := (nI 1)) hx hb dJ5_append_3fe6f_66 (by decide) ?_
      refine fx_iadd hx hb h dJ5_append_3fe6f_67 (fun v14 h => ?_)
      refine va_put (D := fx_D X) (ci := 0) (v := .int v14) (ty := .int) (C := RJ4) (T := TJ4) (N := 4) hx hb hts im_J5_append_3fe6f_J4 tyJ4 tyJ4_ok nmJ4 hown hK hP hD hS 0 rfl rfl 3 (by decide) k79 (fun _ h9 => h9) rfl (by decide +kernel) rfl rfl (Nat.le_of_ble_eq_true rfl) dJ5_append_3fe6f_68 (fun H locs hP hD hS => ?_)
      have hP : va_P (fx_D X) vwCl [(a_o, .inr (0, [.ref y2, .int (nI 0), .int s_o_maybeLatin1, .int v14])), (y2, .inl (fx_cB X, y3, .inl y4))] H := hP
      have hD : va_D A [(a_o, .inr (0, [.ref y2, .int (nI 0), .int s_o_maybeLatin1, .int v14])), (y2, .inl (fx_cB X, y3, .inl y4))] := hD
      refine lv_iload_n hx hb dJ5_append_3fe6f_71 rfl (lv_at hl 1 rfl) ?_
      exact h.elim
    refine fx_if_eq (tgt := 56) hx hb h dJ5_append_3fe6f_49 (by decide) (fun h => ?_) (fun h => ?_)
    · exact hK13  h _ _ _ hP hD hS (lv_sub hl [0, 1] rfl) hce hsl
    refine lv_aload_n hx hb dJ5_append_3fe6f_52 rfl (lv_at hl 0 rfl) ?_
    exact h.elim
  refine lv_aload_n hx hb dJ5_append_3fe6f_24 rfl (lv_at hl 0 rfl) ?_
  refine va_get (D := fx_D X) (ci := 0) (v := .ref y2) (C := RJ4) (T := TJ4) (N := 4) hx hb hts im_J5_append_3fe6f_J4 hown hK hP 0 rfl rfl 0 (by decide) k15 (fun _ h9 => h9) rfl dJ5_append_3fe6f_25 ?_
  refine lv_aload_n hx hb dJ5_append_3fe6f_28 rfl (lv_at hl 0 rfl) ?_
  refine lv_dup hx hb dJ5_append_3fe6f_29 rfl ?_
  refine va_get (D := fx_D X) (ci := 0) (v := .int s_o_count) (C := RJ4) (T := TJ4) (N := 4) hx hb hts im_J5_append_3fe6f_J4 hown hK hP 0 rfl rfl 3 (by decide) k79 (fun _ h9 => h9) rfl dJ5_append_3fe6f_30 ?_
  refine lv_dup_x1 hx hb dJ5_append_3fe6f_33 rfl rfl ?_
  refine lv_iconst (v := (nI 1)) hx hb dJ5_append_3fe6f_34 (by decide) ?_
  refine fx_iadd hx hb h dJ5_append_3fe6f_35 (fun v15 h => ?_)
  refine va_put (D := fx_D X) (ci := 0) (v := .int v15) (ty := .int) (C := RJ4) (T := TJ4) (N := 4) hx hb hts im_J5_append_3fe6f_J4 tyJ4 tyJ4_ok nmJ4 hown hK hP hD hS 0 rfl rfl 3 (by decide) k79 (fun _ h9 => h9) rfl (by decide +kernel) rfl rfl (Nat.le_of_ble_eq_true rfl) dJ5_append_3fe6f_36 (fun H locs hP hD hS => ?_)
  have hP : va_P (fx_D X) vwCl [(a_o, .inr (0, [.ref y2, .int (nI 0), .int s_o_maybeLatin1, .int v15])), (y2, .inl (fx_cB X, y3, .inl y4))] H := hP
  have hD : va_D A [(a_o, .inr (0, [.ref y2, .int (nI 0), .int s_o_maybeLatin1, .int v15])), (y2, .inl (fx_cB X, y3, .inl y4))] := hD
  refine lv_iload_n hx hb dJ5_append_3fe6f_39 rfl (lv_at hl 1 rfl) ?_
  refine fx_i2b hx hb h dJ5_append_3fe6f_40 (fun v16 h => ?_)
  refine fx_bast hx hb hK hP hD hS 1 3 rfl rfl h dJ5_append_3fe6f_41 (fun g17 => [(a_o, .inr (0, [.ref y2, .int (nI 0), .int s_o_maybeLatin1, .int v15])), (y2, .inl (fx_cB X, y3, .inl g17))]) (fun _ => rfl) (fun H locs g17 h hP hD hS => ?_)
  refine lv_goto (tgt := 75) hx hb dJ5_append_3fe6f_42 (by decide) ?_
  refine lv_aload_n hx hb dJ5_append_3fe6f_75 rfl (lv_at hl 0 rfl) ?_
  refine W.widen (k := mc) (n := ms) hce hsl ?_
  exact W.aret (v := .ref a_o) hx hb hr (Or.inl ⟨_, rfl⟩) (Or.inr ⟨_, rfl⟩) (fun t ht hW => ⟨⟨(v15, y2, y3, g17), a_o, rfl, h, rfl, by rw [ht]; exact hP, va_K.moved hW.alike hK, hD⟩, hS.F ht⟩) hS.2.2 dJ5_append_3fe6f_76

/-- J0_getBytes_840e7: its walk -/
def wp_J0_getBytes_840e7 (post : (Nat → Int32) → Prop) (n_p1 : Nat) (f_p1 : Nat → Int32) (p0 : Nat) (p2 : Int32) (p3 : Int32) : Prop :=
  fx_lt p0 66 (wp_J0_coder_7d493 (fun r1 => fx_br (r1 = p3) (fx_lt p0 66 (fx_nm (p2 <<< (p3 &&& 31)) (fun v2 => fx_lt p0 66 (fx_lt p0 66 (fx_lt p0 66 (fx_cp (nI 0) v2 (nI (fx_sl p0)) (fx_sl p0) n_p1 (fun j => nI (fx_sc p0 j)) f_p1 (fun g3 => post g3))))))) (fx_lt p0 66 (fx_lt p0 66 (fx_lt p0 66 (False))))) p0)
set_option maxHeartbeats 4000000 in
set_option maxRecDepth 100000 in
theorem cw_J0_getBytes_840e7 (l : Launch) (X : fx_X) (a_p1 : Nat) (n_p1 : Nat) (f_p1 : Nat → Int32) (sz : Nat) (p0 : Nat) (p2 : Int32) (p3 : Int32) (post : (Nat → Int32) → Prop) (h : wp_J0_getBytes_840e7 post n_p1 f_p1 p0 p2 p3) : Met l yJ0_getBytes_840e7 wsJ0_getBytes_840e7 ({ frames := 1, cells := 0, slots := 0, locals := 40 }) (va_Pc [.ref (fx_aS X p0), .ref a_p1, .int p2, .int p3] (fx_PW X [(a_p1, .inl (fx_cB X, n_p1, .inl f_p1))] sz)) (va_Qv (fun (u : (Nat → Int32)) => post u) (fun (u : (Nat → Int32)) t => fx_EW X (va_A [(a_p1, .inl (fx_cB X, n_p1, .inl f_p1))] sz) [(a_p1, .inl (fx_cB X, n_p1, .inl u))] t) (va_A [(a_p1, .inl (fx_cB X, n_p1, .inl f_p1))] sz)) 0 0 (va_A [(a_p1, .inl (fx_cB X, n_p1, .inl f_p1))] sz) := by
  refine Met.ofW (cc := cJ0_getBytes_840e7) (maxL := 4) (ret := none) (by decide) rfl ?_
  intro p e s m args below meth c s₁ B hml hv
  obtain ⟨rfl, hsz, hP, hK, hD0, hG⟩ := hv
  have hx := B.exec
  have hb := B.bytes
  have hr := B.returns
  have hts := atoms_spec (ws := wsJ0_getBytes_840e7) B.pre
  have hown : s.vm.findClass RJ0 = some m.cls := findClass_of_methodNamed B.named
  have hlocks := B.notSynchronized
  subst hsz
  have hD := hD0.self (sz := s.heap.size)
  generalize hAe : va_A [(a_p1, .inl (fx_cB X, n_p1, .inl f_p1))] s.heap.size = A at hD hG ⊢
  have hA : ∀ q : Nat, s.heap.size ≤ q → A q := fun q h => by rw [← hAe]; exact Or.inr h
  have hS : va_S A s.heap s.heap [] := va_S.rf
  have k9 := hts (.fieldLink RJ0 9 "java/lang/String" "value" "[B") (by decide +kernel)
  have k212 := hts (.methodLink RJ0 212 arraycopyName) (by decide +kernel)
  have knat := hts (.native arraycopyName) (by decide +kernel)
  have kcst := hts (.static arraycopyName) (by decide +kernel)
  have kcin := hts (.initialized "java/lang/System") (by decide +kernel)
  have hl := lv_entry ([.ref (fx_aS X p0), .ref a_p1, .int p2, .int p3]) (n := 4) (Nat.le_of_ble_eq_true rfl)
  rw [lg_entry_eq]
  generalize (lg_sl ([.ref (fx_aS X p0), .ref a_p1, .int p2, .int p3]) ++ List.replicate (4 - (lg_sl ([.ref (fx_aS X p0), .ref a_p1, .int p2, .int p3])).length) Slot.unset).toArray = ls at hl ⊢
  have hl : lv_has ls 4 [(0, .ref (fx_aS X p0)), (1, .ref a_p1), (2, .int p2), (3, .int p3)] := hl
  unfold wp_J0_getBytes_840e7 at h
  refine lv_aload_n hx hb dJ0_getBytes_840e7_0 rfl (lv_at hl 0 rfl) ?_
  refine vp_callSi (W.runV (As := []) (rest := []) ⟨hx, hb, hml, hown, hts⟩ (cw_J0_coder_7d493 l X   p0 _ h.2) (cwV 0 hts gJ0_getBytes_840e7_J0_coder_7d493 rfl rfl rfl (by decide +kernel) ⟨Nat.le_of_ble_eq_true rfl, Nat.le_of_ble_eq_true rfl⟩) (fx_pv (wc := []) hP hK hG hS (hG.recS h.1 hS) [] rfl) rfl rfl hl.1 rfl (lv_room (Nat.le_of_ble_eq_true rfl)) dJ0_getBytes_840e7_1 ⟨Nat.le_of_ble_eq_true rfl, Nat.le_of_ble_eq_true rfl⟩) (fun r1 h => ?_)
  refine lv_iload_n hx hb dJ0_getBytes_840e7_4 rfl (lv_at hl 3 rfl) ?_
  refine fx_icmp_ne (tgt := 28) hx hb h dJ0_getBytes_840e7_5 (by decide) (fun h => ?_) (fun h => ?_)
  · refine lv_aload_n hx hb dJ0_getBytes_840e7_28 rfl (lv_at hl 0 rfl) ?_
    refine vk_getf hx hb (hG.sval h.1) hS hown k9 (fun _ h9 => h9) dJ0_getBytes_840e7_29 ?_
    have h := h.2
    refine lv_iconst (v := (nI 0)) hx hb dJ0_getBytes_840e7_32 (by decide) ?_
    refine lv_aload_n hx hb dJ0_getBytes_840e7_33 rfl (lv_at hl 1 rfl) ?_
    refine lv_iload_n hx hb dJ0_getBytes_840e7_34 rfl (lv_at hl 2 rfl) ?_
    refine lv_aload_n hx hb dJ0_getBytes_840e7_35 rfl (lv_at hl 0 rfl) ?_
    refine vk_getf hx hb (hG.sval h.1) hS hown k9 (fun _ h9 => h9) dJ0_getBytes_840e7_36 ?_
    have h := h.2
    refine va_tlen (v := nI (fx_sl p0)) hx hb (hG.sbyt h.1) hS rfl dJ0_getBytes_840e7_39 ?_
    have h := h.2
    exact h.elim
  refine lv_aload_n hx hb dJ0_getBytes_840e7_8 rfl (lv_at hl 0 rfl) ?_
  refine vk_getf hx hb (hG.sval h.1) hS hown k9 (fun _ h9 => h9) dJ0_getBytes_840e7_9 ?_
  have h := h.2
  refine lv_iconst (v := (nI 0)) hx hb dJ0_getBytes_840e7_12 (by decide) ?_
  refine lv_aload_n hx hb dJ0_getBytes_840e7_13 rfl (lv_at hl 1 rfl) ?_
  refine lv_iload_n hx hb dJ0_getBytes_840e7_14 rfl (lv_at hl 2 rfl) ?_
  refine lv_iload_n hx hb dJ0_getBytes_840e7_15 rfl (lv_at hl 3 rfl) ?_
  refine fx_ishl hx hb h dJ0_getBytes_840e7_16 (fun v2 h => ?_)
  refine lv_aload_n hx hb dJ0_getBytes_840e7_17 rfl (lv_at hl 0 rfl) ?_
  refine vk_getf hx hb (hG.sval h.1) hS hown k9 (fun _ h9 => h9) dJ0_getBytes_840e7_18 ?_
  have h := h.2
  refine va_tlen (v := nI (fx_sl p0)) hx hb (hG.sbyt h.1) hS rfl dJ0_getBytes_840e7_21 ?_
  have h := h.2
  refine fx_copyt hx hb (by rw [hml]; exact hl.1.symm) hown k212 knat kcst kcin hK hP hD hS (hG.sbyt h.1) 0 3 rfl rfl h.2 (Nat.le_of_ble_eq_true rfl) (by decide +kernel) dJ0_getBytes_840e7_22 (fun g3 => [(a_p1, .inl (fx_cB X, n_p1, .inl g3))]) (fun _ => rfl) (fun H locs g3 h hP hD hS => ?_)
  refine lv_goto (tgt := 43) hx hb dJ0_getBytes_840e7_25 (by decide) ?_
  exact W.vret hx hb hr (fun t ht hW => ⟨⟨g3, rfl, h, by rw [ht]; exact hP, va_K.moved hW.alike hK, hD⟩, hS.F ht⟩) hS.2.2 dJ0_getBytes_840e7_43

/-- J5_inflateIfNeededFor_a7421: its walk -/
def wp_J5_inflateIfNeededFor_a7421 (post : Prop) (p1 : Nat) : Prop :=
  fx_lt p1 66 (wp_J0_coder_7d493 (fun r1 => fx_br ((nI 0) = r1) (post) (False)) p1)
theorem im_J5_inflateIfNeededFor_a7421_J4 : ∀ w ∈ u_ws RJ4 TJ4 4, w ∈ wsJ5_inflateIfNeededFor_a7421 := by decide +kernel
set_option maxHeartbeats 4000000 in
set_option maxRecDepth 100000 in
theorem cw_J5_inflateIfNeededFor_a7421 (l : Launch) (X : fx_X) (a_o : Nat) (a_o_value : Nat) (s_o_maybeLatin1 : Int32) (s_o_count : Int32) (p1 : Nat) (post : Prop) (h : wp_J5_inflateIfNeededFor_a7421 post p1) : Met l yJ5_inflateIfNeededFor_a7421 wsJ5_inflateIfNeededFor_a7421 ({ frames := 1, cells := 0, slots := 0, locals := 20 }) (va_Pc [.ref a_o, .ref (fx_aS X p1)] (fx_PP X [(a_o, .inr (0, [.ref a_o_value, .int (nI 0), .int s_o_maybeLatin1, .int s_o_count]))])) (va_Sv (fun _ => post)) 0 0 (fun _ => False) := by
  refine Met.ofW (cc := cJ5_inflateIfNeededFor_a7421) (maxL := 2) (ret := none) (by decide) rfl ?_
  intro p e s m args below meth c s₁ B hml hv
  obtain ⟨rfl, hP, hK, hG⟩ := hv
  have hx := B.exec
  have hb := B.bytes
  have hr := B.returns
  have hts := atoms_spec (ws := wsJ5_inflateIfNeededFor_a7421) B.pre
  have hown : s.vm.findClass RJ5 = some m.cls := findClass_of_methodNamed B.named
  have hlocks := B.notSynchronized
  have hS : va_S (fun _ => False) s.heap s.heap [] := va_S.rf
  have k18 := hts (.fieldLink RJ5 18 "java/lang/String" "COMPACT_STRINGS" "Z") (by decide +kernel)
  have k22 := hts (.fieldLink RJ5 22 "java/lang/AbstractStringBuilder" "coder" "B") (by decide +kernel)
  have hl := lv_entry ([.ref a_o, .ref (fx_aS X p1)]) (n := 2) (Nat.le_of_ble_eq_true rfl)
  rw [lg_entry_eq]
  generalize (lg_sl ([.ref a_o, .ref (fx_aS X p1)]) ++ List.replicate (2 - (lg_sl ([.ref a_o, .ref (fx_aS X p1)])).length) Slot.unset).toArray = ls at hl ⊢
  have hl : lv_has ls 2 [(0, .ref a_o), (1, .ref (fx_aS X p1))] := hl
  unfold wp_J5_inflateIfNeededFor_a7421 at h
  refine va_gets (v := .int (nI 1)) hx hb hG.cs hS hown k18 (fun _ h9 => h9) dJ5_inflateIfNeededFor_a7421_0 ?_
  refine lv_if_eq (tgt := 21) hx hb dJ5_inflateIfNeededFor_a7421_3 (by decide) (fun q => absurd q (by decide)) (fun _ => ?_)
  refine lv_aload_n hx hb dJ5_inflateIfNeededFor_a7421_6 rfl (lv_at hl 0 rfl) ?_
  refine va_get (D := fx_D X) (ci := 0) (v := .int (nI 0)) (C := RJ4) (T := TJ4) (N := 4) hx hb hts im_J5_inflateIfNeededFor_a7421_J4 hown hK hP 0 rfl rfl 1 (by decide) k22 (fun _ h9 => h9) rfl dJ5_inflateIfNeededFor_a7421_7 ?_
  refine lv_aload_n hx hb dJ5_inflateIfNeededFor_a7421_10 rfl (lv_at hl 1 rfl) ?_
  refine vp_callSi (W.runV (As := []) (rest := [.int (nI 0)]) ⟨hx, hb, hml, hown, hts⟩ (cw_J0_coder_7d493 l X   p1 _ h.2) (cwV 0 hts gJ5_inflateIfNeededFor_a7421_J0_coder_7d493 rfl rfl rfl (by decide +kernel) ⟨Nat.le_of_ble_eq_true rfl, Nat.le_of_ble_eq_true rfl⟩) (fx_pv (wc := []) hP hK hG hS (hG.recS h.1 hS) [] rfl) rfl rfl hl.1 rfl (lv_room (Nat.le_of_ble_eq_true rfl)) dJ5_inflateIfNeededFor_a7421_11 ⟨Nat.le_of_ble_eq_true rfl, Nat.le_of_ble_eq_true rfl⟩) (fun r1 h => ?_)
  refine fx_icmp_eq (tgt := 21) hx hb h dJ5_inflateIfNeededFor_a7421_14 (by decide) (fun h => ?_) (fun h => ?_)
  · exact W.vret hx hb hr (fun t ht hW => ⟨rfl, h, ht⟩) (fun q hq => by cases hq) dJ5_inflateIfNeededFor_a7421_21
  refine lv_aload_n hx hb dJ5_inflateIfNeededFor_a7421_17 rfl (lv_at hl 0 rfl) ?_
  exact h.elim

/-- J5_putStringAt_47b60: its walk -/
def wp_J5_putStringAt_47b60 (post : (Nat → Int32) → Prop) (n_o_value : Nat) (f_o_value : Nat → Int32) (p1 : Int32) (p2 : Nat) : Prop :=
  wp_J5_inflateIfNeededFor_a7421 (fx_lt p2 66 (wp_J0_getBytes_840e7 (fun y1 => post y1) n_o_value f_o_value p2 p1 (nI 0))) p2
theorem im_J5_putStringAt_47b60_J4 : ∀ w ∈ u_ws RJ4 TJ4 4, w ∈ wsJ5_putStringAt_47b60 := by decide +kernel
set_option maxHeartbeats 4000000 in
set_option maxRecDepth 100000 in
theorem cw_J5_putStringAt_47b60 (l : Launch) (X : fx_X) (a_o : Nat) (s_o_maybeLatin1 : Int32) (s_o_count : Int32) (a_o_value : Nat) (n_o_value : Nat) (f_o_value : Nat → Int32) (sz : Nat) (p1 : Int32) (p2 : Nat) (post : (Nat → Int32) → Prop) (h : wp_J5_putStringAt_47b60 post n_o_value f_o_value p1 p2) : Met l yJ5_putStringAt_47b60 wsJ5_putStringAt_47b60 ({ frames := 2, cells := 0, slots := 0, locals := 63 }) (va_Pc [.ref a_o, .int p1, .ref (fx_aS X p2)] (fx_PW X [(a_o, .inr (0, [.ref a_o_value, .int (nI 0), .int s_o_maybeLatin1, .int s_o_count])), (a_o_value, .inl (fx_cB X, n_o_value, .inl f_o_value))] sz)) (va_Qv (fun (u : (Nat → Int32)) => post u) (fun (u : (Nat → Int32)) t => fx_EW X (va_A [(a_o, .inr (0, [.ref a_o_value, .int (nI 0), .int s_o_maybeLatin1, .int s_o_count])), (a_o_value, .inl (fx_cB X, n_o_value, .inl f_o_value))] sz) [(a_o, .inr (0, [.ref a_o_value, .int (nI 0), .int s_o_maybeLatin1, .int s_o_count])), (a_o_value, .inl (fx_cB X, n_o_value, .inl u))] t) (va_A [(a_o, .inr (0, [.ref a_o_value, .int (nI 0), .int s_o_maybeLatin1, .int s_o_count])), (a_o_value, .inl (fx_cB X, n_o_value, .inl f_o_value))] sz)) 0 0 (va_A [(a_o, .inr (0, [.ref a_o_value, .int (nI 0), .int s_o_maybeLatin1, .int s_o_count])), (a_o_value, .inl (fx_cB X, n_o_value, .inl f_o_value))] sz) := by
  refine Met.ofW (cc := cJ5_putStringAt_47b60) (maxL := 3) (ret := none) (by decide) rfl ?_
  intro p e s m args below meth c s₁ B hml hv
  obtain ⟨rfl, hsz, hP, hK, hD0, hG⟩ := hv
  have hx := B.exec
  have hb := B.bytes
  have hr := B.returns
  have hts := atoms_spec (ws := wsJ5_putStringAt_47b60) B.pre
  have hown : s.vm.findClass RJ5 = some m.cls := findClass_of_methodNamed B.named
  have hlocks := B.notSynchronized
  subst hsz
  have hD := hD0.self (sz := s.heap.size)
  generalize hAe : va_A [(a_o, .inr (0, [.ref a_o_value, .int (nI 0), .int s_o_maybeLatin1, .int s_o_count])), (a_o_value, .inl (fx_cB X, n_o_value, .inl f_o_value))] s.heap.size = A at hD hG ⊢
  have hA : ∀ q : Nat, s.heap.size ≤ q → A q := fun q h => by rw [← hAe]; exact Or.inr h
  have hS : va_S A s.heap s.heap [] := va_S.rf
  have k22 := hts (.fieldLink RJ5 22 "java/lang/AbstractStringBuilder" "coder" "B") (by decide +kernel)
  have k15 := hts (.fieldLink RJ5 15 "java/lang/AbstractStringBuilder" "value" "[B") (by decide +kernel)
  have hl := lv_entry ([.ref a_o, .int p1, .ref (fx_aS X p2)]) (n := 3) (Nat.le_of_ble_eq_true rfl)
  rw [lg_entry_eq]
  generalize (lg_sl ([.ref a_o, .int p1, .ref (fx_aS X p2)]) ++ List.replicate (3 - (lg_sl ([.ref a_o, .int p1, .ref (fx_aS X p2)])).length) Slot.unset).toArray = ls at hl ⊢
  have hl : lv_has ls 3 [(0, .ref a_o), (1, .int p1), (2, .ref (fx_aS X p2))] := hl
  unfold wp_J5_putStringAt_47b60 at h
  refine lv_aload_n hx hb dJ5_putStringAt_47b60_0 rfl (lv_at hl 0 rfl) ?_
  refine lv_aload_n hx hb dJ5_putStringAt_47b60_1 rfl (lv_at hl 2 rfl) ?_
  refine va_csv ((va_runU (As := [.ref (fx_aS X p2)]) (rest := [])  ⟨hx, hb, hml, hown, hts⟩ (cw_J5_inflateIfNeededFor_a7421 l X a_o a_o_value s_o_maybeLatin1 s_o_count p2 _ h) (va_cwU 1 hts gJ5_putStringAt_47b60_J5_inflateIfNeededFor_a7421_u397J4 rfl rfl rfl rfl (by decide +kernel) ⟨Nat.le_of_ble_eq_true rfl, Nat.le_of_ble_eq_true rfl⟩) (fx_pv hP hK hG hS (va_recv hK hP (ci := 0) (q0 := 0) rfl rfl) [0] rfl) rfl rfl hl.1 rfl (lv_room (Nat.le_of_ble_eq_true rfl)) dJ5_putStringAt_47b60_2 ⟨Nat.le_of_ble_eq_true rfl, Nat.le_of_ble_eq_true rfl⟩).run) (fun h => ?_)
  refine lv_aload_n hx hb dJ5_putStringAt_47b60_5 rfl (lv_at hl 2 rfl) ?_
  refine lv_aload_n hx hb dJ5_putStringAt_47b60_6 rfl (lv_at hl 0 rfl) ?_
  refine va_get (D := fx_D X) (ci := 0) (v := .ref a_o_value) (C := RJ4) (T := TJ4) (N := 4) hx hb hts im_J5_putStringAt_47b60_J4 hown hK hP 0 rfl rfl 0 (by decide) k15 (fun _ h9 => h9) rfl dJ5_putStringAt_47b60_7 ?_
  refine lv_iload_n hx hb dJ5_putStringAt_47b60_10 rfl (lv_at hl 1 rfl) ?_
  refine lv_aload_n hx hb dJ5_putStringAt_47b60_11 rfl (lv_at hl 0 rfl) ?_
  refine va_get (D := fx_D X) (ci := 0) (v := .int (nI 0)) (C := RJ4) (T := TJ4) (N := 4) hx hb hts im_J5_putStringAt_47b60_J4 hown hK hP 0 rfl rfl 1 (by decide) k22 (fun _ h9 => h9) rfl dJ5_putStringAt_47b60_12 ?_
  have hFc := va_free (wc := [(a_o_value, .inl (fx_cB X, n_o_value, .inl f_o_value))]) hD hS hA [1] rfl
  refine va_callv (va_runV (As := [.ref a_o_value, .int p1, .int (nI 0)]) (rest := []) ⟨hx, hb, hml, hown, hts⟩ (cw_J0_getBytes_840e7 l X a_o_value n_o_value f_o_value _ p2 p1 (nI 0) _ h.2) (cwV 3 hts gJ5_putStringAt_47b60_J0_getBytes_840e7 rfl rfl rfl (by decide +kernel) ⟨Nat.le_of_ble_eq_true rfl, Nat.le_of_ble_eq_true rfl⟩) (fx_pvW hP hD hK hG hS hFc (hG.recS h.1 hS) [1] (by decide) rfl) rfl rfl hl.1 rfl (lv_room (Nat.le_of_ble_eq_true rfl)) dJ5_putStringAt_47b60_15 ⟨Nat.le_of_ble_eq_true rfl, Nat.le_of_ble_eq_true rfl⟩) hS (fun q _ h => hFc q h) hFc (fun u t H locs ht hvm h hB _ hk hS => ?_)
  obtain ⟨y1, rfl⟩ : ∃ z, z = u := ⟨_, rfl⟩
  obtain ⟨hP, hD⟩ := fx_back (wr := [(a_o, .inr (0, [.ref a_o_value, .int (nI 0), .int s_o_maybeLatin1, .int s_o_count]))]) (ws' := [(a_o, .inr (0, [.ref a_o_value, .int (nI 0), .int s_o_maybeLatin1, .int s_o_count])), (a_o_value, .inl (fx_cB X, n_o_value, .inl y1))]) hP hD [1] [0] rfl rfl (by decide) (by decide) hk hFc hB ht [0, 1] (by decide) rfl
  exact W.vret hx hb hr (fun t ht hW => ⟨⟨y1, rfl, h, by rw [ht]; exact hP, va_K.moved hW.alike hK, hD⟩, hS.F ht⟩) hS.2.2 dJ5_putStringAt_47b60_18

/-- J5_append_cf1ce: its walk -/
def wp_J5_append_cf1ce (post : Int32 → Nat → (Nat → Int32) → Prop) (mc ms : Nat) (s_o_count : Int32) (n_o_value : Nat) (f_o_value : Nat → Int32) (p1 : Nat) : Prop :=
  fx_lt p1 66 (wp_J0_length_8abf5 (fun r1 => fx_nm (s_o_count + r1) (fun v2 => fx_al 0 0 mc ms (fun a6 b7 => wp_J5_ensureCapacityInternal_d00df (fun y4 y5 => wp_J5_putStringAt_47b60 (fun y8 => fx_nm (s_o_count + r1) (fun v9 => post v9 y4 y8)) y4 y5 s_o_count p1) a6 b7 n_o_value f_o_value v2))) p1)
theorem im_J5_append_cf1ce_J4 : ∀ w ∈ u_ws RJ4 TJ4 4, w ∈ wsJ5_append_cf1ce := by decide +kernel
set_option maxHeartbeats 4000000 in
set_option maxRecDepth 100000 in
theorem cw_J5_append_cf1ce (l : Launch) (X : fx_X) (a_o : Nat) (s_o_maybeLatin1 : Int32) (s_o_count : Int32) (a_o_value : Nat) (n_o_value : Nat) (f_o_value : Nat → Int32) (sz : Nat) (mc ms : Nat) (p1 : Nat) (post : Int32 → Nat → (Nat → Int32) → Prop) (h : wp_J5_append_cf1ce post mc ms s_o_count n_o_value f_o_value p1) : Met l yJ5_append_cf1ce wsJ5_append_cf1ce ({ frames := 4, cells := mc, slots := ms, locals := 104 }) (va_Pc [.ref a_o, .ref (fx_aS X p1)] (fx_PW X [(a_o, .inr (0, [.ref a_o_value, .int (nI 0), .int s_o_maybeLatin1, .int s_o_count])), (a_o_value, .inl (fx_cB X, n_o_value, .inl f_o_value))] sz)) (va_Qr (fun (u : Int32 × Nat × Nat × (Nat → Int32)) => post u.1 u.2.2.1 u.2.2.2) (fun (u : Int32 × Nat × Nat × (Nat → Int32)) a t => a_o = a ∧ fx_EW X (va_A [(a_o, .inr (0, [.ref a_o_value, .int (nI 0), .int s_o_maybeLatin1, .int s_o_count])), (a_o_value, .inl (fx_cB X, n_o_value, .inl f_o_value))] sz) [(a_o, .inr (0, [.ref u.2.1, .int (nI 0), .int s_o_maybeLatin1, .int u.1])), (u.2.1, .inl (fx_cB X, u.2.2.1, .inl u.2.2.2))] t) (va_A [(a_o, .inr (0, [.ref a_o_value, .int (nI 0), .int s_o_maybeLatin1, .int s_o_count])), (a_o_value, .inl (fx_cB X, n_o_value, .inl f_o_value))] sz)) mc ms (va_A [(a_o, .inr (0, [.ref a_o_value, .int (nI 0), .int s_o_maybeLatin1, .int s_o_count])), (a_o_value, .inl (fx_cB X, n_o_value, .inl f_o_value))] sz) := by
  refine Met.ofW (cc := cJ5_append_cf1ce) (maxL := 3) (ret := (some (.object "java/lang/AbstractStringBuilder"))) (by decide) rfl ?_
  intro p e s m args below meth c s₁ B hml hv
  obtain ⟨rfl, hsz, hP, hK, hD0, hG⟩ := hv
  have hx := B.exec
  have hb := B.bytes
  have hr := B.returns
  have hts := atoms_spec (ws := wsJ5_append_cf1ce) B.pre
  have hown : s.vm.findClass RJ5 = some m.cls := findClass_of_methodNamed B.named
  have hlocks := B.notSynchronized
  subst hsz
  have hD := hD0.self (sz := s.heap.size)
  generalize hAe : va_A [(a_o, .inr (0, [.ref a_o_value, .int (nI 0), .int s_o_maybeLatin1, .int s_o_count])), (a_o_value, .inl (fx_cB X, n_o_value, .inl f_o_value))] s.heap.size = A at hD hG ⊢
  have hA : ∀ q : Nat, s.heap.size ≤ q → A q := fun q h => by rw [← hAe]; exact Or.inr h
  have hS : va_S A s.heap s.heap [] := va_S.rf
  have hce : 0 ≤ mc := Nat.zero_le _
  have hsl : 0 ≤ ms := Nat.zero_le _
  have k79 := hts (.fieldLink RJ5 79 "java/lang/AbstractStringBuilder" "count" "I") (by decide +kernel)
  have hl := lv_entry ([.ref a_o, .ref (fx_aS X p1)]) (n := 3) (Nat.le_of_ble_eq_true rfl)
  rw [lg_entry_eq]
  generalize (lg_sl ([.ref a_o, .ref (fx_aS X p1)]) ++ List.replicate (3 - (lg_sl ([.ref a_o, .ref (fx_aS X p1)])).length) Slot.unset).toArray = ls at hl ⊢
  have hl : lv_has ls 3 [(0, .ref a_o), (1, .ref (fx_aS X p1))] := hl
  unfold wp_J5_append_cf1ce at h
  refine lv_aload_n hx hb dJ5_append_cf1ce_0 rfl (lv_at hl 1 rfl) ?_
  refine lv_ifnonnull (tgt := 9) hx hb dJ5_append_cf1ce_1 (by decide) ?_
  refine lv_aload_n hx hb dJ5_append_cf1ce_9 rfl (lv_at hl 1 rfl) ?_
  refine vp_callSi (W.runV (As := []) (rest := []) ⟨hx, hb, hml, hown, hts⟩ (cw_J0_length_8abf5 l X   p1 _ h.2) (cwV 0 hts gJ5_append_cf1ce_J0_length_8abf5 rfl rfl rfl (by decide +kernel) ⟨Nat.le_of_ble_eq_true rfl, Nat.le_of_ble_eq_true rfl⟩) (fx_pv (wc := []) hP hK hG hS (hG.recS h.1 hS) [] rfl) rfl rfl hl.1 rfl (lv_room (Nat.le_of_ble_eq_true rfl)) dJ5_append_cf1ce_10 ⟨hce, hsl⟩) (fun r1 h => ?_)
  refine lv_istore_n (lv' := [(2, .int r1), (0, .ref a_o), (1, .ref (fx_aS X p1))]) hx hb dJ5_append_cf1ce_13 rfl hl (by decide) rfl (fun ls hl => ?_)
  refine lv_aload_n hx hb dJ5_append_cf1ce_14 rfl (lv_at hl 1 rfl) ?_
  refine lv_aload_n hx hb dJ5_append_cf1ce_15 rfl (lv_at hl 1 rfl) ?_
  refine va_get (D := fx_D X) (ci := 0) (v := .int s_o_count) (C := RJ4) (T := TJ4) (N := 4) hx hb hts im_J5_append_cf1ce_J4 hown hK hP 0 rfl rfl 3 (by decide) k79 (fun _ h9 => h9) rfl dJ5_append_cf1ce_16 ?_
  refine lv_iload_n hx hb dJ5_append_cf1ce_19 rfl (lv_at hl 0 rfl) ?_
  refine fx_iadd hx hb h dJ5_append_cf1ce_20 (fun v2 h => ?_)
  obtain ⟨a6, b7, hce, hsl, h⟩ := h
  have hFc := va_free (wc := [(a_o, .inr (0, [.ref a_o_value, .int (nI 0), .int s_o_maybeLatin1, .int s_o_count])), (a_o_value, .inl (fx_cB X, n_o_value, .inl f_o_value))]) hD hS hA [0, 1] rfl
  refine va_callv (va_runU (As := [.int v2]) (rest := [])  ⟨hx, hb, hml, hown, hts⟩ (cw_J5_ensureCapacityInternal_d00df l X a_o s_o_maybeLatin1 s_o_count a_o_value n_o_value f_o_value _ a6 b7 v2 _ h) (va_cwU 1 hts gJ5_append_cf1ce_J5_ensureCapacityInternal_d00df_u100J4 rfl rfl rfl rfl (by decide +kernel) ⟨Nat.le_of_ble_eq_true rfl, Nat.le_of_ble_eq_true rfl⟩) (fx_pvW hP hD hK hG hS hFc (va_recv hK hP (ci := 0) (q0 := 0) rfl rfl) [0, 1] (by decide) rfl) rfl rfl hl.1 rfl (lv_room (Nat.le_of_ble_eq_true rfl)) dJ5_append_cf1ce_21 ⟨hce, hsl⟩) hS (fun q _ h => hFc q h) hFc (fun u t H locs ht hvm h hB _ hk hS => ?_)
  obtain ⟨y3, y4, y5⟩ := u
  dsimp only at h
  obtain ⟨hP, hD⟩ := fx_back (wr := []) (ws' := [(a_o, .inr (0, [.ref y3, .int (nI 0), .int s_o_maybeLatin1, .int s_o_count])), (y3, .inl (fx_cB X, y4, .inl y5))]) hP hD [0, 1] [] rfl rfl (by decide) (by decide) hk hFc hB ht [0, 1] (by decide) rfl
  refine lv_aload_n hx hb dJ5_append_cf1ce_24 rfl (lv_at hl 1 rfl) ?_
  refine lv_aload_n hx hb dJ5_append_cf1ce_25 rfl (lv_at hl 1 rfl) ?_
  refine va_get (D := fx_D X) (ci := 0) (v := .int s_o_count) (C := RJ4) (T := TJ4) (N := 4) hx hb hts im_J5_append_cf1ce_J4 hown hK hP 0 rfl rfl 3 (by decide) k79 (fun _ h9 => h9) rfl dJ5_append_cf1ce_26 ?_
  refine lv_aload_n hx hb dJ5_append_cf1ce_29 rfl (lv_at hl 2 rfl) ?_
  have hFc := va_free (wc := [(a_o, .inr (0, [.ref y3, .int (nI 0), .int s_o_maybeLatin1, .int s_o_count])), (y3, .inl (fx_cB X, y4, .inl y5))]) hD hS hA [0, 1] rfl
  refine va_callv (va_runU (As := [.int s_o_count, .ref (fx_aS X p1)]) (rest := [])  ⟨hx, hb, hml, hown, hts⟩ (cw_J5_putStringAt_47b60 l X a_o s_o_maybeLatin1 s_o_count y3 y4 y5 _ s_o_count p1 _ h) (va_cwU 2 hts gJ5_append_cf1ce_J5_putStringAt_47b60_u208J4 rfl rfl rfl rfl (by decide +kernel) ⟨Nat.le_of_ble_eq_true rfl, Nat.le_of_ble_eq_true rfl⟩) (fx_pvW hP hD hK hG hS hFc (va_recv hK hP (ci := 0) (q0 := 0) rfl rfl) [0, 1] (by decide) rfl) rfl rfl hl.1 rfl (lv_room (Nat.le_of_ble_eq_true rfl)) dJ5_append_cf1ce_30 ⟨hce, hsl⟩) hS (fun q _ h => hFc q h) hFc (fun u t H locs ht hvm h hB _ hk hS => ?_)
  obtain ⟨y8, rfl⟩ : ∃ z, z = u := ⟨_, rfl⟩
  obtain ⟨hP, hD⟩ := fx_back (wr := []) (ws' := [(a_o, .inr (0, [.ref y3, .int (nI 0), .int s_o_maybeLatin1, .int s_o_count])), (y3, .inl (fx_cB X, y4, .inl y8))]) hP hD [0, 1] [] rfl rfl (by decide) (by decide) hk hFc hB ht [0, 1] (by decide) rfl
  refine lv_aload_n hx hb dJ5_append_cf1ce_33 rfl (lv_at hl 1 rfl) ?_
  refine lv_dup hx hb dJ5_append_cf1ce_34 rfl ?_
  refine va_get (D := fx_D X) (ci := 0) (v := .int s_o_count) (C := RJ4) (T := TJ4) (N := 4) hx hb hts im_J5_append_cf1ce_J4 hown hK hP 0 rfl rfl 3 (by decide) k79 (fun _ h9 => h9) rfl dJ5_append_cf1ce_35 ?_
  refine lv_iload_n hx hb dJ5_append_cf1ce_38 rfl (lv_at hl 0 rfl) ?_
  refine fx_iadd hx hb h dJ5_append_cf1ce_39 (fun v9 h => ?_)
  refine va_put (D := fx_D X) (ci := 0) (v := .int v9) (ty := .int) (C := RJ4) (T := TJ4) (N := 4) hx hb hts im_J5_append_cf1ce_J4 tyJ4 tyJ4_ok nmJ4 hown hK hP hD hS 0 rfl rfl 3 (by decide) k79 (fun _ h9 => h9) rfl (by decide +kernel) rfl rfl (Nat.le_of_ble_eq_true rfl) dJ5_append_cf1ce_40 (fun H locs hP hD hS => ?_)
  have hP : va_P (fx_D X) vwCl [(a_o, .inr (0, [.ref y3, .int (nI 0), .int s_o_maybeLatin1, .int v9])), (y3, .inl (fx_cB X, y4, .inl y8))] H := hP
  have hD : va_D A [(a_o, .inr (0, [.ref y3, .int (nI 0), .int s_o_maybeLatin1, .int v9])), (y3, .inl (fx_cB X, y4, .inl y8))] := hD
  refine lv_aload_n hx hb dJ5_append_cf1ce_43 rfl (lv_at hl 1 rfl) ?_
  refine W.widen (k := mc) (n := ms) hce hsl ?_
  exact W.aret (v := .ref a_o) hx hb hr (Or.inl ⟨_, rfl⟩) (Or.inr ⟨_, rfl⟩) (fun t ht hW => ⟨⟨(v9, y3, y4, y8), a_o, rfl, h, rfl, by rw [ht]; exact hP, va_K.moved hW.alike hK, hD⟩, hS.F ht⟩) hS.2.2 dJ5_append_cf1ce_44

/-- J5_setLength_d00df: its walk -/
def wp_J5_setLength_d00df (post : Int32 → Int32 → Nat → (Nat → Int32) → Prop) (mc ms : Nat) (s_o_maybeLatin1 : Int32) (s_o_count : Int32) (n_o_value : Nat) (f_o_value : Nat → Int32) (p1 : Int32) : Prop :=
  fx_br (0 ≤ p1) (fx_al 0 0 mc ms (fun a4 b5 => wp_J5_ensureCapacityInternal_d00df (fun y2 y3 => fx_br (p1 ≤ s_o_count) (fx_br (s_o_count ≤ p1) (post s_o_maybeLatin1 p1 y2 y3) (post (nI 1) p1 y2 y3)) (wp_J5_isLatin1_aae02 (fun r6 => fx_br (r6 = 0) (False) (False)) )) a4 b5 n_o_value f_o_value p1)) (False)
theorem im_J5_setLength_d00df_J4 : ∀ w ∈ u_ws RJ4 TJ4 4, w ∈ wsJ5_setLength_d00df := by decide +kernel
set_option maxHeartbeats 4000000 in
set_option maxRecDepth 100000 in
theorem cw_J5_setLength_d00df (l : Launch) (X : fx_X) (a_o : Nat) (s_o_maybeLatin1 : Int32) (s_o_count : Int32) (a_o_value : Nat) (n_o_value : Nat) (f_o_value : Nat → Int32) (sz : Nat) (mc ms : Nat) (p1 : Int32) (post : Int32 → Int32 → Nat → (Nat → Int32) → Prop) (h : wp_J5_setLength_d00df post mc ms s_o_maybeLatin1 s_o_count n_o_value f_o_value p1) : Met l yJ5_setLength_d00df wsJ5_setLength_d00df ({ frames := 4, cells := mc, slots := ms, locals := 104 }) (va_Pc [.ref a_o, .int p1] (fx_PW X [(a_o, .inr (0, [.ref a_o_value, .int (nI 0), .int s_o_maybeLatin1, .int s_o_count])), (a_o_value, .inl (fx_cB X, n_o_value, .inl f_o_value))] sz)) (va_Qv (fun (u : Int32 × Int32 × Nat × Nat × (Nat → Int32)) => post u.1 u.2.1 u.2.2.2.1 u.2.2.2.2) (fun (u : Int32 × Int32 × Nat × Nat × (Nat → Int32)) t => fx_EW X (va_A [(a_o, .inr (0, [.ref a_o_value, .int (nI 0), .int s_o_maybeLatin1, .int s_o_count])), (a_o_value, .inl (fx_cB X, n_o_value, .inl f_o_value))] sz) [(a_o, .inr (0, [.ref u.2.2.1, .int (nI 0), .int u.1, .int u.2.1])), (u.2.2.1, .inl (fx_cB X, u.2.2.2.1, .inl u.2.2.2.2))] t) (va_A [(a_o, .inr (0, [.ref a_o_value, .int (nI 0), .int s_o_maybeLatin1, .int s_o_count])), (a_o_value, .inl (fx_cB X, n_o_value, .inl f_o_value))] sz)) mc ms (va_A [(a_o, .inr (0, [.ref a_o_value, .int (nI 0), .int s_o_maybeLatin1, .int s_o_count])), (a_o_value, .inl (fx_cB X, n_o_value, .inl f_o_value))] sz) := by
  refine Met.ofW (cc := cJ5_setLength_d00df) (maxL := 2) (ret := none) (by decide) rfl ?_
  intro p e s m args below meth c s₁ B hml hv
  obtain ⟨rfl, hsz, hP, hK, hD0, hG⟩ := hv
  have hx := B.exec
  have hb := B.bytes
  have hr := B.returns
  have hts := atoms_spec (ws := wsJ5_setLength_d00df) B.pre
  have hown : s.vm.findClass RJ5 = some m.cls := findClass_of_methodNamed B.named
  have hlocks := B.notSynchronized
  subst hsz
  have hD := hD0.self (sz := s.heap.size)
  generalize hAe : va_A [(a_o, .inr (0, [.ref a_o_value, .int (nI 0), .int s_o_maybeLatin1, .int s_o_count])), (a_o_value, .inl (fx_cB X, n_o_value, .inl f_o_value))] s.heap.size = A at hD hG ⊢
  have hA : ∀ q : Nat, s.heap.size ≤ q → A q := fun q h => by rw [← hAe]; exact Or.inr h
  have hS : va_S A s.heap s.heap [] := va_S.rf
  have hce : 0 ≤ mc := Nat.zero_le _
  have hsl : 0 ≤ ms := Nat.zero_le _
  have k79 := hts (.fieldLink RJ5 79 "java/lang/AbstractStringBuilder" "count" "I") (by decide +kernel)
  have k73 := hts (.fieldLink RJ5 73 "java/lang/AbstractStringBuilder" "maybeLatin1" "Z") (by decide +kernel)
  have k15 := hts (.fieldLink RJ5 15 "java/lang/AbstractStringBuilder" "value" "[B") (by decide +kernel)
  have hl := lv_entry ([.ref a_o, .int p1]) (n := 2) (Nat.le_of_ble_eq_true rfl)
  rw [lg_entry_eq]
  generalize (lg_sl ([.ref a_o, .int p1]) ++ List.replicate (2 - (lg_sl ([.ref a_o, .int p1])).length) Slot.unset).toArray = ls at hl ⊢
  have hl : lv_has ls 2 [(0, .ref a_o), (1, .int p1)] := hl
  unfold wp_J5_setLength_d00df at h
  refine lv_iload_n hx hb dJ5_setLength_d00df_0 rfl (lv_at hl 1 rfl) ?_
  refine fx_if_ge (tgt := 13) hx hb h dJ5_setLength_d00df_1 (by decide) (fun h => ?_) (fun h => ?_)
  · refine lv_aload_n hx hb dJ5_setLength_d00df_13 rfl (lv_at hl 0 rfl) ?_
    refine lv_iload_n hx hb dJ5_setLength_d00df_14 rfl (lv_at hl 1 rfl) ?_
    obtain ⟨a4, b5, hce, hsl, h⟩ := h
    have hFc := va_free (wc := [(a_o, .inr (0, [.ref a_o_value, .int (nI 0), .int s_o_maybeLatin1, .int s_o_count])), (a_o_value, .inl (fx_cB X, n_o_value, .inl f_o_value))]) hD hS hA [0, 1] rfl
    refine va_callv (va_runU (As := [.int p1]) (rest := [])  ⟨hx, hb, hml, hown, hts⟩ (cw_J5_ensureCapacityInternal_d00df l X a_o s_o_maybeLatin1 s_o_count a_o_value n_o_value f_o_value _ a4 b5 p1 _ h) (va_cwU 1 hts gJ5_setLength_d00df_J5_ensureCapacityInternal_d00df_u100J4 rfl rfl rfl rfl (by decide +kernel) ⟨Nat.le_of_ble_eq_true rfl, Nat.le_of_ble_eq_true rfl⟩) (fx_pvW hP hD hK hG hS hFc (va_recv hK hP (ci := 0) (q0 := 0) rfl rfl) [0, 1] (by decide) rfl) rfl rfl hl.1 rfl (lv_room (Nat.le_of_ble_eq_true rfl)) dJ5_setLength_d00df_15 ⟨hce, hsl⟩) hS (fun q _ h => hFc q h) hFc (fun u t H locs ht hvm h hB _ hk hS => ?_)
    obtain ⟨y1, y2, y3⟩ := u
    dsimp only at h
    obtain ⟨hP, hD⟩ := fx_back (wr := []) (ws' := [(a_o, .inr (0, [.ref y1, .int (nI 0), .int s_o_maybeLatin1, .int s_o_count])), (y1, .inl (fx_cB X, y2, .inl y3))]) hP hD [0, 1] [] rfl rfl (by decide) (by decide) hk hFc hB ht [0, 1] (by decide) rfl
    refine lv_aload_n hx hb dJ5_setLength_d00df_18 rfl (lv_at hl 0 rfl) ?_
    refine va_get (D := fx_D X) (ci := 0) (v := .int s_o_count) (C := RJ4) (T := TJ4) (N := 4) hx hb hts im_J5_setLength_d00df_J4 hown hK hP 0 rfl rfl 3 (by decide) k79 (fun _ h9 => h9) rfl dJ5_setLength_d00df_19 ?_
    refine lv_iload_n hx hb dJ5_setLength_d00df_22 rfl (lv_at hl 1 rfl) ?_
    refine fx_icmp_ge (tgt := 63) hx hb h dJ5_setLength_d00df_23 (by decide) (fun h => ?_) (fun h => ?_)
    · refine lv_aload_n hx hb dJ5_setLength_d00df_63 rfl (lv_at hl 0 rfl) ?_
      refine va_get (D := fx_D X) (ci := 0) (v := .int s_o_count) (C := RJ4) (T := TJ4) (N := 4) hx hb hts im_J5_setLength_d00df_J4 hown hK hP 0 rfl rfl 3 (by decide) k79 (fun _ h9 => h9) rfl dJ5_setLength_d00df_64 ?_
      refine lv_iload_n hx hb dJ5_setLength_d00df_67 rfl (lv_at hl 1 rfl) ?_
      refine fx_icmp_le (tgt := 76) hx hb h dJ5_setLength_d00df_68 (by decide) (fun h => ?_) (fun h => ?_)
      · refine lv_aload_n hx hb dJ5_setLength_d00df_76 rfl (lv_at hl 0 rfl) ?_
        refine lv_iload_n hx hb dJ5_setLength_d00df_77 rfl (lv_at hl 1 rfl) ?_
        refine va_put (D := fx_D X) (ci := 0) (v := .int p1) (ty := .int) (C := RJ4) (T := TJ4) (N := 4) hx hb hts im_J5_setLength_d00df_J4 tyJ4 tyJ4_ok nmJ4 hown hK hP hD hS 0 rfl rfl 3 (by decide) k79 (fun _ h9 => h9) rfl (by decide +kernel) rfl rfl (Nat.le_of_ble_eq_true rfl) dJ5_setLength_d00df_78 (fun H locs hP hD hS => ?_)
        have hP : va_P (fx_D X) vwCl [(a_o, .inr (0, [.ref y1, .int (nI 0), .int s_o_maybeLatin1, .int p1])), (y1, .inl (fx_cB X, y2, .inl y3))] H := hP
        have hD : va_D A [(a_o, .inr (0, [.ref y1, .int (nI 0), .int s_o_maybeLatin1, .int p1])), (y1, .inl (fx_cB X, y2, .inl y3))] := hD
        refine W.widen (k := mc) (n := ms) hce hsl ?_
        exact W.vret hx hb hr (fun t ht hW => ⟨⟨(s_o_maybeLatin1, p1, y1, y2, y3), rfl, h, by rw [ht]; exact hP, va_K.moved hW.alike hK, hD⟩, hS.F ht⟩) hS.2.2 dJ5_setLength_d00df_81
      refine lv_aload_n hx hb dJ5_setLength_d00df_71 rfl (lv_at hl 0 rfl) ?_
      refine lv_iconst (v := (nI 1)) hx hb dJ5_setLength_d00df_72 (by decide) ?_
      refine va_put (D := fx_D X) (ci := 0) (v := .int (nI 1)) (ty := .boolean) (C := RJ4) (T := TJ4) (N := 4) hx hb hts im_J5_setLength_d00df_J4 tyJ4 tyJ4_ok nmJ4 hown hK hP hD hS 0 rfl rfl 2 (by decide) k73 (fun _ h9 => h9) rfl (by decide +kernel) rfl rfl (Nat.le_of_ble_eq_true rfl) dJ5_setLength_d00df_73 (fun H locs hP hD hS => ?_)
      have hP : va_P (fx_D X) vwCl [(a_o, .inr (0, [.ref y1, .int (nI 0), .int (nI 1), .int s_o_count])), (y1, .inl (fx_cB X, y2, .inl y3))] H := hP
      have hD : va_D A [(a_o, .inr (0, [.ref y1, .int (nI 0), .int (nI 1), .int s_o_count])), (y1, .inl (fx_cB X, y2, .inl y3))] := hD
      refine lv_aload_n hx hb dJ5_setLength_d00df_76 rfl (lv_at hl 0 rfl) ?_
      refine lv_iload_n hx hb dJ5_setLength_d00df_77 rfl (lv_at hl 1 rfl) ?_
      refine va_put (D := fx_D X) (ci := 0) (v := .int p1) (ty := .int) (C := RJ4) (T := TJ4) (N := 4) hx hb hts im_J5_setLength_d00df_J4 tyJ4 tyJ4_ok nmJ4 hown hK hP hD hS 0 rfl rfl 3 (by decide) k79 (fun _ h9 => h9) rfl (by decide +kernel) rfl rfl (Nat.le_of_ble_eq_true rfl) dJ5_setLength_d00df_78 (fun H locs hP hD hS => ?_)
      have hP : va_P (fx_D X) vwCl [(a_o, .inr (0, [.ref y1, .int (nI 0), .int (nI 1), .int p1])), (y1, .inl (fx_cB X, y2, .inl y3))] H := hP
      have hD : va_D A [(a_o, .inr (0, [.ref y1, .int (nI 0), .int (nI 1), .int p1])), (y1, .inl (fx_cB X, y2, .inl y3))] := hD
      refine W.widen (k := mc) (n := ms) hce hsl ?_
      exact W.vret hx hb hr (fun t ht hW => ⟨⟨((nI 1), p1, y1, y2, y3), rfl, h, by rw [ht]; exact hP, va_K.moved hW.alike hK, hD⟩, hS.F ht⟩) hS.2.2 dJ5_setLength_d00df_81
    refine lv_aload_n hx hb dJ5_setLength_d00df_26 rfl (lv_at hl 0 rfl) ?_
    refine vp_callSi ((va_runU (As := []) (rest := [])  ⟨hx, hb, hml, hown, hts⟩ (cw_J5_isLatin1_aae02 l X a_o y1 s_o_maybeLatin1 s_o_count  _ h) (va_cwU 0 hts gJ5_setLength_d00df_J5_isLatin1_aae02_u83J4 rfl rfl rfl rfl (by decide +kernel) ⟨Nat.le_of_ble_eq_true rfl, Nat.le_of_ble_eq_true rfl⟩) (fx_pv hP hK hG hS (va_recv hK hP (ci := 0) (q0 := 0) rfl rfl) [0] rfl) rfl rfl hl.1 rfl (lv_room (Nat.le_of_ble_eq_true rfl)) dJ5_setLength_d00df_27 ⟨hce, hsl⟩).run) (fun r6 h => ?_)
    refine fx_if_eq (tgt := 48) hx hb h dJ5_setLength_d00df_30 (by decide) (fun h => ?_) (fun h => ?_)
    · refine lv_aload_n hx hb dJ5_setLength_d00df_48 rfl (lv_at hl 0 rfl) ?_
      refine va_get (D := fx_D X) (ci := 0) (v := .ref y1) (C := RJ4) (T := TJ4) (N := 4) hx hb hts im_J5_setLength_d00df_J4 hown hK hP 0 rfl rfl 0 (by decide) k15 (fun _ h9 => h9) rfl dJ5_setLength_d00df_49 ?_
      refine lv_aload_n hx hb dJ5_setLength_d00df_52 rfl (lv_at hl 0 rfl) ?_
      refine va_get (D := fx_D X) (ci := 0) (v := .int s_o_count) (C := RJ4) (T := TJ4) (N := 4) hx hb hts im_J5_setLength_d00df_J4 hown hK hP 0 rfl rfl 3 (by decide) k79 (fun _ h9 => h9) rfl dJ5_setLength_d00df_53 ?_
      refine lv_iload_n hx hb dJ5_setLength_d00df_56 rfl (lv_at hl 1 rfl) ?_
      exact h.elim
    refine lv_aload_n hx hb dJ5_setLength_d00df_33 rfl (lv_at hl 0 rfl) ?_
    refine va_get (D := fx_D X) (ci := 0) (v := .ref y1) (C := RJ4) (T := TJ4) (N := 4) hx hb hts im_J5_setLength_d00df_J4 hown hK hP 0 rfl rfl 0 (by decide) k15 (fun _ h9 => h9) rfl dJ5_setLength_d00df_34 ?_
    refine lv_aload_n hx hb dJ5_setLength_d00df_37 rfl (lv_at hl 0 rfl) ?_
    refine va_get (D := fx_D X) (ci := 0) (v := .int s_o_count) (C := RJ4) (T := TJ4) (N := 4) hx hb hts im_J5_setLength_d00df_J4 hown hK hP 0 rfl rfl 3 (by decide) k79 (fun _ h9 => h9) rfl dJ5_setLength_d00df_38 ?_
    refine lv_iload_n hx hb dJ5_setLength_d00df_41 rfl (lv_at hl 1 rfl) ?_
    exact h.elim
  exact h.elim

/-- J4_append_bf812: its walk -/
def wp_J4_append_bf812 (post : Int32 → Nat → (Nat → Int32) → Prop) (mc ms : Nat) (s_o_count : Int32) (n_o_value : Nat) (f_o_value : Nat → Int32) (p1 : Int32) : Prop :=
  fx_al 0 0 mc ms (fun a5 b6 => wp_J5_append_c97b9 (fun y1 y3 y4 => post y1 y3 y4) a5 b6 s_o_count n_o_value f_o_value p1)
set_option maxHeartbeats 4000000 in
set_option maxRecDepth 100000 in
theorem cw_J4_append_bf812 (l : Launch) (X : fx_X) (a_o : Nat) (s_o_maybeLatin1 : Int32) (s_o_count : Int32) (a_o_value : Nat) (n_o_value : Nat) (f_o_value : Nat → Int32) (sz : Nat) (mc ms : Nat) (p1 : Int32) (post : Int32 → Nat → (Nat → Int32) → Prop) (h : wp_J4_append_bf812 post mc ms s_o_count n_o_value f_o_value p1) : Met l yJ4_append_bf812 wsJ4_append_bf812 ({ frames := 5, cells := mc, slots := ms, locals := 127 }) (va_Pc [.ref a_o, .int p1] (fx_PW X [(a_o, .inr (0, [.ref a_o_value, .int (nI 0), .int s_o_maybeLatin1, .int s_o_count])), (a_o_value, .inl (fx_cB X, n_o_value, .inl f_o_value))] sz)) (va_Qr (fun (u : Int32 × Nat × Nat × (Nat → Int32)) => post u.1 u.2.2.1 u.2.2.2) (fun (u : Int32 × Nat × Nat × (Nat → Int32)) a t => a_o = a ∧ fx_EW X (va_A [(a_o, .inr (0, [.ref a_o_value, .int (nI 0), .int s_o_maybeLatin1, .int s_o_count])), (a_o_value, .inl (fx_cB X, n_o_value, .inl f_o_value))] sz) [(a_o, .inr (0, [.ref u.2.1, .int (nI 0), .int s_o_maybeLatin1, .int u.1])), (u.2.1, .inl (fx_cB X, u.2.2.1, .inl u.2.2.2))] t) (va_A [(a_o, .inr (0, [.ref a_o_value, .int (nI 0), .int s_o_maybeLatin1, .int s_o_count])), (a_o_value, .inl (fx_cB X, n_o_value, .inl f_o_value))] sz)) mc ms (va_A [(a_o, .inr (0, [.ref a_o_value, .int (nI 0), .int s_o_maybeLatin1, .int s_o_count])), (a_o_value, .inl (fx_cB X, n_o_value, .inl f_o_value))] sz) := by
  refine Met.ofW (cc := cJ4_append_bf812) (maxL := 2) (ret := (some (.object "java/lang/StringBuilder"))) (by decide) rfl ?_
  intro p e s m args below meth c s₁ B hml hv
  obtain ⟨rfl, hsz, hP, hK, hD0, hG⟩ := hv
  have hx := B.exec
  have hb := B.bytes
  have hr := B.returns
  have hts := atoms_spec (ws := wsJ4_append_bf812) B.pre
  have hown : s.vm.findClass RJ4 = some m.cls := findClass_of_methodNamed B.named
  have hlocks := B.notSynchronized
  subst hsz
  have hD := hD0.self (sz := s.heap.size)
  generalize hAe : va_A [(a_o, .inr (0, [.ref a_o_value, .int (nI 0), .int s_o_maybeLatin1, .int s_o_count])), (a_o_value, .inl (fx_cB X, n_o_value, .inl f_o_value))] s.heap.size = A at hD hG ⊢
  have hA : ∀ q : Nat, s.heap.size ≤ q → A q := fun q h => by rw [← hAe]; exact Or.inr h
  have hS : va_S A s.heap s.heap [] := va_S.rf
  have hce : 0 ≤ mc := Nat.zero_le _
  have hsl : 0 ≤ ms := Nat.zero_le _
  have hl := lv_entry ([.ref a_o, .int p1]) (n := 2) (Nat.le_of_ble_eq_true rfl)
  rw [lg_entry_eq]
  generalize (lg_sl ([.ref a_o, .int p1]) ++ List.replicate (2 - (lg_sl ([.ref a_o, .int p1])).length) Slot.unset).toArray = ls at hl ⊢
  have hl : lv_has ls 2 [(0, .ref a_o), (1, .int p1)] := hl
  unfold wp_J4_append_bf812 at h
  refine lv_aload_n hx hb dJ4_append_bf812_0 rfl (lv_at hl 0 rfl) ?_
  refine lv_iload_n hx hb dJ4_append_bf812_1 rfl (lv_at hl 1 rfl) ?_
  obtain ⟨a5, b6, hce, hsl, h⟩ := h
  have hFc := va_free (wc := [(a_o, .inr (0, [.ref a_o_value, .int (nI 0), .int s_o_maybeLatin1, .int s_o_count])), (a_o_value, .inl (fx_cB X, n_o_value, .inl f_o_value))]) hD hS hA [0, 1] rfl
  refine va_callr (va_runSU (As := [.int p1]) (rest := []) (hK.1 0 _ rfl).2 ⟨hx, hb, hml, hown, hts⟩ (cw_J5_append_c97b9 l X a_o s_o_maybeLatin1 s_o_count a_o_value n_o_value f_o_value _ a5 b6 p1 _ h) (va_cwSU 1 hts gJ4_append_bf812_J5_append_c97b9_s53 rfl rfl rfl (by decide +kernel) ⟨Nat.le_of_ble_eq_true rfl, Nat.le_of_ble_eq_true rfl⟩) (fx_pvW hP hD hK hG hS hFc (va_recv hK hP (ci := 0) (q0 := 0) rfl rfl) [0, 1] (by decide) rfl) rfl rfl hl.1 rfl (lv_room (Nat.le_of_ble_eq_true rfl)) dJ4_append_bf812_2 ⟨hce, hsl⟩) hS (fun q _ h => hFc q h) hFc (fun u ra t H locs ht hvm h hB _ hk hS => ?_)
  obtain ⟨y1, y2, y3, y4⟩ := u
  dsimp only at h
  obtain ⟨rfl, hB⟩ := hB
  obtain ⟨hP, hD⟩ := fx_back (wr := []) (ws' := [(a_o, .inr (0, [.ref y2, .int (nI 0), .int s_o_maybeLatin1, .int y1])), (y2, .inl (fx_cB X, y3, .inl y4))]) hP hD [0, 1] [] rfl rfl (by decide) (by decide) hk hFc hB ht [0, 1] (by decide) rfl
  refine lv_pop hx hb dJ4_append_bf812_5 rfl ?_
  refine lv_aload_n hx hb dJ4_append_bf812_6 rfl (lv_at hl 0 rfl) ?_
  refine W.widen (k := mc) (n := ms) hce hsl ?_
  exact W.aret (v := .ref a_o) hx hb hr (Or.inl ⟨_, rfl⟩) (Or.inr ⟨_, rfl⟩) (fun t ht hW => ⟨⟨(y1, y2, y3, y4), a_o, rfl, h, rfl, by rw [ht]; exact hP, va_K.moved hW.alike hK, hD⟩, hS.F ht⟩) hS.2.2 dJ4_append_bf812_7

/-- J4_append_cf468: its walk -/
def wp_J4_append_cf468 (post : Int32 → Nat → (Nat → Int32) → Prop) (mc ms : Nat) (s_o_count : Int32) (n_o_value : Nat) (f_o_value : Nat → Int32) (p1 : Int32) : Prop :=
  fx_al 0 0 mc ms (fun a5 b6 => wp_J5_append_3fe6f (fun y1 y3 y4 => post y1 y3 y4) a5 b6 s_o_count n_o_value f_o_value p1)
set_option maxHeartbeats 4000000 in
set_option maxRecDepth 100000 in
theorem cw_J4_append_cf468 (l : Launch) (X : fx_X) (a_o : Nat) (s_o_maybeLatin1 : Int32) (s_o_count : Int32) (a_o_value : Nat) (n_o_value : Nat) (f_o_value : Nat → Int32) (sz : Nat) (mc ms : Nat) (p1 : Int32) (post : Int32 → Nat → (Nat → Int32) → Prop) (h : wp_J4_append_cf468 post mc ms s_o_count n_o_value f_o_value p1) : Met l yJ4_append_cf468 wsJ4_append_cf468 ({ frames := 5, cells := mc, slots := ms, locals := 125 }) (va_Pc [.ref a_o, .int p1] (fx_PW X [(a_o, .inr (0, [.ref a_o_value, .int (nI 0), .int s_o_maybeLatin1, .int s_o_count])), (a_o_value, .inl (fx_cB X, n_o_value, .inl f_o_value))] sz)) (va_Qr (fun (u : Int32 × Nat × Nat × (Nat → Int32)) => post u.1 u.2.2.1 u.2.2.2) (fun (u : Int32 × Nat × Nat × (Nat → Int32)) a t => a_o = a ∧ fx_EW X (va_A [(a_o, .inr (0, [.ref a_o_value, .int (nI 0), .int s_o_maybeLatin1, .int s_o_count])), (a_o_value, .inl (fx_cB X, n_o_value, .inl f_o_value))] sz) [(a_o, .inr (0, [.ref u.2.1, .int (nI 0), .int s_o_maybeLatin1, .int u.1])), (u.2.1, .inl (fx_cB X, u.2.2.1, .inl u.2.2.2))] t) (va_A [(a_o, .inr (0, [.ref a_o_value, .int (nI 0), .int s_o_maybeLatin1, .int s_o_count])), (a_o_value, .inl (fx_cB X, n_o_value, .inl f_o_value))] sz)) mc ms (va_A [(a_o, .inr (0, [.ref a_o_value, .int (nI 0), .int s_o_maybeLatin1, .int s_o_count])), (a_o_value, .inl (fx_cB X, n_o_value, .inl f_o_value))] sz) := by
  refine Met.ofW (cc := cJ4_append_cf468) (maxL := 2) (ret := (some (.object "java/lang/StringBuilder"))) (by decide) rfl ?_
  intro p e s m args below meth c s₁ B hml hv
  obtain ⟨rfl, hsz, hP, hK, hD0, hG⟩ := hv
  have hx := B.exec
  have hb := B.bytes
  have hr := B.returns
  have hts := atoms_spec (ws := wsJ4_append_cf468) B.pre
  have hown : s.vm.findClass RJ4 = some m.cls := findClass_of_methodNamed B.named
  have hlocks := B.notSynchronized
  subst hsz
  have hD := hD0.self (sz := s.heap.size)
  generalize hAe : va_A [(a_o, .inr (0, [.ref a_o_value, .int (nI 0), .int s_o_maybeLatin1, .int s_o_count])), (a_o_value, .inl (fx_cB X, n_o_value, .inl f_o_value))] s.heap.size = A at hD hG ⊢
  have hA : ∀ q : Nat, s.heap.size ≤ q → A q := fun q h => by rw [← hAe]; exact Or.inr h
  have hS : va_S A s.heap s.heap [] := va_S.rf
  have hce : 0 ≤ mc := Nat.zero_le _
  have hsl : 0 ≤ ms := Nat.zero_le _
  have hl := lv_entry ([.ref a_o, .int p1]) (n := 2) (Nat.le_of_ble_eq_true rfl)
  rw [lg_entry_eq]
  generalize (lg_sl ([.ref a_o, .int p1]) ++ List.replicate (2 - (lg_sl ([.ref a_o, .int p1])).length) Slot.unset).toArray = ls at hl ⊢
  have hl : lv_has ls 2 [(0, .ref a_o), (1, .int p1)] := hl
  unfold wp_J4_append_cf468 at h
  refine lv_aload_n hx hb dJ4_append_cf468_0 rfl (lv_at hl 0 rfl) ?_
  refine lv_iload_n hx hb dJ4_append_cf468_1 rfl (lv_at hl 1 rfl) ?_
  obtain ⟨a5, b6, hce, hsl, h⟩ := h
  have hFc := va_free (wc := [(a_o, .inr (0, [.ref a_o_value, .int (nI 0), .int s_o_maybeLatin1, .int s_o_count])), (a_o_value, .inl (fx_cB X, n_o_value, .inl f_o_value))]) hD hS hA [0, 1] rfl
  refine va_callr (va_runSU (As := [.int p1]) (rest := []) (hK.1 0 _ rfl).2 ⟨hx, hb, hml, hown, hts⟩ (cw_J5_append_3fe6f l X a_o s_o_maybeLatin1 s_o_count a_o_value n_o_value f_o_value _ a5 b6 p1 _ h) (va_cwSU 1 hts gJ4_append_cf468_J5_append_3fe6f_s50 rfl rfl rfl (by decide +kernel) ⟨Nat.le_of_ble_eq_true rfl, Nat.le_of_ble_eq_true rfl⟩) (fx_pvW hP hD hK hG hS hFc (va_recv hK hP (ci := 0) (q0 := 0) rfl rfl) [0, 1] (by decide) rfl) rfl rfl hl.1 rfl (lv_room (Nat.le_of_ble_eq_true rfl)) dJ4_append_cf468_2 ⟨hce, hsl⟩) hS (fun q _ h => hFc q h) hFc (fun u ra t H locs ht hvm h hB _ hk hS => ?_)
  obtain ⟨y1, y2, y3, y4⟩ := u
  dsimp only at h
  obtain ⟨rfl, hB⟩ := hB
  obtain ⟨hP, hD⟩ := fx_back (wr := []) (ws' := [(a_o, .inr (0, [.ref y2, .int (nI 0), .int s_o_maybeLatin1, .int y1])), (y2, .inl (fx_cB X, y3, .inl y4))]) hP hD [0, 1] [] rfl rfl (by decide) (by decide) hk hFc hB ht [0, 1] (by decide) rfl
  refine lv_pop hx hb dJ4_append_cf468_5 rfl ?_
  refine lv_aload_n hx hb dJ4_append_cf468_6 rfl (lv_at hl 0 rfl) ?_
  refine W.widen (k := mc) (n := ms) hce hsl ?_
  exact W.aret (v := .ref a_o) hx hb hr (Or.inl ⟨_, rfl⟩) (Or.inr ⟨_, rfl⟩) (fun t ht hW => ⟨⟨(y1, y2, y3, y4), a_o, rfl, h, rfl, by rw [ht]; exact hP, va_K.moved hW.alike hK, hD⟩, hS.F ht⟩) hS.2.2 dJ4_append_cf468_7

/-- J4_append_15ec4: its walk -/
def wp_J4_append_15ec4 (post : Int32 → Nat → (Nat → Int32) → Prop) (mc ms : Nat) (s_o_count : Int32) (n_o_value : Nat) (f_o_value : Nat → Int32) (p1 : Nat) : Prop :=
  fx_al 0 0 mc ms (fun a5 b6 => wp_J5_append_cf1ce (fun y1 y3 y4 => post y1 y3 y4) a5 b6 s_o_count n_o_value f_o_value p1)
set_option maxHeartbeats 4000000 in
set_option maxRecDepth 100000 in
theorem cw_J4_append_15ec4 (l : Launch) (X : fx_X) (a_o : Nat) (s_o_maybeLatin1 : Int32) (s_o_count : Int32) (a_o_value : Nat) (n_o_value : Nat) (f_o_value : Nat → Int32) (sz : Nat) (mc ms : Nat) (p1 : Nat) (post : Int32 → Nat → (Nat → Int32) → Prop) (h : wp_J4_append_15ec4 post mc ms s_o_count n_o_value f_o_value p1) : Met l yJ4_append_15ec4 wsJ4_append_15ec4 ({ frames := 5, cells := mc, slots := ms, locals := 126 }) (va_Pc [.ref a_o, .ref (fx_aS X p1)] (fx_PW X [(a_o, .inr (0, [.ref a_o_value, .int (nI 0), .int s_o_maybeLatin1, .int s_o_count])), (a_o_value, .inl (fx_cB X, n_o_value, .inl f_o_value))] sz)) (va_Qr (fun (u : Int32 × Nat × Nat × (Nat → Int32)) => post u.1 u.2.2.1 u.2.2.2) (fun (u : Int32 × Nat × Nat × (Nat → Int32)) a t => a_o = a ∧ fx_EW X (va_A [(a_o, .inr (0, [.ref a_o_value, .int (nI 0), .int s_o_maybeLatin1, .int s_o_count])), (a_o_value, .inl (fx_cB X, n_o_value, .inl f_o_value))] sz) [(a_o, .inr (0, [.ref u.2.1, .int (nI 0), .int s_o_maybeLatin1, .int u.1])), (u.2.1, .inl (fx_cB X, u.2.2.1, .inl u.2.2.2))] t) (va_A [(a_o, .inr (0, [.ref a_o_value, .int (nI 0), .int s_o_maybeLatin1, .int s_o_count])), (a_o_value, .inl (fx_cB X, n_o_value, .inl f_o_value))] sz)) mc ms (va_A [(a_o, .inr (0, [.ref a_o_value, .int (nI 0), .int s_o_maybeLatin1, .int s_o_count])), (a_o_value, .inl (fx_cB X, n_o_value, .inl f_o_value))] sz) := by
  refine Met.ofW (cc := cJ4_append_15ec4) (maxL := 2) (ret := (some (.object "java/lang/StringBuilder"))) (by decide) rfl ?_
  intro p e s m args below meth c s₁ B hml hv
  obtain ⟨rfl, hsz, hP, hK, hD0, hG⟩ := hv
  have hx := B.exec
  have hb := B.bytes
  have hr := B.returns
  have hts := atoms_spec (ws := wsJ4_append_15ec4) B.pre
  have hown : s.vm.findClass RJ4 = some m.cls := findClass_of_methodNamed B.named
  have hlocks := B.notSynchronized
  subst hsz
  have hD := hD0.self (sz := s.heap.size)
  generalize hAe : va_A [(a_o, .inr (0, [.ref a_o_value, .int (nI 0), .int s_o_maybeLatin1, .int s_o_count])), (a_o_value, .inl (fx_cB X, n_o_value, .inl f_o_value))] s.heap.size = A at hD hG ⊢
  have hA : ∀ q : Nat, s.heap.size ≤ q → A q := fun q h => by rw [← hAe]; exact Or.inr h
  have hS : va_S A s.heap s.heap [] := va_S.rf
  have hce : 0 ≤ mc := Nat.zero_le _
  have hsl : 0 ≤ ms := Nat.zero_le _
  have hl := lv_entry ([.ref a_o, .ref (fx_aS X p1)]) (n := 2) (Nat.le_of_ble_eq_true rfl)
  rw [lg_entry_eq]
  generalize (lg_sl ([.ref a_o, .ref (fx_aS X p1)]) ++ List.replicate (2 - (lg_sl ([.ref a_o, .ref (fx_aS X p1)])).length) Slot.unset).toArray = ls at hl ⊢
  have hl : lv_has ls 2 [(0, .ref a_o), (1, .ref (fx_aS X p1))] := hl
  unfold wp_J4_append_15ec4 at h
  refine lv_aload_n hx hb dJ4_append_15ec4_0 rfl (lv_at hl 0 rfl) ?_
  refine lv_aload_n hx hb dJ4_append_15ec4_1 rfl (lv_at hl 1 rfl) ?_
  obtain ⟨a5, b6, hce, hsl, h⟩ := h
  have hFc := va_free (wc := [(a_o, .inr (0, [.ref a_o_value, .int (nI 0), .int s_o_maybeLatin1, .int s_o_count])), (a_o_value, .inl (fx_cB X, n_o_value, .inl f_o_value))]) hD hS hA [0, 1] rfl
  refine va_callr (va_runSU (As := [.ref (fx_aS X p1)]) (rest := []) (hK.1 0 _ rfl).2 ⟨hx, hb, hml, hown, hts⟩ (cw_J5_append_cf1ce l X a_o s_o_maybeLatin1 s_o_count a_o_value n_o_value f_o_value _ a5 b6 p1 _ h) (va_cwSU 1 hts gJ4_append_15ec4_J5_append_cf1ce_s29 rfl rfl rfl (by decide +kernel) ⟨Nat.le_of_ble_eq_true rfl, Nat.le_of_ble_eq_true rfl⟩) (fx_pvW hP hD hK hG hS hFc (va_recv hK hP (ci := 0) (q0 := 0) rfl rfl) [0, 1] (by decide) rfl) rfl rfl hl.1 rfl (lv_room (Nat.le_of_ble_eq_true rfl)) dJ4_append_15ec4_2 ⟨hce, hsl⟩) hS (fun q _ h => hFc q h) hFc (fun u ra t H locs ht hvm h hB _ hk hS => ?_)
  obtain ⟨y1, y2, y3, y4⟩ := u
  dsimp only at h
  obtain ⟨rfl, hB⟩ := hB
  obtain ⟨hP, hD⟩ := fx_back (wr := []) (ws' := [(a_o, .inr (0, [.ref y2, .int (nI 0), .int s_o_maybeLatin1, .int y1])), (y2, .inl (fx_cB X, y3, .inl y4))]) hP hD [0, 1] [] rfl rfl (by decide) (by decide) hk hFc hB ht [0, 1] (by decide) rfl
  refine lv_pop hx hb dJ4_append_15ec4_5 rfl ?_
  refine lv_aload_n hx hb dJ4_append_15ec4_6 rfl (lv_at hl 0 rfl) ?_
  refine W.widen (k := mc) (n := ms) hce hsl ?_
  exact W.aret (v := .ref a_o) hx hb hr (Or.inl ⟨_, rfl⟩) (Or.inr ⟨_, rfl⟩) (fun t ht hW => ⟨⟨(y1, y2, y3, y4), a_o, rfl, h, rfl, by rw [ht]; exact hP, va_K.moved hW.alike hK, hD⟩, hS.F ht⟩) hS.2.2 dJ4_append_15ec4_7

/-- J4_setLength_d00df: its walk -/
def wp_J4_setLength_d00df (post : Int32 → Int32 → Nat → (Nat → Int32) → Prop) (mc ms : Nat) (s_o_maybeLatin1 : Int32) (s_o_count : Int32) (n_o_value : Nat) (f_o_value : Nat → Int32) (p1 : Int32) : Prop :=
  fx_al 0 0 mc ms (fun a6 b7 => wp_J5_setLength_d00df (fun y1 y2 y4 y5 => post y1 y2 y4 y5) a6 b7 s_o_maybeLatin1 s_o_count n_o_value f_o_value p1)
set_option maxHeartbeats 4000000 in
set_option maxRecDepth 100000 in
theorem cw_J4_setLength_d00df (l : Launch) (X : fx_X) (a_o : Nat) (s_o_maybeLatin1 : Int32) (s_o_count : Int32) (a_o_value : Nat) (n_o_value : Nat) (f_o_value : Nat → Int32) (sz : Nat) (mc ms : Nat) (p1 : Int32) (post : Int32 → Int32 → Nat → (Nat → Int32) → Prop) (h : wp_J4_setLength_d00df post mc ms s_o_maybeLatin1 s_o_count n_o_value f_o_value p1) : Met l yJ4_setLength_d00df wsJ4_setLength_d00df ({ frames := 5, cells := mc, slots := ms, locals := 125 }) (va_Pc [.ref a_o, .int p1] (fx_PW X [(a_o, .inr (0, [.ref a_o_value, .int (nI 0), .int s_o_maybeLatin1, .int s_o_count])), (a_o_value, .inl (fx_cB X, n_o_value, .inl f_o_value))] sz)) (va_Qv (fun (u : Int32 × Int32 × Nat × Nat × (Nat → Int32)) => post u.1 u.2.1 u.2.2.2.1 u.2.2.2.2) (fun (u : Int32 × Int32 × Nat × Nat × (Nat → Int32)) t => fx_EW X (va_A [(a_o, .inr (0, [.ref a_o_value, .int (nI 0), .int s_o_maybeLatin1, .int s_o_count])), (a_o_value, .inl (fx_cB X, n_o_value, .inl f_o_value))] sz) [(a_o, .inr (0, [.ref u.2.2.1, .int (nI 0), .int u.1, .int u.2.1])), (u.2.2.1, .inl (fx_cB X, u.2.2.2.1, .inl u.2.2.2.2))] t) (va_A [(a_o, .inr (0, [.ref a_o_value, .int (nI 0), .int s_o_maybeLatin1, .int s_o_count])), (a_o_value, .inl (fx_cB X, n_o_value, .inl f_o_value))] sz)) mc ms (va_A [(a_o, .inr (0, [.ref a_o_value, .int (nI 0), .int s_o_maybeLatin1, .int s_o_count])), (a_o_value, .inl (fx_cB X, n_o_value, .inl f_o_value))] sz) := by
  refine Met.ofW (cc := cJ4_setLength_d00df) (maxL := 2) (ret := none) (by decide) rfl ?_
  intro p e s m args below meth c s₁ B hml hv
  obtain ⟨rfl, hsz, hP, hK, hD0, hG⟩ := hv
  have hx := B.exec
  have hb := B.bytes
  have hr := B.returns
  have hts := atoms_spec (ws := wsJ4_setLength_d00df) B.pre
  have hown : s.vm.findClass RJ4 = some m.cls := findClass_of_methodNamed B.named
  have hlocks := B.notSynchronized
  subst hsz
  have hD := hD0.self (sz := s.heap.size)
  generalize hAe : va_A [(a_o, .inr (0, [.ref a_o_value, .int (nI 0), .int s_o_maybeLatin1, .int s_o_count])), (a_o_value, .inl (fx_cB X, n_o_value, .inl f_o_value))] s.heap.size = A at hD hG ⊢
  have hA : ∀ q : Nat, s.heap.size ≤ q → A q := fun q h => by rw [← hAe]; exact Or.inr h
  have hS : va_S A s.heap s.heap [] := va_S.rf
  have hce : 0 ≤ mc := Nat.zero_le _
  have hsl : 0 ≤ ms := Nat.zero_le _
  have hl := lv_entry ([.ref a_o, .int p1]) (n := 2) (Nat.le_of_ble_eq_true rfl)
  rw [lg_entry_eq]
  generalize (lg_sl ([.ref a_o, .int p1]) ++ List.replicate (2 - (lg_sl ([.ref a_o, .int p1])).length) Slot.unset).toArray = ls at hl ⊢
  have hl : lv_has ls 2 [(0, .ref a_o), (1, .int p1)] := hl
  unfold wp_J4_setLength_d00df at h
  refine lv_aload_n hx hb dJ4_setLength_d00df_0 rfl (lv_at hl 0 rfl) ?_
  refine lv_iload_n hx hb dJ4_setLength_d00df_1 rfl (lv_at hl 1 rfl) ?_
  obtain ⟨a6, b7, hce, hsl, h⟩ := h
  have hFc := va_free (wc := [(a_o, .inr (0, [.ref a_o_value, .int (nI 0), .int s_o_maybeLatin1, .int s_o_count])), (a_o_value, .inl (fx_cB X, n_o_value, .inl f_o_value))]) hD hS hA [0, 1] rfl
  refine va_callv (va_runSU (As := [.int p1]) (rest := []) (hK.1 0 _ rfl).2 ⟨hx, hb, hml, hown, hts⟩ (cw_J5_setLength_d00df l X a_o s_o_maybeLatin1 s_o_count a_o_value n_o_value f_o_value _ a6 b7 p1 _ h) (va_cwSU 1 hts gJ4_setLength_d00df_J5_setLength_d00df_s333 rfl rfl rfl (by decide +kernel) ⟨Nat.le_of_ble_eq_true rfl, Nat.le_of_ble_eq_true rfl⟩) (fx_pvW hP hD hK hG hS hFc (va_recv hK hP (ci := 0) (q0 := 0) rfl rfl) [0, 1] (by decide) rfl) rfl rfl hl.1 rfl (lv_room (Nat.le_of_ble_eq_true rfl)) dJ4_setLength_d00df_2 ⟨hce, hsl⟩) hS (fun q _ h => hFc q h) hFc (fun u t H locs ht hvm h hB _ hk hS => ?_)
  obtain ⟨y1, y2, y3, y4, y5⟩ := u
  dsimp only at h
  obtain ⟨hP, hD⟩ := fx_back (wr := []) (ws' := [(a_o, .inr (0, [.ref y3, .int (nI 0), .int y1, .int y2])), (y3, .inl (fx_cB X, y4, .inl y5))]) hP hD [0, 1] [] rfl rfl (by decide) (by decide) hk hFc hB ht [0, 1] (by decide) rfl
  refine W.widen (k := mc) (n := ms) hce hsl ?_
  exact W.vret hx hb hr (fun t ht hW => ⟨⟨(y1, y2, y3, y4, y5), rfl, h, by rw [ht]; exact hP, va_K.moved hW.alike hK, hD⟩, hS.F ht⟩) hS.2.2 dJ4_setLength_d00df_5

/-- J4_length_8abf5: its walk -/
def wp_J4_length_8abf5 (post : Int32 → Prop) (s_o_count : Int32) : Prop :=
  wp_J5_length_8abf5 (fun r1 => post r1) s_o_count
set_option maxHeartbeats 4000000 in
set_option maxRecDepth 100000 in
theorem cw_J4_length_8abf5 (l : Launch) (X : fx_X) (a_o : Nat) (a_o_value : Nat) (s_o_maybeLatin1 : Int32) (s_o_count : Int32)  (post : Int32 → Prop) (h : wp_J4_length_8abf5 post s_o_count) : Met l yJ4_length_8abf5 wsJ4_length_8abf5 ({ frames := 1, cells := 0, slots := 0, locals := 20 }) (va_Pc [.ref a_o] (fx_PP X [(a_o, .inr (0, [.ref a_o_value, .int (nI 0), .int s_o_maybeLatin1, .int s_o_count]))])) (vp_Si post) 0 0 (fun _ => False) := by
  refine Met.ofW (cc := cJ4_length_8abf5) (maxL := 1) (ret := (some .int)) (by decide) rfl ?_
  intro p e s m args below meth c s₁ B hml hv
  obtain ⟨rfl, hP, hK, hG⟩ := hv
  have hx := B.exec
  have hb := B.bytes
  have hr := B.returns
  have hts := atoms_spec (ws := wsJ4_length_8abf5) B.pre
  have hown : s.vm.findClass RJ4 = some m.cls := findClass_of_methodNamed B.named
  have hlocks := B.notSynchronized
  have hS : va_S (fun _ => False) s.heap s.heap [] := va_S.rf
  have hl := lv_entry ([.ref a_o]) (n := 1) (Nat.le_of_ble_eq_true rfl)
  rw [lg_entry_eq]
  generalize (lg_sl ([.ref a_o]) ++ List.replicate (1 - (lg_sl ([.ref a_o])).length) Slot.unset).toArray = ls at hl ⊢
  have hl : lv_has ls 1 [(0, .ref a_o)] := hl
  unfold wp_J4_length_8abf5 at h
  refine lv_aload_n hx hb dJ4_length_8abf5_0 rfl (lv_at hl 0 rfl) ?_
  refine vp_callSi ((va_runSU (As := []) (rest := []) (hK.1 0 _ rfl).2 ⟨hx, hb, hml, hown, hts⟩ (cw_J5_length_8abf5 l X a_o a_o_value s_o_maybeLatin1 s_o_count  _ h) (va_cwSU 0 hts gJ4_length_8abf5_J5_length_8abf5_s343 rfl rfl rfl (by decide +kernel) ⟨Nat.le_of_ble_eq_true rfl, Nat.le_of_ble_eq_true rfl⟩) (fx_pv hP hK hG hS (va_recv hK hP (ci := 0) (q0 := 0) rfl rfl) [0] rfl) rfl rfl hl.1 rfl (lv_room (Nat.le_of_ble_eq_true rfl)) dJ4_length_8abf5_1 ⟨Nat.le_of_ble_eq_true rfl, Nat.le_of_ble_eq_true rfl⟩).run) (fun r1 h => ?_)
  exact W.iret (v := r1) hx hb hr  (fun t ht hW => ⟨_, rfl, h, ht⟩) (fun q hq => by cases hq) dJ4_length_8abf5_4

/-- J4_charAt_5068e: its walk -/
def wp_J4_charAt_5068e (post : Int32 → Prop) (s_o_count : Int32) (n_o_value : Nat) (f_o_value : Nat → Int32) (p1 : Int32) : Prop :=
  wp_J5_charAt_5068e (fun r1 => fx_ch r1 (post r1)) s_o_count n_o_value f_o_value p1
set_option maxHeartbeats 4000000 in
set_option maxRecDepth 100000 in
theorem cw_J4_charAt_5068e (l : Launch) (X : fx_X) (a_o : Nat) (s_o_maybeLatin1 : Int32) (s_o_count : Int32) (a_o_value : Nat) (n_o_value : Nat) (f_o_value : Nat → Int32) (p1 : Int32) (post : Int32 → Prop) (h : wp_J4_charAt_5068e post s_o_count n_o_value f_o_value p1) : Met l yJ4_charAt_5068e wsJ4_charAt_5068e ({ frames := 3, cells := 0, slots := 0, locals := 67 }) (va_Pc [.ref a_o, .int p1] (fx_PP X [(a_o, .inr (0, [.ref a_o_value, .int (nI 0), .int s_o_maybeLatin1, .int s_o_count])), (a_o_value, .inl (fx_cB X, n_o_value, .inl f_o_value))])) (vp_Si post) 0 0 (fun _ => False) := by
  refine Met.ofW (cc := cJ4_charAt_5068e) (maxL := 2) (ret := (some .char)) (by decide) rfl ?_
  intro p e s m args below meth c s₁ B hml hv
  obtain ⟨rfl, hP, hK, hG⟩ := hv
  have hx := B.exec
  have hb := B.bytes
  have hr := B.returns
  have hts := atoms_spec (ws := wsJ4_charAt_5068e) B.pre
  have hown : s.vm.findClass RJ4 = some m.cls := findClass_of_methodNamed B.named
  have hlocks := B.notSynchronized
  have hS : va_S (fun _ => False) s.heap s.heap [] := va_S.rf
  have hl := lv_entry ([.ref a_o, .int p1]) (n := 2) (Nat.le_of_ble_eq_true rfl)
  rw [lg_entry_eq]
  generalize (lg_sl ([.ref a_o, .int p1]) ++ List.replicate (2 - (lg_sl ([.ref a_o, .int p1])).length) Slot.unset).toArray = ls at hl ⊢
  have hl : lv_has ls 2 [(0, .ref a_o), (1, .int p1)] := hl
  unfold wp_J4_charAt_5068e at h
  refine lv_aload_n hx hb dJ4_charAt_5068e_0 rfl (lv_at hl 0 rfl) ?_
  refine lv_iload_n hx hb dJ4_charAt_5068e_1 rfl (lv_at hl 1 rfl) ?_
  refine vp_callSi ((va_runSU (As := [.int p1]) (rest := []) (hK.1 0 _ rfl).2 ⟨hx, hb, hml, hown, hts⟩ (cw_J5_charAt_5068e l X a_o s_o_maybeLatin1 s_o_count a_o_value n_o_value f_o_value p1 _ h) (va_cwSU 1 hts gJ4_charAt_5068e_J5_charAt_5068e_s329 rfl rfl rfl (by decide +kernel) ⟨Nat.le_of_ble_eq_true rfl, Nat.le_of_ble_eq_true rfl⟩) (fx_pv hP hK hG hS (va_recv hK hP (ci := 0) (q0 := 0) rfl rfl) [0, 1] rfl) rfl rfl hl.1 rfl (lv_room (Nat.le_of_ble_eq_true rfl)) dJ4_charAt_5068e_2 ⟨Nat.le_of_ble_eq_true rfl, Nat.le_of_ble_eq_true rfl⟩).run) (fun r1 h => ?_)
  exact W.zret (v := r1) hx hb hr (fx_ch_n h) (fun t ht hW => ⟨_, rfl, h.2, ht⟩) (fun q hq => by cases hq) dJ4_charAt_5068e_5

/-- J3_checkIndex_8e157: its walk -/
def wp_J3_checkIndex_8e157 (post : Int32 → Prop) (p1 : Int32) (p2 : Int32) : Prop :=
  fx_br (p1 < 0) (False) (fx_br (p1 < p2) (post p1) (False))
set_option maxHeartbeats 4000000 in
set_option maxRecDepth 100000 in
theorem cw_J3_checkIndex_8e157 (l : Launch) (X : fx_X)   (p1 : Int32) (p2 : Int32) (p3 : Option Nat) (post : Int32 → Prop) (h : wp_J3_checkIndex_8e157 post p1 p2) : Met l yJ3_checkIndex_8e157 wsJ3_checkIndex_8e157 ({ frames := 0, cells := 0, slots := 0, locals := 0 }) (va_Pc [.int p1, .int p2, va_rf p3] (fx_PP X [])) (vp_Si post) 0 0 (fun _ => False) := by
  refine Met.ofW (cc := cJ3_checkIndex_8e157) (maxL := 3) (ret := (some .int)) (by decide) rfl ?_
  intro p e s m args below meth c s₁ B hml hv
  obtain ⟨rfl, hP, hK, hG⟩ := hv
  have hx := B.exec
  have hb := B.bytes
  have hr := B.returns
  have hts := atoms_spec (ws := wsJ3_checkIndex_8e157) B.pre
  have hown : s.vm.findClass RJ3 = some m.cls := findClass_of_methodNamed B.named
  have hlocks := B.notSynchronized
  have hS : va_S (fun _ => False) s.heap s.heap [] := va_S.rf
  rcases p3 with _ | p3
  · show W p l e _ s m _ below meth c s.heap [] 0 0 _ (entryFrame m ([.int p1, .int p2, .null] : List Value).toArray 3)
    have hl := lv_entry ([.int p1, .int p2, .null]) (n := 3) (Nat.le_of_ble_eq_true rfl)
    rw [lg_entry_eq]
    generalize (lg_sl ([.int p1, .int p2, .null]) ++ List.replicate (3 - (lg_sl ([.int p1, .int p2, .null])).length) Slot.unset).toArray = ls at hl ⊢
    have hl : lv_has ls 3 [(0, .int p1), (1, .int p2), (2, .null)] := hl
    unfold wp_J3_checkIndex_8e157 at h
    refine lv_iload_n hx hb dJ3_checkIndex_8e157_0 rfl (lv_at hl 0 rfl) ?_
    refine fx_if_lt (tgt := 9) hx hb h dJ3_checkIndex_8e157_1 (by decide) (fun h => ?_) (fun h => ?_)
    · refine lv_aload_nN hx hb dJ3_checkIndex_8e157_9 rfl (lv_at hl 2 rfl) ?_
      refine lv_iload_n hx hb dJ3_checkIndex_8e157_10 rfl (lv_at hl 0 rfl) ?_
      refine lv_iload_n hx hb dJ3_checkIndex_8e157_11 rfl (lv_at hl 1 rfl) ?_
      exact h.elim
    refine lv_iload_n hx hb dJ3_checkIndex_8e157_4 rfl (lv_at hl 0 rfl) ?_
    refine lv_iload_n hx hb dJ3_checkIndex_8e157_5 rfl (lv_at hl 1 rfl) ?_
    refine fx_icmp_lt (tgt := 16) hx hb h dJ3_checkIndex_8e157_6 (by decide) (fun h => ?_) (fun h => ?_)
    · refine lv_iload_n hx hb dJ3_checkIndex_8e157_16 rfl (lv_at hl 0 rfl) ?_
      exact W.iret (v := p1) hx hb hr  (fun t ht hW => ⟨_, rfl, h, ht⟩) (fun q hq => by cases hq) dJ3_checkIndex_8e157_17
    refine lv_aload_nN hx hb dJ3_checkIndex_8e157_9 rfl (lv_at hl 2 rfl) ?_
    refine lv_iload_n hx hb dJ3_checkIndex_8e157_10 rfl (lv_at hl 0 rfl) ?_
    refine lv_iload_n hx hb dJ3_checkIndex_8e157_11 rfl (lv_at hl 1 rfl) ?_
    exact h.elim
  show W p l e _ s m _ below meth c s.heap [] 0 0 _ (entryFrame m ([.int p1, .int p2, .ref p3] : List Value).toArray 3)
  have hl := lv_entry ([.int p1, .int p2, .ref p3]) (n := 3) (Nat.le_of_ble_eq_true rfl)
  rw [lg_entry_eq]
  generalize (lg_sl ([.int p1, .int p2, .ref p3]) ++ List.replicate (3 - (lg_sl ([.int p1, .int p2, .ref p3])).length) Slot.unset).toArray = ls at hl ⊢
  have hl : lv_has ls 3 [(0, .int p1), (1, .int p2), (2, .ref p3)] := hl
  unfold wp_J3_checkIndex_8e157 at h
  refine lv_iload_n hx hb dJ3_checkIndex_8e157_0 rfl (lv_at hl 0 rfl) ?_
  refine fx_if_lt (tgt := 9) hx hb h dJ3_checkIndex_8e157_1 (by decide) (fun h => ?_) (fun h => ?_)
  · refine lv_aload_n hx hb dJ3_checkIndex_8e157_9 rfl (lv_at hl 2 rfl) ?_
    refine lv_iload_n hx hb dJ3_checkIndex_8e157_10 rfl (lv_at hl 0 rfl) ?_
    refine lv_iload_n hx hb dJ3_checkIndex_8e157_11 rfl (lv_at hl 1 rfl) ?_
    exact h.elim
  refine lv_iload_n hx hb dJ3_checkIndex_8e157_4 rfl (lv_at hl 0 rfl) ?_
  refine lv_iload_n hx hb dJ3_checkIndex_8e157_5 rfl (lv_at hl 1 rfl) ?_
  refine fx_icmp_lt (tgt := 16) hx hb h dJ3_checkIndex_8e157_6 (by decide) (fun h => ?_) (fun h => ?_)
  · refine lv_iload_n hx hb dJ3_checkIndex_8e157_16 rfl (lv_at hl 0 rfl) ?_
    exact W.iret (v := p1) hx hb hr  (fun t ht hW => ⟨_, rfl, h, ht⟩) (fun q hq => by cases hq) dJ3_checkIndex_8e157_17
  refine lv_aload_n hx hb dJ3_checkIndex_8e157_9 rfl (lv_at hl 2 rfl) ?_
  refine lv_iload_n hx hb dJ3_checkIndex_8e157_10 rfl (lv_at hl 0 rfl) ?_
  refine lv_iload_n hx hb dJ3_checkIndex_8e157_11 rfl (lv_at hl 1 rfl) ?_
  exact h.elim

/-- J0_checkIndex_df160: its walk -/
def wp_J0_checkIndex_df160 (post : Prop) (p1 : Int32) (p2 : Int32) : Prop :=
  wp_J3_checkIndex_8e157 (fun r1 => post) p1 p2
set_option maxHeartbeats 4000000 in
set_option maxRecDepth 100000 in
theorem cw_J0_checkIndex_df160 (l : Launch) (X : fx_X)   (p1 : Int32) (p2 : Int32) (post : Prop) (h : wp_J0_checkIndex_df160 post p1 p2) : Met l yJ0_checkIndex_df160 wsJ0_checkIndex_df160 ({ frames := 1, cells := 0, slots := 0, locals := 22 }) (va_Pc [.int p1, .int p2] (fx_PP X [])) (va_Sv (fun _ => post)) 0 0 (fun _ => False) := by
  refine Met.ofW (cc := cJ0_checkIndex_df160) (maxL := 2) (ret := none) (by decide) rfl ?_
  intro p e s m args below meth c s₁ B hml hv
  obtain ⟨rfl, hP, hK, hG⟩ := hv
  have hx := B.exec
  have hb := B.bytes
  have hr := B.returns
  have hts := atoms_spec (ws := wsJ0_checkIndex_df160) B.pre
  have hown : s.vm.findClass RJ0 = some m.cls := findClass_of_methodNamed B.named
  have hlocks := B.notSynchronized
  have hS : va_S (fun _ => False) s.heap s.heap [] := va_S.rf
  have k1053 := hts (.fieldLink RJ0 1053 "jdk/internal/util/Preconditions" "SIOOBE_FORMATTER" "Ljava/util/function/BiFunction;") (by decide +kernel)
  have hl := lv_entry ([.int p1, .int p2]) (n := 2) (Nat.le_of_ble_eq_true rfl)
  rw [lg_entry_eq]
  generalize (lg_sl ([.int p1, .int p2]) ++ List.replicate (2 - (lg_sl ([.int p1, .int p2])).length) Slot.unset).toArray = ls at hl ⊢
  have hl : lv_has ls 2 [(0, .int p1), (1, .int p2)] := hl
  unfold wp_J0_checkIndex_df160 at h
  refine lv_iload_n hx hb dJ0_checkIndex_df160_0 rfl (lv_at hl 0 rfl) ?_
  refine lv_iload_n hx hb dJ0_checkIndex_df160_1 rfl (lv_at hl 1 rfl) ?_
  refine va_gets (v := va_rf (fx_rF X)) hx hb hG.fmt hS hown k1053 (fun _ h9 => h9) dJ0_checkIndex_df160_2 ?_
  refine vp_callSi (W.runS (As := [.int p1, .int p2, va_rf (fx_rF X)]) (rest := []) ⟨hx, hb, hml, hown, hts⟩ (cw_J3_checkIndex_8e157 l X   p1 p2 (fx_rF X) _ h) (va_cwS 3 hts gJ0_checkIndex_df160_J3_checkIndex_8e157 rfl rfl rfl (by decide +kernel) ⟨Nat.le_of_ble_eq_true rfl, Nat.le_of_ble_eq_true rfl⟩) (fx_ps (wc := []) hP hK hG hS [] rfl) rfl rfl hl.1 rfl (lv_room (Nat.le_of_ble_eq_true rfl)) dJ0_checkIndex_df160_5 ⟨Nat.le_of_ble_eq_true rfl, Nat.le_of_ble_eq_true rfl⟩) (fun r1 h => ?_)
  refine lv_pop hx hb dJ0_checkIndex_df160_8 rfl ?_
  exact W.vret hx hb hr (fun t ht hW => ⟨rfl, h, ht⟩) (fun q hq => by cases hq) dJ0_checkIndex_df160_9

/-- J1_charAt_3b067: its walk -/
def wp_J1_charAt_3b067 (post : Int32 → Prop) (p1 : Nat) (p2 : Int32) : Prop :=
  fx_lt p1 66 (wp_J0_checkIndex_df160 (fx_lt p1 66 (fx_ix p2 (fx_sl p1) (fun k2 => fx_nm (nI (fx_sc p1 k2)) (fun v1 => fx_nm (v1 &&& (nI 255)) (fun v3 => fx_nm ((v3.toUInt32 % 65536).toInt32) (fun v4 => fx_ch v4 (post v4))))))) p2 (nI (fx_sl p1)))
set_option maxHeartbeats 4000000 in
set_option maxRecDepth 100000 in
theorem cw_J1_charAt_3b067 (l : Launch) (X : fx_X)   (p1 : Nat) (p2 : Int32) (post : Int32 → Prop) (h : wp_J1_charAt_3b067 post p1 p2) : Met l yJ1_charAt_3b067 wsJ1_charAt_3b067 ({ frames := 2, cells := 0, slots := 0, locals := 43 }) (va_Pc [.ref (fx_aV X p1), .int p2] (fx_PP X [])) (vp_Si post) 0 0 (fun _ => False) := by
  refine Met.ofW (cc := cJ1_charAt_3b067) (maxL := 2) (ret := (some .char)) (by decide) rfl ?_
  intro p e s m args below meth c s₁ B hml hv
  obtain ⟨rfl, hP, hK, hG⟩ := hv
  have hx := B.exec
  have hb := B.bytes
  have hr := B.returns
  have hts := atoms_spec (ws := wsJ1_charAt_3b067) B.pre
  have hown : s.vm.findClass RJ1 = some m.cls := findClass_of_methodNamed B.named
  have hlocks := B.notSynchronized
  have hS : va_S (fun _ => False) s.heap s.heap [] := va_S.rf
  have hl := lv_entry ([.ref (fx_aV X p1), .int p2]) (n := 2) (Nat.le_of_ble_eq_true rfl)
  rw [lg_entry_eq]
  generalize (lg_sl ([.ref (fx_aV X p1), .int p2]) ++ List.replicate (2 - (lg_sl ([.ref (fx_aV X p1), .int p2])).length) Slot.unset).toArray = ls at hl ⊢
  have hl : lv_has ls 2 [(0, .ref (fx_aV X p1)), (1, .int p2)] := hl
  unfold wp_J1_charAt_3b067 at h
  refine lv_iload_n hx hb dJ1_charAt_3b067_0 rfl (lv_at hl 1 rfl) ?_
  refine lv_aload_n hx hb dJ1_charAt_3b067_1 rfl (lv_at hl 0 rfl) ?_
  refine va_tlen (v := nI (fx_sl p1)) hx hb (hG.sbyt h.1) hS rfl dJ1_charAt_3b067_2 ?_
  have h := h.2
  refine va_csv (W.runS (As := [.int p2, .int (nI (fx_sl p1))]) (rest := []) ⟨hx, hb, hml, hown, hts⟩ (cw_J0_checkIndex_df160 l X   p2 (nI (fx_sl p1)) _ h) (va_cwS 2 hts gJ1_charAt_3b067_J0_checkIndex_df160 rfl rfl rfl (by decide +kernel) ⟨Nat.le_of_ble_eq_true rfl, Nat.le_of_ble_eq_true rfl⟩) (fx_ps (wc := []) hP hK hG hS [] rfl) rfl rfl hl.1 rfl (lv_room (Nat.le_of_ble_eq_true rfl)) dJ1_charAt_3b067_3 ⟨Nat.le_of_ble_eq_true rfl, Nat.le_of_ble_eq_true rfl⟩) (fun h => ?_)
  refine lv_aload_n hx hb dJ1_charAt_3b067_6 rfl (lv_at hl 0 rfl) ?_
  refine lv_iload_n hx hb dJ1_charAt_3b067_7 rfl (lv_at hl 1 rfl) ?_
  refine fx_stb hx hb (hG.sbyt h.1) hS h.2 dJ1_charAt_3b067_8 (fun v1 h => ?_)
  refine lv_sipush (v := (nI 255)) hx hb dJ1_charAt_3b067_9 (by decide) ?_
  refine fx_iand hx hb h dJ1_charAt_3b067_12 (fun v3 h => ?_)
  refine fx_i2c hx hb h dJ1_charAt_3b067_13 (fun v4 h => ?_)
  exact W.zret (v := v4) hx hb hr (fx_ch_n h) (fun t ht hW => ⟨_, rfl, h.2, ht⟩) (fun q hq => by cases hq) dJ1_charAt_3b067_14

/-- J0_coder_7d493: its walk -/
def wp_J0_coder_7d493 (post : Int32 → Prop) (p0 : Nat) : Prop :=
  fx_lt p0 66 (post (nI 0))
set_option maxHeartbeats 4000000 in
set_option maxRecDepth 100000 in
theorem cw_J0_coder_7d493 (l : Launch) (X : fx_X)   (p0 : Nat) (post : Int32 → Prop) (h : wp_J0_coder_7d493 post p0) : Met l yJ0_coder_7d493 wsJ0_coder_7d493 ({ frames := 0, cells := 0, slots := 0, locals := 0 }) (va_Pc [.ref (fx_aS X p0)] (fx_PP X [])) (vp_Si post) 0 0 (fun _ => False) := by
  refine Met.ofW (cc := cJ0_coder_7d493) (maxL := 1) (ret := (some .byte)) (by decide) rfl ?_
  intro p e s m args below meth c s₁ B hml hv
  obtain ⟨rfl, hP, hK, hG⟩ := hv
  have hx := B.exec
  have hb := B.bytes
  have hr := B.returns
  have hts := atoms_spec (ws := wsJ0_coder_7d493) B.pre
  have hown : s.vm.findClass RJ0 = some m.cls := findClass_of_methodNamed B.named
  have hlocks := B.notSynchronized
  have hS : va_S (fun _ => False) s.heap s.heap [] := va_S.rf
  have k38 := hts (.fieldLink RJ0 38 "java/lang/String" "COMPACT_STRINGS" "Z") (by decide +kernel)
  have k15 := hts (.fieldLink RJ0 15 "java/lang/String" "coder" "B") (by decide +kernel)
  have hl := lv_entry ([.ref (fx_aS X p0)]) (n := 1) (Nat.le_of_ble_eq_true rfl)
  rw [lg_entry_eq]
  generalize (lg_sl ([.ref (fx_aS X p0)]) ++ List.replicate (1 - (lg_sl ([.ref (fx_aS X p0)])).length) Slot.unset).toArray = ls at hl ⊢
  have hl : lv_has ls 1 [(0, .ref (fx_aS X p0))] := hl
  unfold wp_J0_coder_7d493 at h
  refine va_gets (v := .int (nI 1)) hx hb hG.cs hS hown k38 (fun _ h9 => h9) dJ0_coder_7d493_0 ?_
  refine lv_if_eq (tgt := 13) hx hb dJ0_coder_7d493_3 (by decide) (fun q => absurd q (by decide)) (fun _ => ?_)
  refine lv_aload_n hx hb dJ0_coder_7d493_6 rfl (lv_at hl 0 rfl) ?_
  refine vk_getf (v := .int (nI 0)) hx hb (hG.scod h.1) hS hown k15 (fun _ h9 => h9) dJ0_coder_7d493_7 ?_
  have h := h.2
  refine lv_goto (tgt := 14) hx hb dJ0_coder_7d493_10 (by decide) ?_
  exact W.zret (v := (nI 0)) hx hb hr (by decide) (fun t ht hW => ⟨_, rfl, h, ht⟩) (fun q hq => by cases hq) dJ0_coder_7d493_14

/-- J0_isLatin1_aae02: its walk -/
def wp_J0_isLatin1_aae02 (post : Int32 → Prop) (p0 : Nat) : Prop :=
  fx_lt p0 66 (post (nI 1))
set_option maxHeartbeats 4000000 in
set_option maxRecDepth 100000 in
theorem cw_J0_isLatin1_aae02 (l : Launch) (X : fx_X)   (p0 : Nat) (post : Int32 → Prop) (h : wp_J0_isLatin1_aae02 post p0) : Met l yJ0_isLatin1_aae02 wsJ0_isLatin1_aae02 ({ frames := 0, cells := 0, slots := 0, locals := 0 }) (va_Pc [.ref (fx_aS X p0)] (fx_PP X [])) (vp_Si post) 0 0 (fun _ => False) := by
  refine Met.ofW (cc := cJ0_isLatin1_aae02) (maxL := 1) (ret := (some .boolean)) (by decide) rfl ?_
  intro p e s m args below meth c s₁ B hml hv
  obtain ⟨rfl, hP, hK, hG⟩ := hv
  have hx := B.exec
  have hb := B.bytes
  have hr := B.returns
  have hts := atoms_spec (ws := wsJ0_isLatin1_aae02) B.pre
  have hown : s.vm.findClass RJ0 = some m.cls := findClass_of_methodNamed B.named
  have hlocks := B.notSynchronized
  have hS : va_S (fun _ => False) s.heap s.heap [] := va_S.rf
  have k38 := hts (.fieldLink RJ0 38 "java/lang/String" "COMPACT_STRINGS" "Z") (by decide +kernel)
  have k15 := hts (.fieldLink RJ0 15 "java/lang/String" "coder" "B") (by decide +kernel)
  have hl := lv_entry ([.ref (fx_aS X p0)]) (n := 1) (Nat.le_of_ble_eq_true rfl)
  rw [lg_entry_eq]
  generalize (lg_sl ([.ref (fx_aS X p0)]) ++ List.replicate (1 - (lg_sl ([.ref (fx_aS X p0)])).length) Slot.unset).toArray = ls at hl ⊢
  have hl : lv_has ls 1 [(0, .ref (fx_aS X p0))] := hl
  unfold wp_J0_isLatin1_aae02 at h
  refine va_gets (v := .int (nI 1)) hx hb hG.cs hS hown k38 (fun _ h9 => h9) dJ0_isLatin1_aae02_0 ?_
  refine lv_if_eq (tgt := 17) hx hb dJ0_isLatin1_aae02_3 (by decide) (fun q => absurd q (by decide)) (fun _ => ?_)
  refine lv_aload_n hx hb dJ0_isLatin1_aae02_6 rfl (lv_at hl 0 rfl) ?_
  refine vk_getf (v := .int (nI 0)) hx hb (hG.scod h.1) hS hown k15 (fun _ h9 => h9) dJ0_isLatin1_aae02_7 ?_
  have h := h.2
  refine lv_if_ne (tgt := 17) hx hb dJ0_isLatin1_aae02_10 (by decide) (fun q => absurd (by decide) q) (fun _ => ?_)
  refine lv_iconst (v := (nI 1)) hx hb dJ0_isLatin1_aae02_13 (by decide) ?_
  refine lv_goto (tgt := 18) hx hb dJ0_isLatin1_aae02_14 (by decide) ?_
  exact W.zret (v := (nI 1)) hx hb hr rfl (fun t ht hW => ⟨_, rfl, h, ht⟩) (fun q hq => by cases hq) dJ0_isLatin1_aae02_18

/-- J0_length_8abf5: its walk -/
def wp_J0_length_8abf5 (post : Int32 → Prop) (p0 : Nat) : Prop :=
  fx_lt p0 66 (fx_lt p0 66 (fx_lt p0 66 (wp_J0_coder_7d493 (fun r1 => fx_nm ((nI (fx_sl p0)) >>> (r1 &&& 31)) (fun v2 => post v2)) p0)))
set_option maxHeartbeats 4000000 in
set_option maxRecDepth 100000 in
theorem cw_J0_length_8abf5 (l : Launch) (X : fx_X)   (p0 : Nat) (post : Int32 → Prop) (h : wp_J0_length_8abf5 post p0) : Met l yJ0_length_8abf5 wsJ0_length_8abf5 ({ frames := 1, cells := 0, slots := 0, locals := 20 }) (va_Pc [.ref (fx_aS X p0)] (fx_PP X [])) (vp_Si post) 0 0 (fun _ => False) := by
  refine Met.ofW (cc := cJ0_length_8abf5) (maxL := 1) (ret := (some .int)) (by decide) rfl ?_
  intro p e s m args below meth c s₁ B hml hv
  obtain ⟨rfl, hP, hK, hG⟩ := hv
  have hx := B.exec
  have hb := B.bytes
  have hr := B.returns
  have hts := atoms_spec (ws := wsJ0_length_8abf5) B.pre
  have hown : s.vm.findClass RJ0 = some m.cls := findClass_of_methodNamed B.named
  have hlocks := B.notSynchronized
  have hS : va_S (fun _ => False) s.heap s.heap [] := va_S.rf
  have k9 := hts (.fieldLink RJ0 9 "java/lang/String" "value" "[B") (by decide +kernel)
  have hl := lv_entry ([.ref (fx_aS X p0)]) (n := 1) (Nat.le_of_ble_eq_true rfl)
  rw [lg_entry_eq]
  generalize (lg_sl ([.ref (fx_aS X p0)]) ++ List.replicate (1 - (lg_sl ([.ref (fx_aS X p0)])).length) Slot.unset).toArray = ls at hl ⊢
  have hl : lv_has ls 1 [(0, .ref (fx_aS X p0))] := hl
  unfold wp_J0_length_8abf5 at h
  refine lv_aload_n hx hb dJ0_length_8abf5_0 rfl (lv_at hl 0 rfl) ?_
  refine vk_getf hx hb (hG.sval h.1) hS hown k9 (fun _ h9 => h9) dJ0_length_8abf5_1 ?_
  have h := h.2
  refine va_tlen (v := nI (fx_sl p0)) hx hb (hG.sbyt h.1) hS rfl dJ0_length_8abf5_4 ?_
  have h := h.2
  refine lv_aload_n hx hb dJ0_length_8abf5_5 rfl (lv_at hl 0 rfl) ?_
  refine vp_callSi (W.runV (As := []) (rest := [.int (nI (fx_sl p0))]) ⟨hx, hb, hml, hown, hts⟩ (cw_J0_coder_7d493 l X   p0 _ h.2) (cwV 0 hts gJ0_length_8abf5_J0_coder_7d493 rfl rfl rfl (by decide +kernel) ⟨Nat.le_of_ble_eq_true rfl, Nat.le_of_ble_eq_true rfl⟩) (fx_pv (wc := []) hP hK hG hS (hG.recS h.1 hS) [] rfl) rfl rfl hl.1 rfl (lv_room (Nat.le_of_ble_eq_true rfl)) dJ0_length_8abf5_6 ⟨Nat.le_of_ble_eq_true rfl, Nat.le_of_ble_eq_true rfl⟩) (fun r1 h => ?_)
  refine fx_ishr hx hb h dJ0_length_8abf5_9 (fun v2 h => ?_)
  exact W.iret (v := v2) hx hb hr  (fun t ht hW => ⟨_, rfl, h, ht⟩) (fun q hq => by cases hq) dJ0_length_8abf5_10

/-- J0_charAt_5068e: its walk -/
def wp_J0_charAt_5068e (post : Int32 → Prop) (p0 : Nat) (p1 : Int32) : Prop :=
  fx_lt p0 66 (wp_J0_isLatin1_aae02 (fun r1 => fx_br (r1 = 0) (fx_lt p0 66 (False)) (fx_lt p0 66 (wp_J1_charAt_3b067 (fun r2 => fx_ch r2 (post r2)) p0 p1))) p0)
set_option maxHeartbeats 4000000 in
set_option maxRecDepth 100000 in
theorem cw_J0_charAt_5068e (l : Launch) (X : fx_X)   (p0 : Nat) (p1 : Int32) (post : Int32 → Prop) (h : wp_J0_charAt_5068e post p0 p1) : Met l yJ0_charAt_5068e wsJ0_charAt_5068e ({ frames := 3, cells := 0, slots := 0, locals := 64 }) (va_Pc [.ref (fx_aS X p0), .int p1] (fx_PP X [])) (vp_Si post) 0 0 (fun _ => False) := by
  refine Met.ofW (cc := cJ0_charAt_5068e) (maxL := 2) (ret := (some .char)) (by decide) rfl ?_
  intro p e s m args below meth c s₁ B hml hv
  obtain ⟨rfl, hP, hK, hG⟩ := hv
  have hx := B.exec
  have hb := B.bytes
  have hr := B.returns
  have hts := atoms_spec (ws := wsJ0_charAt_5068e) B.pre
  have hown : s.vm.findClass RJ0 = some m.cls := findClass_of_methodNamed B.named
  have hlocks := B.notSynchronized
  have hS : va_S (fun _ => False) s.heap s.heap [] := va_S.rf
  have k9 := hts (.fieldLink RJ0 9 "java/lang/String" "value" "[B") (by decide +kernel)
  have hl := lv_entry ([.ref (fx_aS X p0), .int p1]) (n := 2) (Nat.le_of_ble_eq_true rfl)
  rw [lg_entry_eq]
  generalize (lg_sl ([.ref (fx_aS X p0), .int p1]) ++ List.replicate (2 - (lg_sl ([.ref (fx_aS X p0), .int p1])).length) Slot.unset).toArray = ls at hl ⊢
  have hl : lv_has ls 2 [(0, .ref (fx_aS X p0)), (1, .int p1)] := hl
  unfold wp_J0_charAt_5068e at h
  refine lv_aload_n hx hb dJ0_charAt_5068e_0 rfl (lv_at hl 0 rfl) ?_
  refine vp_callSi (W.runV (As := []) (rest := []) ⟨hx, hb, hml, hown, hts⟩ (cw_J0_isLatin1_aae02 l X   p0 _ h.2) (cwV 0 hts gJ0_charAt_5068e_J0_isLatin1_aae02 rfl rfl rfl (by decide +kernel) ⟨Nat.le_of_ble_eq_true rfl, Nat.le_of_ble_eq_true rfl⟩) (fx_pv (wc := []) hP hK hG hS (hG.recS h.1 hS) [] rfl) rfl rfl hl.1 rfl (lv_room (Nat.le_of_ble_eq_true rfl)) dJ0_charAt_5068e_1 ⟨Nat.le_of_ble_eq_true rfl, Nat.le_of_ble_eq_true rfl⟩) (fun r1 h => ?_)
  refine fx_if_eq (tgt := 16) hx hb h dJ0_charAt_5068e_4 (by decide) (fun h => ?_) (fun h => ?_)
  · refine lv_aload_n hx hb dJ0_charAt_5068e_16 rfl (lv_at hl 0 rfl) ?_
    refine vk_getf hx hb (hG.sval h.1) hS hown k9 (fun _ h9 => h9) dJ0_charAt_5068e_17 ?_
    have h := h.2
    refine lv_iload_n hx hb dJ0_charAt_5068e_20 rfl (lv_at hl 1 rfl) ?_
    exact h.elim
  refine lv_aload_n hx hb dJ0_charAt_5068e_7 rfl (lv_at hl 0 rfl) ?_
  refine vk_getf hx hb (hG.sval h.1) hS hown k9 (fun _ h9 => h9) dJ0_charAt_5068e_8 ?_
  have h := h.2
  refine lv_iload_n hx hb dJ0_charAt_5068e_11 rfl (lv_at hl 1 rfl) ?_
  refine vp_callSi (W.runS (As := [.ref (fx_aV X p0), .int p1]) (rest := []) ⟨hx, hb, hml, hown, hts⟩ (cw_J1_charAt_3b067 l X   p0 p1 _ h) (va_cwS 2 hts gJ0_charAt_5068e_J1_charAt_3b067 rfl rfl rfl (by decide +kernel) ⟨Nat.le_of_ble_eq_true rfl, Nat.le_of_ble_eq_true rfl⟩) (fx_ps (wc := []) hP hK hG hS [] rfl) rfl rfl hl.1 rfl (lv_room (Nat.le_of_ble_eq_true rfl)) dJ0_charAt_5068e_12 ⟨Nat.le_of_ble_eq_true rfl, Nat.le_of_ble_eq_true rfl⟩) (fun r2 h => ?_)
  exact W.zret (v := r2) hx hb hr (fx_ch_n h) (fun t ht hW => ⟨_, rfl, h.2, ht⟩) (fun q hq => by cases hq) dJ0_charAt_5068e_15

/-- J7_fill_53178: its walk -/
def wp_J7_fill_53178 (post : (Nat → Int32) → Prop) (n_p1 : Nat) (f_p1 : Nat → Int32) (p2 : Int32) : Prop :=
  fx_wh2 (fun (rec3 : Int32 → (Nat → Int32) → Prop) (x1 : Int32) (y2 : Nat → Int32) => fx_br ((nI n_p1) ≤ x1) (post y2) (fx_ix x1 n_p1 (fun k6 => fx_nm (upd y2 k6 p2) (fun g4 => fx_nm (x1 + (nI 1)) (fun v5 => rec3 v5 g4))))) (nI 0) f_p1
set_option maxHeartbeats 4000000 in
set_option maxRecDepth 100000 in
theorem cw_J7_fill_53178 (l : Launch) (X : fx_X) (a_p1 : Nat) (n_p1 : Nat) (f_p1 : Nat → Int32) (sz : Nat) (p2 : Int32) (post : (Nat → Int32) → Prop) (h : wp_J7_fill_53178 post n_p1 f_p1 p2) : Met l yJ7_fill_53178 wsJ7_fill_53178 ({ frames := 0, cells := 0, slots := 0, locals := 0 }) (va_Pc [.ref a_p1, .int p2] (fx_PW X [(a_p1, .inl (fx_cI X, n_p1, .inl f_p1))] sz)) (va_Qv (fun (u : (Nat → Int32)) => post u) (fun (u : (Nat → Int32)) t => fx_EW X (va_A [(a_p1, .inl (fx_cI X, n_p1, .inl f_p1))] sz) [(a_p1, .inl (fx_cI X, n_p1, .inl u))] t) (va_A [(a_p1, .inl (fx_cI X, n_p1, .inl f_p1))] sz)) 0 0 (va_A [(a_p1, .inl (fx_cI X, n_p1, .inl f_p1))] sz) := by
  refine Met.ofW (cc := cJ7_fill_53178) (maxL := 4) (ret := none) (by decide) rfl ?_
  intro p e s m args below meth c s₁ B hml hv
  obtain ⟨rfl, hsz, hP, hK, hD0, hG⟩ := hv
  have hx := B.exec
  have hb := B.bytes
  have hr := B.returns
  have hts := atoms_spec (ws := wsJ7_fill_53178) B.pre
  have hown : s.vm.findClass RJ7 = some m.cls := findClass_of_methodNamed B.named
  have hlocks := B.notSynchronized
  subst hsz
  have hD := hD0.self (sz := s.heap.size)
  generalize hAe : va_A [(a_p1, .inl (fx_cI X, n_p1, .inl f_p1))] s.heap.size = A at hD hG ⊢
  have hA : ∀ q : Nat, s.heap.size ≤ q → A q := fun q h => by rw [← hAe]; exact Or.inr h
  have hS : va_S A s.heap s.heap [] := va_S.rf
  have hl := lv_entry ([.ref a_p1, .int p2]) (n := 4) (Nat.le_of_ble_eq_true rfl)
  rw [lg_entry_eq]
  generalize (lg_sl ([.ref a_p1, .int p2]) ++ List.replicate (4 - (lg_sl ([.ref a_p1, .int p2])).length) Slot.unset).toArray = ls at hl ⊢
  have hl : lv_has ls 4 [(0, .ref a_p1), (1, .int p2)] := hl
  unfold wp_J7_fill_53178 at h
  refine lv_iconst (v := (nI 0)) hx hb dJ7_fill_53178_0 (by decide) ?_
  refine lv_istore_n (lv' := [(2, .int (nI 0)), (0, .ref a_p1), (1, .int p2)]) hx hb dJ7_fill_53178_1 rfl hl (by decide) rfl (fun ls hl => ?_)
  refine lv_aload_n hx hb dJ7_fill_53178_2 rfl (lv_at hl 1 rfl) ?_
  refine va_alen (v := nI n_p1) hx hb hK hP 0 0 rfl rfl rfl dJ7_fill_53178_3 ?_
  refine lv_istore_n (lv' := [(3, .int (nI n_p1)), (2, .int (nI 0)), (0, .ref a_p1), (1, .int p2)]) hx hb dJ7_fill_53178_4 rfl hl (by decide) rfl (fun ls hl => ?_)
  refine fx_loop2 (G := fun (x1 : Int32) (y2 : Nat → Int32) => ∀ (H : Heap) (locs : List Loc) (ls : Array Slot), va_P (fx_D X) vwCl [(a_p1, .inl (fx_cI X, n_p1, .inl y2))] H → va_D A [(a_p1, .inl (fx_cI X, n_p1, .inl y2))] → va_S A s.heap H locs → lv_has ls 4 [(3, .int (nI n_p1)), (2, .int x1), (0, .ref a_p1), (1, .int p2)] → W p l e _ s m _ below meth c H locs _ _ _ (F0 m 5 ls [])) (fun rec3 hrec3 x1 y2 h => ?_) h _ _ _ hP hD hS (lv_sub hl [0, 1, 2, 3] rfl)
  intro H locs ls hP hD hS hl
  refine lv_iload_n hx hb dJ7_fill_53178_5 rfl (lv_at hl 1 rfl) ?_
  refine lv_iload_n hx hb dJ7_fill_53178_6 rfl (lv_at hl 0 rfl) ?_
  refine fx_icmp_ge (tgt := 20) hx hb h dJ7_fill_53178_7 (by decide) (fun h => ?_) (fun h => ?_)
  · exact W.vret hx hb hr (fun t ht hW => ⟨⟨y2, rfl, h, by rw [ht]; exact hP, va_K.moved hW.alike hK, hD⟩, hS.F ht⟩) hS.2.2 dJ7_fill_53178_20
  refine lv_aload_n hx hb dJ7_fill_53178_10 rfl (lv_at hl 2 rfl) ?_
  refine lv_iload_n hx hb dJ7_fill_53178_11 rfl (lv_at hl 1 rfl) ?_
  refine lv_iload_n hx hb dJ7_fill_53178_12 rfl (lv_at hl 3 rfl) ?_
  refine fx_iast hx hb hK hP hD hS 0 0 rfl rfl h dJ7_fill_53178_13 (fun g4 => [(a_p1, .inl (fx_cI X, n_p1, .inl g4))]) (fun _ => rfl) (fun H locs g4 h hP hD hS => ?_)
  refine fx_iinc (y := (nI 1)) hx hb h dJ7_fill_53178_14 (by decide) (fun v5 => [(2, .int v5), (3, .int (nI n_p1)), (0, .ref a_p1), (1, .int p2)]) hl 1 rfl (by decide) (fun _ => rfl) (fun v5 ls h hl => ?_)
  refine lv_goto (tgt := 5) hx hb dJ7_fill_53178_17 (by decide) ?_
  exact hrec3 _ _ h _ _ _ hP hD hS (lv_sub hl [1, 0, 2, 3] rfl)

/-- X3_takes: its walk -/
def wp_X3_takes (post : Int32 → Prop) (p0 : Nat) : Prop :=
  fx_lt p0 18 (fx_lt (fx_ra.getD p0 0) 66 (wp_J0_length_8abf5 (fun r1 => fx_dv (nI 4) (fx_nm (r1 / (nI 4)) (fun v2 => post v2))) (fx_ra.getD p0 0)))
set_option maxHeartbeats 4000000 in
set_option maxRecDepth 100000 in
theorem cw_X3_takes (l : Launch) (X : fx_X)   (p0 : Nat) (post : Int32 → Prop) (h : wp_X3_takes post p0) : Met l yX3_takes wsX3_takes ({ frames := 2, cells := 0, slots := 0, locals := 40 }) (va_Pc [.ref (fx_aR X p0)] (fx_PP X [])) (vp_Si post) 0 0 (fun _ => False) := by
  refine Met.ofW (cc := cX3_takes) (maxL := 1) (ret := (some .int)) (by decide) rfl ?_
  intro p e s m args below meth c s₁ B hml hv
  obtain ⟨rfl, hP, hK, hG⟩ := hv
  have hx := B.exec
  have hb := B.bytes
  have hr := B.returns
  have hts := atoms_spec (ws := wsX3_takes) B.pre
  have hown : s.vm.findClass RX3 = some m.cls := findClass_of_methodNamed B.named
  have hlocks := B.notSynchronized
  have hS : va_S (fun _ => False) s.heap s.heap [] := va_S.rf
  have k81 := hts (.fieldLink RX3 81 "ProofChecker$Rule" "asks" "Ljava/lang/String;") (by decide +kernel)
  have hl := lv_entry ([.ref (fx_aR X p0)]) (n := 1) (Nat.le_of_ble_eq_true rfl)
  rw [lg_entry_eq]
  generalize (lg_sl ([.ref (fx_aR X p0)]) ++ List.replicate (1 - (lg_sl ([.ref (fx_aR X p0)])).length) Slot.unset).toArray = ls at hl ⊢
  have hl : lv_has ls 1 [(0, .ref (fx_aR X p0))] := hl
  unfold wp_X3_takes at h
  refine lv_aload_n hx hb dX3_takes_0 rfl (lv_at hl 0 rfl) ?_
  refine va_getX hx hb hG.asks h.1 hS hown k81 (fun _ h9 => h9) dX3_takes_1 ?_
  have h := h.2
  refine vp_callSi (W.runV (As := []) (rest := []) ⟨hx, hb, hml, hown, hts⟩ (cw_J0_length_8abf5 l X   (fx_ra.getD p0 0) _ h.2) (cwV 0 hts gX3_takes_J0_length_8abf5 rfl rfl rfl (by decide +kernel) ⟨Nat.le_of_ble_eq_true rfl, Nat.le_of_ble_eq_true rfl⟩) (fx_pv (wc := []) hP hK hG hS (hG.recS h.1 hS) [] rfl) rfl rfl hl.1 rfl (lv_room (Nat.le_of_ble_eq_true rfl)) dX3_takes_4 ⟨Nat.le_of_ble_eq_true rfl, Nat.le_of_ble_eq_true rfl⟩) (fun r1 h => ?_)
  refine lv_iconst (v := (nI 4)) hx hb dX3_takes_7 (by decide) ?_
  refine fx_idiv hx hb h dX3_takes_8 (fun v2 h => ?_)
  exact W.iret (v := v2) hx hb hr  (fun t ht hW => ⟨_, rfl, h, ht⟩) (fun q hq => by cases hq) dX3_takes_9

/-- X1_kindFor: its walk -/
def wp_X1_kindFor (post : Int32 → Prop) (p1 : Int32) : Prop :=
  fx_br (p1 < (nI 49)) (fx_br (p1 < (nI 65)) (post (nI 0)) (fx_br ((nI 67) < p1) (post (nI 0)) (fx_nm (p1 - (nI 65)) (fun v1 => fx_nm (v1 + (nI 10)) (fun v2 => post v2))))) (fx_br ((nI 57) < p1) (fx_br (p1 < (nI 65)) (post (nI 0)) (fx_br ((nI 67) < p1) (post (nI 0)) (fx_nm (p1 - (nI 65)) (fun v3 => fx_nm (v3 + (nI 10)) (fun v4 => post v4))))) (fx_nm (p1 - (nI 48)) (fun v5 => post v5)))
set_option maxHeartbeats 4000000 in
set_option maxRecDepth 100000 in
theorem cw_X1_kindFor (l : Launch) (X : fx_X)   (p1 : Int32) (post : Int32 → Prop) (h : wp_X1_kindFor post p1) : Met l yX1_kindFor wsX1_kindFor ({ frames := 0, cells := 0, slots := 0, locals := 0 }) (va_Pc [.int p1] (fx_PP X [])) (vp_Si post) 0 0 (fun _ => False) := by
  refine Met.ofW (cc := cX1_kindFor) (maxL := 1) (ret := (some .int)) (by decide) rfl ?_
  intro p e s m args below meth c s₁ B hml hv
  obtain ⟨rfl, hP, hK, hG⟩ := hv
  have hx := B.exec
  have hb := B.bytes
  have hr := B.returns
  have hts := atoms_spec (ws := wsX1_kindFor) B.pre
  have hown : s.vm.findClass RX1 = some m.cls := findClass_of_methodNamed B.named
  have hlocks := B.notSynchronized
  have hS : va_S (fun _ => False) s.heap s.heap [] := va_S.rf
  have hl := lv_entry ([.int p1]) (n := 1) (Nat.le_of_ble_eq_true rfl)
  rw [lg_entry_eq]
  generalize (lg_sl ([.int p1]) ++ List.replicate (1 - (lg_sl ([.int p1])).length) Slot.unset).toArray = ls at hl ⊢
  have hl : lv_has ls 1 [(0, .int p1)] := hl
  unfold wp_X1_kindFor at h
  refine lv_iload_n hx hb dX1_kindFor_0 rfl (lv_at hl 0 rfl) ?_
  refine lv_bipush (v := (nI 49)) hx hb dX1_kindFor_1 (by decide) ?_
  refine fx_icmp_lt (tgt := 17) hx hb h dX1_kindFor_3 (by decide) (fun h => ?_) (fun h => ?_)
  · refine lv_iload_n hx hb dX1_kindFor_17 rfl (lv_at hl 0 rfl) ?_
    refine lv_bipush (v := (nI 65)) hx hb dX1_kindFor_18 (by decide) ?_
    refine fx_icmp_lt (tgt := 39) hx hb h dX1_kindFor_20 (by decide) (fun h => ?_) (fun h => ?_)
    · refine lv_iconst (v := (nI 0)) hx hb dX1_kindFor_39 (by decide) ?_
      exact W.iret (v := (nI 0)) hx hb hr  (fun t ht hW => ⟨_, rfl, h, ht⟩) (fun q hq => by cases hq) dX1_kindFor_40
    refine lv_iload_n hx hb dX1_kindFor_23 rfl (lv_at hl 0 rfl) ?_
    refine lv_bipush (v := (nI 67)) hx hb dX1_kindFor_24 (by decide) ?_
    refine fx_icmp_gt (tgt := 39) hx hb h dX1_kindFor_26 (by decide) (fun h => ?_) (fun h => ?_)
    · refine lv_iconst (v := (nI 0)) hx hb dX1_kindFor_39 (by decide) ?_
      exact W.iret (v := (nI 0)) hx hb hr  (fun t ht hW => ⟨_, rfl, h, ht⟩) (fun q hq => by cases hq) dX1_kindFor_40
    refine lv_iload_n hx hb dX1_kindFor_29 rfl (lv_at hl 0 rfl) ?_
    refine lv_bipush (v := (nI 65)) hx hb dX1_kindFor_30 (by decide) ?_
    refine fx_isub hx hb h dX1_kindFor_32 (fun v1 h => ?_)
    refine lv_bipush (v := (nI 10)) hx hb dX1_kindFor_33 (by decide) ?_
    refine fx_iadd hx hb h dX1_kindFor_35 (fun v2 h => ?_)
    refine lv_goto (tgt := 40) hx hb dX1_kindFor_36 (by decide) ?_
    exact W.iret (v := v2) hx hb hr  (fun t ht hW => ⟨_, rfl, h, ht⟩) (fun q hq => by cases hq) dX1_kindFor_40
  refine lv_iload_n hx hb dX1_kindFor_6 rfl (lv_at hl 0 rfl) ?_
  refine lv_bipush (v := (nI 57)) hx hb dX1_kindFor_7 (by decide) ?_
  refine fx_icmp_gt (tgt := 17) hx hb h dX1_kindFor_9 (by decide) (fun h => ?_) (fun h => ?_)
  · refine lv_iload_n hx hb dX1_kindFor_17 rfl (lv_at hl 0 rfl) ?_
    refine lv_bipush (v := (nI 65)) hx hb dX1_kindFor_18 (by decide) ?_
    refine fx_icmp_lt (tgt := 39) hx hb h dX1_kindFor_20 (by decide) (fun h => ?_) (fun h => ?_)
    · refine lv_iconst (v := (nI 0)) hx hb dX1_kindFor_39 (by decide) ?_
      exact W.iret (v := (nI 0)) hx hb hr  (fun t ht hW => ⟨_, rfl, h, ht⟩) (fun q hq => by cases hq) dX1_kindFor_40
    refine lv_iload_n hx hb dX1_kindFor_23 rfl (lv_at hl 0 rfl) ?_
    refine lv_bipush (v := (nI 67)) hx hb dX1_kindFor_24 (by decide) ?_
    refine fx_icmp_gt (tgt := 39) hx hb h dX1_kindFor_26 (by decide) (fun h => ?_) (fun h => ?_)
    · refine lv_iconst (v := (nI 0)) hx hb dX1_kindFor_39 (by decide) ?_
      exact W.iret (v := (nI 0)) hx hb hr  (fun t ht hW => ⟨_, rfl, h, ht⟩) (fun q hq => by cases hq) dX1_kindFor_40
    refine lv_iload_n hx hb dX1_kindFor_29 rfl (lv_at hl 0 rfl) ?_
    refine lv_bipush (v := (nI 65)) hx hb dX1_kindFor_30 (by decide) ?_
    refine fx_isub hx hb h dX1_kindFor_32 (fun v3 h => ?_)
    refine lv_bipush (v := (nI 10)) hx hb dX1_kindFor_33 (by decide) ?_
    refine fx_iadd hx hb h dX1_kindFor_35 (fun v4 h => ?_)
    refine lv_goto (tgt := 40) hx hb dX1_kindFor_36 (by decide) ?_
    exact W.iret (v := v4) hx hb hr  (fun t ht hW => ⟨_, rfl, h, ht⟩) (fun q hq => by cases hq) dX1_kindFor_40
  refine lv_iload_n hx hb dX1_kindFor_12 rfl (lv_at hl 0 rfl) ?_
  refine lv_bipush (v := (nI 48)) hx hb dX1_kindFor_13 (by decide) ?_
  refine fx_isub hx hb h dX1_kindFor_15 (fun v5 h => ?_)
  exact W.iret (v := v5) hx hb hr  (fun t ht hW => ⟨_, rfl, h, ht⟩) (fun q hq => by cases hq) dX1_kindFor_16

/-- X1_meaning: its walk -/
def wp_X1_meaning (post : Int32 → Prop) (f_o_meanings : Nat → Int32) (p1 : Int32) : Prop :=
  fx_br (p1 < (nI 97)) (fx_br (p1 < (nI 48)) (post (nI 0)) (fx_br ((nI 57) < p1) (post (nI 0)) (fx_nm (p1 - (nI 48)) (fun v1 => post v1)))) (fx_br ((nI 122) < p1) (fx_br (p1 < (nI 48)) (post (nI 0)) (fx_br ((nI 57) < p1) (post (nI 0)) (fx_nm (p1 - (nI 48)) (fun v2 => post v2)))) (fx_nm (p1 - (nI 97)) (fun v3 => fx_ix v3 26 (fun k5 => fx_nm (f_o_meanings k5) (fun v4 => post v4)))))
theorem im_X1_meaning_X1 : ∀ w ∈ u_ws RX1 TX1 1, w ∈ wsX1_meaning := by decide +kernel
set_option maxHeartbeats 4000000 in
set_option maxRecDepth 100000 in
theorem cw_X1_meaning (l : Launch) (X : fx_X) (a_o : Nat) (a_o_meanings : Nat) (f_o_meanings : Nat → Int32) (p1 : Int32) (post : Int32 → Prop) (h : wp_X1_meaning post f_o_meanings p1) : Met l yX1_meaning wsX1_meaning ({ frames := 0, cells := 0, slots := 0, locals := 0 }) (va_Pc [.ref a_o, .int p1] (fx_PP X [(a_o, .inr (1, [.ref a_o_meanings])), (a_o_meanings, .inl (fx_cI X, 26, .inl f_o_meanings))])) (vp_Si post) 0 0 (fun _ => False) := by
  refine Met.ofW (cc := cX1_meaning) (maxL := 2) (ret := (some .int)) (by decide) rfl ?_
  intro p e s m args below meth c s₁ B hml hv
  obtain ⟨rfl, hP, hK, hG⟩ := hv
  have hx := B.exec
  have hb := B.bytes
  have hr := B.returns
  have hts := atoms_spec (ws := wsX1_meaning) B.pre
  have hown : s.vm.findClass RX1 = some m.cls := findClass_of_methodNamed B.named
  have hlocks := B.notSynchronized
  have hS : va_S (fun _ => False) s.heap s.heap [] := va_S.rf
  have k7 := hts (.fieldLink RX1 7 "ProofChecker$Letters" "meanings" "[I") (by decide +kernel)
  have hl := lv_entry ([.ref a_o, .int p1]) (n := 2) (Nat.le_of_ble_eq_true rfl)
  rw [lg_entry_eq]
  generalize (lg_sl ([.ref a_o, .int p1]) ++ List.replicate (2 - (lg_sl ([.ref a_o, .int p1])).length) Slot.unset).toArray = ls at hl ⊢
  have hl : lv_has ls 2 [(0, .ref a_o), (1, .int p1)] := hl
  unfold wp_X1_meaning at h
  refine lv_iload_n hx hb dX1_meaning_0 rfl (lv_at hl 1 rfl) ?_
  refine lv_bipush (v := (nI 97)) hx hb dX1_meaning_1 (by decide) ?_
  refine fx_icmp_lt (tgt := 22) hx hb h dX1_meaning_3 (by decide) (fun h => ?_) (fun h => ?_)
  · refine lv_iload_n hx hb dX1_meaning_22 rfl (lv_at hl 1 rfl) ?_
    refine lv_bipush (v := (nI 48)) hx hb dX1_meaning_23 (by decide) ?_
    refine fx_icmp_lt (tgt := 41) hx hb h dX1_meaning_25 (by decide) (fun h => ?_) (fun h => ?_)
    · refine lv_iconst (v := (nI 0)) hx hb dX1_meaning_41 (by decide) ?_
      exact W.iret (v := (nI 0)) hx hb hr  (fun t ht hW => ⟨_, rfl, h, ht⟩) (fun q hq => by cases hq) dX1_meaning_42
    refine lv_iload_n hx hb dX1_meaning_28 rfl (lv_at hl 1 rfl) ?_
    refine lv_bipush (v := (nI 57)) hx hb dX1_meaning_29 (by decide) ?_
    refine fx_icmp_gt (tgt := 41) hx hb h dX1_meaning_31 (by decide) (fun h => ?_) (fun h => ?_)
    · refine lv_iconst (v := (nI 0)) hx hb dX1_meaning_41 (by decide) ?_
      exact W.iret (v := (nI 0)) hx hb hr  (fun t ht hW => ⟨_, rfl, h, ht⟩) (fun q hq => by cases hq) dX1_meaning_42
    refine lv_iload_n hx hb dX1_meaning_34 rfl (lv_at hl 1 rfl) ?_
    refine lv_bipush (v := (nI 48)) hx hb dX1_meaning_35 (by decide) ?_
    refine fx_isub hx hb h dX1_meaning_37 (fun v1 h => ?_)
    refine lv_goto (tgt := 42) hx hb dX1_meaning_38 (by decide) ?_
    exact W.iret (v := v1) hx hb hr  (fun t ht hW => ⟨_, rfl, h, ht⟩) (fun q hq => by cases hq) dX1_meaning_42
  refine lv_iload_n hx hb dX1_meaning_6 rfl (lv_at hl 1 rfl) ?_
  refine lv_bipush (v := (nI 122)) hx hb dX1_meaning_7 (by decide) ?_
  refine fx_icmp_gt (tgt := 22) hx hb h dX1_meaning_9 (by decide) (fun h => ?_) (fun h => ?_)
  · refine lv_iload_n hx hb dX1_meaning_22 rfl (lv_at hl 1 rfl) ?_
    refine lv_bipush (v := (nI 48)) hx hb dX1_meaning_23 (by decide) ?_
    refine fx_icmp_lt (tgt := 41) hx hb h dX1_meaning_25 (by decide) (fun h => ?_) (fun h => ?_)
    · refine lv_iconst (v := (nI 0)) hx hb dX1_meaning_41 (by decide) ?_
      exact W.iret (v := (nI 0)) hx hb hr  (fun t ht hW => ⟨_, rfl, h, ht⟩) (fun q hq => by cases hq) dX1_meaning_42
    refine lv_iload_n hx hb dX1_meaning_28 rfl (lv_at hl 1 rfl) ?_
    refine lv_bipush (v := (nI 57)) hx hb dX1_meaning_29 (by decide) ?_
    refine fx_icmp_gt (tgt := 41) hx hb h dX1_meaning_31 (by decide) (fun h => ?_) (fun h => ?_)
    · refine lv_iconst (v := (nI 0)) hx hb dX1_meaning_41 (by decide) ?_
      exact W.iret (v := (nI 0)) hx hb hr  (fun t ht hW => ⟨_, rfl, h, ht⟩) (fun q hq => by cases hq) dX1_meaning_42
    refine lv_iload_n hx hb dX1_meaning_34 rfl (lv_at hl 1 rfl) ?_
    refine lv_bipush (v := (nI 48)) hx hb dX1_meaning_35 (by decide) ?_
    refine fx_isub hx hb h dX1_meaning_37 (fun v2 h => ?_)
    refine lv_goto (tgt := 42) hx hb dX1_meaning_38 (by decide) ?_
    exact W.iret (v := v2) hx hb hr  (fun t ht hW => ⟨_, rfl, h, ht⟩) (fun q hq => by cases hq) dX1_meaning_42
  refine lv_aload_n hx hb dX1_meaning_12 rfl (lv_at hl 0 rfl) ?_
  refine va_get (D := fx_D X) (ci := 1) (v := .ref a_o_meanings) (C := RX1) (T := TX1) (N := 1) hx hb hts im_X1_meaning_X1 hown hK hP 0 rfl rfl 0 (by decide) k7 (fun _ h9 => h9) rfl dX1_meaning_13 ?_
  refine lv_iload_n hx hb dX1_meaning_16 rfl (lv_at hl 1 rfl) ?_
  refine lv_bipush (v := (nI 97)) hx hb dX1_meaning_17 (by decide) ?_
  refine fx_isub hx hb h dX1_meaning_19 (fun v3 h => ?_)
  refine fx_iald hx hb hK hP 1 0 rfl rfl h dX1_meaning_20 (fun v4 h => ?_)
  exact W.iret (v := v4) hx hb hr  (fun t ht hW => ⟨_, rfl, h, ht⟩) (fun q hq => by cases hq) dX1_meaning_21

/-- X1_agree: its walk -/
def wp_X1_agree (post : Int32 → (Nat → Int32) → Prop) (f_o_meanings : Nat → Int32) (p1 : Int32) (p2 : Int32) : Prop :=
  fx_br (p1 = (nI 46)) (post (nI 1) f_o_meanings) (fx_jn1 (fun (y1 : Nat → Int32) => wp_X1_meaning (fun r3 => fx_br (r3 = p2) (post (nI 1) y1) (post (nI 0) y1)) y1 p1) (fun K2 => fx_br (p1 < (nI 97)) (K2 f_o_meanings) (fx_br ((nI 122) < p1) (K2 f_o_meanings) (fx_nm (p1 - (nI 97)) (fun v4 => fx_ix v4 26 (fun k6 => fx_nm (f_o_meanings k6) (fun v5 => fx_br (v5 = (-1)) (fx_nm (p1 - (nI 97)) (fun v7 => fx_ix v7 26 (fun k9 => fx_nm (upd f_o_meanings k9 p2) (fun g8 => K2 g8)))) (K2 f_o_meanings))))))))
theorem im_X1_agree_X1 : ∀ w ∈ u_ws RX1 TX1 1, w ∈ wsX1_agree := by decide +kernel
set_option maxHeartbeats 4000000 in
set_option maxRecDepth 100000 in
theorem cw_X1_agree (l : Launch) (X : fx_X) (a_o : Nat) (a_o_meanings : Nat) (f_o_meanings : Nat → Int32) (sz : Nat) (p1 : Int32) (p2 : Int32) (post : Int32 → (Nat → Int32) → Prop) (h : wp_X1_agree post f_o_meanings p1 p2) : Met l yX1_agree wsX1_agree ({ frames := 1, cells := 0, slots := 0, locals := 21 }) (va_Pc [.ref a_o, .int p1, .int p2] (fx_PW X [(a_o, .inr (1, [.ref a_o_meanings])), (a_o_meanings, .inl (fx_cI X, 26, .inl f_o_meanings))] sz)) (va_Qi (fun r (u : (Nat → Int32)) => post r u) (fun (u : (Nat → Int32)) t => fx_EW X (va_A [(a_o, .inr (1, [.ref a_o_meanings])), (a_o_meanings, .inl (fx_cI X, 26, .inl f_o_meanings))] sz) [(a_o, .inr (1, [.ref a_o_meanings])), (a_o_meanings, .inl (fx_cI X, 26, .inl u))] t) (va_A [(a_o, .inr (1, [.ref a_o_meanings])), (a_o_meanings, .inl (fx_cI X, 26, .inl f_o_meanings))] sz)) 0 0 (va_A [(a_o, .inr (1, [.ref a_o_meanings])), (a_o_meanings, .inl (fx_cI X, 26, .inl f_o_meanings))] sz) := by
  refine Met.ofW (cc := cX1_agree) (maxL := 3) (ret := (some .boolean)) (by decide) rfl ?_
  intro p e s m args below meth c s₁ B hml hv
  obtain ⟨rfl, hsz, hP, hK, hD0, hG⟩ := hv
  have hx := B.exec
  have hb := B.bytes
  have hr := B.returns
  have hts := atoms_spec (ws := wsX1_agree) B.pre
  have hown : s.vm.findClass RX1 = some m.cls := findClass_of_methodNamed B.named
  have hlocks := B.notSynchronized
  subst hsz
  have hD := hD0.self (sz := s.heap.size)
  generalize hAe : va_A [(a_o, .inr (1, [.ref a_o_meanings])), (a_o_meanings, .inl (fx_cI X, 26, .inl f_o_meanings))] s.heap.size = A at hD hG ⊢
  have hA : ∀ q : Nat, s.heap.size ≤ q → A q := fun q h => by rw [← hAe]; exact Or.inr h
  have hS : va_S A s.heap s.heap [] := va_S.rf
  have k7 := hts (.fieldLink RX1 7 "ProofChecker$Letters" "meanings" "[I") (by decide +kernel)
  have hl := lv_entry ([.ref a_o, .int p1, .int p2]) (n := 3) (Nat.le_of_ble_eq_true rfl)
  rw [lg_entry_eq]
  generalize (lg_sl ([.ref a_o, .int p1, .int p2]) ++ List.replicate (3 - (lg_sl ([.ref a_o, .int p1, .int p2])).length) Slot.unset).toArray = ls at hl ⊢
  have hl : lv_has ls 3 [(0, .ref a_o), (1, .int p1), (2, .int p2)] := hl
  unfold wp_X1_agree at h
  refine lv_iload_n hx hb dX1_agree_0 rfl (lv_at hl 1 rfl) ?_
  refine lv_bipush (v := (nI 46)) hx hb dX1_agree_1 (by decide) ?_
  refine fx_icmp_ne (tgt := 8) hx hb h dX1_agree_3 (by decide) (fun h => ?_) (fun h => ?_)
  · refine lv_iload_n hx hb dX1_agree_8 rfl (lv_at hl 1 rfl) ?_
    refine lv_bipush (v := (nI 97)) hx hb dX1_agree_9 (by decide) ?_
    refine fx_join1 (G := fun (y1 : Nat → Int32) (R : Room) (av : Array Value) (Q : State → Prop) => ∀ (H : Heap) (locs : List Loc) (ls : Array Slot), va_P (fx_D X) vwCl [(a_o, .inr (1, [.ref a_o_meanings])), (a_o_meanings, .inl (fx_cI X, 26, .inl y1))] H → va_D A [(a_o, .inr (1, [.ref a_o_meanings])), (a_o_meanings, .inl (fx_cI X, 26, .inl y1))] → va_S A s.heap H locs → lv_has ls 3 [(0, .ref a_o), (1, .int p1), (2, .int p2)] → W p l e R s m av below meth c H locs 0 0 Q (F0 m 43 ls [])) h (fun y1 h => ?_) (fun K2 hK2 h => ?_)
    · intro H locs ls hP hD hS hl
      refine lv_aload_n hx hb dX1_agree_43 rfl (lv_at hl 0 rfl) ?_
      refine lv_iload_n hx hb dX1_agree_44 rfl (lv_at hl 1 rfl) ?_
      refine vp_callSi (W.runV (As := [.int p1]) (rest := []) ⟨hx, hb, hml, hown, hts⟩ (cw_X1_meaning l X a_o a_o_meanings y1 p1 _ h) (cwV 1 hts gX1_agree_X1_meaning rfl rfl rfl (by decide +kernel) ⟨Nat.le_of_ble_eq_true rfl, Nat.le_of_ble_eq_true rfl⟩) (fx_pv hP hK hG hS (va_recv hK hP (ci := 1) (q0 := 0) rfl rfl) [0, 1] rfl) rfl rfl hl.1 rfl (lv_room (Nat.le_of_ble_eq_true rfl)) dX1_agree_45 ⟨Nat.le_of_ble_eq_true rfl, Nat.le_of_ble_eq_true rfl⟩) (fun r3 h => ?_)
      refine lv_iload_n hx hb dX1_agree_48 rfl (lv_at hl 2 rfl) ?_
      refine fx_icmp_ne (tgt := 56) hx hb h dX1_agree_49 (by decide) (fun h => ?_) (fun h => ?_)
      · refine lv_iconst (v := (nI 0)) hx hb dX1_agree_56 (by decide) ?_
        exact W.zret (v := (nI 0)) hx hb hr rfl (fun t ht hW => ⟨⟨(nI 0), y1, rfl, h, by rw [ht]; exact hP, va_K.moved hW.alike hK, hD⟩, hS.F ht⟩) hS.2.2 dX1_agree_57
      refine lv_iconst (v := (nI 1)) hx hb dX1_agree_52 (by decide) ?_
      refine lv_goto (tgt := 57) hx hb dX1_agree_53 (by decide) ?_
      exact W.zret (v := (nI 1)) hx hb hr rfl (fun t ht hW => ⟨⟨(nI 1), y1, rfl, h, by rw [ht]; exact hP, va_K.moved hW.alike hK, hD⟩, hS.F ht⟩) hS.2.2 dX1_agree_57
    refine fx_icmp_lt (tgt := 43) hx hb h dX1_agree_11 (by decide) (fun h => ?_) (fun h => ?_)
    · exact hK2 _ h _ _ _ hP hD hS (lv_sub hl [0, 1, 2] rfl)
    refine lv_iload_n hx hb dX1_agree_14 rfl (lv_at hl 1 rfl) ?_
    refine lv_bipush (v := (nI 122)) hx hb dX1_agree_15 (by decide) ?_
    refine fx_icmp_gt (tgt := 43) hx hb h dX1_agree_17 (by decide) (fun h => ?_) (fun h => ?_)
    · exact hK2 _ h _ _ _ hP hD hS (lv_sub hl [0, 1, 2] rfl)
    refine lv_aload_n hx hb dX1_agree_20 rfl (lv_at hl 0 rfl) ?_
    refine va_get (D := fx_D X) (ci := 1) (v := .ref a_o_meanings) (C := RX1) (T := TX1) (N := 1) hx hb hts im_X1_agree_X1 hown hK hP 0 rfl rfl 0 (by decide) k7 (fun _ h9 => h9) rfl dX1_agree_21 ?_
    refine lv_iload_n hx hb dX1_agree_24 rfl (lv_at hl 1 rfl) ?_
    refine lv_bipush (v := (nI 97)) hx hb dX1_agree_25 (by decide) ?_
    refine fx_isub hx hb h dX1_agree_27 (fun v4 h => ?_)
    refine fx_iald hx hb hK hP 1 0 rfl rfl h dX1_agree_28 (fun v5 h => ?_)
    refine lv_iconst (v := (-1)) hx hb dX1_agree_29 (by decide) ?_
    refine fx_icmp_ne (tgt := 43) hx hb h dX1_agree_30 (by decide) (fun h => ?_) (fun h => ?_)
    · exact hK2 _ h _ _ _ hP hD hS (lv_sub hl [0, 1, 2] rfl)
    refine lv_aload_n hx hb dX1_agree_33 rfl (lv_at hl 0 rfl) ?_
    refine va_get (D := fx_D X) (ci := 1) (v := .ref a_o_meanings) (C := RX1) (T := TX1) (N := 1) hx hb hts im_X1_agree_X1 hown hK hP 0 rfl rfl 0 (by decide) k7 (fun _ h9 => h9) rfl dX1_agree_34 ?_
    refine lv_iload_n hx hb dX1_agree_37 rfl (lv_at hl 1 rfl) ?_
    refine lv_bipush (v := (nI 97)) hx hb dX1_agree_38 (by decide) ?_
    refine fx_isub hx hb h dX1_agree_40 (fun v7 h => ?_)
    refine lv_iload_n hx hb dX1_agree_41 rfl (lv_at hl 2 rfl) ?_
    refine fx_iast hx hb hK hP hD hS 1 0 rfl rfl h dX1_agree_42 (fun g8 => [(a_o, .inr (1, [.ref a_o_meanings])), (a_o_meanings, .inl (fx_cI X, 26, .inl g8))]) (fun _ => rfl) (fun H locs g8 h hP hD hS => ?_)
    exact hK2 _ h _ _ _ hP hD hS (lv_sub hl [0, 1, 2] rfl)
  refine lv_iconst (v := (nI 1)) hx hb dX1_agree_6 (by decide) ?_
  exact W.zret (v := (nI 1)) hx hb hr rfl (fun t ht hW => ⟨⟨(nI 1), f_o_meanings, rfl, h, by rw [ht]; exact hP, va_K.moved hW.alike hK, hD⟩, hS.F ht⟩) hS.2.2 dX1_agree_7

/-- X1_forget: its walk -/
def wp_X1_forget (post : (Nat → Int32) → Prop) (f_o_meanings : Nat → Int32) : Prop :=
  wp_J7_fill_53178 (fun y1 => post y1) 26 f_o_meanings (-1)
theorem im_X1_forget_X1 : ∀ w ∈ u_ws RX1 TX1 1, w ∈ wsX1_forget := by decide +kernel
set_option maxHeartbeats 4000000 in
set_option maxRecDepth 100000 in
theorem cw_X1_forget (l : Launch) (X : fx_X) (a_o : Nat) (a_o_meanings : Nat) (f_o_meanings : Nat → Int32) (sz : Nat)  (post : (Nat → Int32) → Prop) (h : wp_X1_forget post f_o_meanings) : Met l yX1_forget wsX1_forget ({ frames := 1, cells := 0, slots := 0, locals := 23 }) (va_Pc [.ref a_o] (fx_PW X [(a_o, .inr (1, [.ref a_o_meanings])), (a_o_meanings, .inl (fx_cI X, 26, .inl f_o_meanings))] sz)) (va_Qv (fun (u : (Nat → Int32)) => post u) (fun (u : (Nat → Int32)) t => fx_EW X (va_A [(a_o, .inr (1, [.ref a_o_meanings])), (a_o_meanings, .inl (fx_cI X, 26, .inl f_o_meanings))] sz) [(a_o, .inr (1, [.ref a_o_meanings])), (a_o_meanings, .inl (fx_cI X, 26, .inl u))] t) (va_A [(a_o, .inr (1, [.ref a_o_meanings])), (a_o_meanings, .inl (fx_cI X, 26, .inl f_o_meanings))] sz)) 0 0 (va_A [(a_o, .inr (1, [.ref a_o_meanings])), (a_o_meanings, .inl (fx_cI X, 26, .inl f_o_meanings))] sz) := by
  refine Met.ofW (cc := cX1_forget) (maxL := 1) (ret := none) (by decide) rfl ?_
  intro p e s m args below meth c s₁ B hml hv
  obtain ⟨rfl, hsz, hP, hK, hD0, hG⟩ := hv
  have hx := B.exec
  have hb := B.bytes
  have hr := B.returns
  have hts := atoms_spec (ws := wsX1_forget) B.pre
  have hown : s.vm.findClass RX1 = some m.cls := findClass_of_methodNamed B.named
  have hlocks := B.notSynchronized
  subst hsz
  have hD := hD0.self (sz := s.heap.size)
  generalize hAe : va_A [(a_o, .inr (1, [.ref a_o_meanings])), (a_o_meanings, .inl (fx_cI X, 26, .inl f_o_meanings))] s.heap.size = A at hD hG ⊢
  have hA : ∀ q : Nat, s.heap.size ≤ q → A q := fun q h => by rw [← hAe]; exact Or.inr h
  have hS : va_S A s.heap s.heap [] := va_S.rf
  have k7 := hts (.fieldLink RX1 7 "ProofChecker$Letters" "meanings" "[I") (by decide +kernel)
  have hl := lv_entry ([.ref a_o]) (n := 1) (Nat.le_of_ble_eq_true rfl)
  rw [lg_entry_eq]
  generalize (lg_sl ([.ref a_o]) ++ List.replicate (1 - (lg_sl ([.ref a_o])).length) Slot.unset).toArray = ls at hl ⊢
  have hl : lv_has ls 1 [(0, .ref a_o)] := hl
  unfold wp_X1_forget at h
  refine lv_aload_n hx hb dX1_forget_0 rfl (lv_at hl 0 rfl) ?_
  refine va_get (D := fx_D X) (ci := 1) (v := .ref a_o_meanings) (C := RX1) (T := TX1) (N := 1) hx hb hts im_X1_forget_X1 hown hK hP 0 rfl rfl 0 (by decide) k7 (fun _ h9 => h9) rfl dX1_forget_1 ?_
  refine lv_iconst (v := (-1)) hx hb dX1_forget_4 (by decide) ?_
  have hFc := va_free (wc := [(a_o_meanings, .inl (fx_cI X, 26, .inl f_o_meanings))]) hD hS hA [1] rfl
  refine va_callv (va_runS (As := [.ref a_o_meanings, .int (-1)]) (rest := []) ⟨hx, hb, hml, hown, hts⟩ (cw_J7_fill_53178 l X a_o_meanings 26 f_o_meanings _ (-1) _ h) (va_cwS 2 hts gX1_forget_J7_fill_53178 rfl rfl rfl (by decide +kernel) ⟨Nat.le_of_ble_eq_true rfl, Nat.le_of_ble_eq_true rfl⟩) (fx_psW hP hD hK hG hS hFc [1] (by decide) rfl) rfl rfl hl.1 rfl (lv_room (Nat.le_of_ble_eq_true rfl)) dX1_forget_5 ⟨Nat.le_of_ble_eq_true rfl, Nat.le_of_ble_eq_true rfl⟩) hS (fun q _ h => hFc q h) hFc (fun u t H locs ht hvm h hB _ hk hS => ?_)
  obtain ⟨y1, rfl⟩ : ∃ z, z = u := ⟨_, rfl⟩
  obtain ⟨hP, hD⟩ := fx_back (wr := [(a_o, .inr (1, [.ref a_o_meanings]))]) (ws' := [(a_o, .inr (1, [.ref a_o_meanings])), (a_o_meanings, .inl (fx_cI X, 26, .inl y1))]) hP hD [1] [0] rfl rfl (by decide) (by decide) hk hFc hB ht [0, 1] (by decide) rfl
  exact W.vret hx hb hr (fun t ht hW => ⟨⟨y1, rfl, h, by rw [ht]; exact hP, va_K.moved hW.alike hK, hD⟩, hS.F ht⟩) hS.2.2 dX1_forget_8

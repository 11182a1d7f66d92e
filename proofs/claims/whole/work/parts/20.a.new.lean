/-! NEW ARRAYS, COPIES -/
section FXN
variable {p : Program} {l : Launch} {e : Env} {R : Room} {s : State} {m : MethodId} {args : Array Value} {below : List Frame} {meth : Method} {c : Code} {H : Heap} {locs : List Loc} {cells slots : Nat} {Q : State → Prop}
variable {cc : ByteArray} {pc : Nat} {ls : Array Slot} {rest : List Value} {X : fx_X} {A : Nat → Prop} {ws : va_W} {H0 : Heap} {a : Nat}
theorem fx_newI (hexec : p.tables.exec = Jvm.exec) (hb : c.code = cc) (harr : (Cond.arrayClass .int).before args s = true) (hK : va_K (fx_D X) vwCl (fx_ty X) s) (hP : va_P (fx_D X) vwCl ws H) (hD : va_D A ws) (hS : va_S A H0 H locs) (hA : ∀ q, H0.size ≤ q → A q) (N : Nat) (hN : N ≤ 65536) (hc : cells + 1 ≤ R.cells) (hs : slots + N ≤ R.slots) (hdg : decode cc pc = .ok (.newarray .int, 2))
    (kk : ∀ (q : Nat) (H1 : Heap), va_P (fx_D X) vwCl (ws ++ [(q, .inl (fx_cI X, N, .inl (fun _ => 0)))]) H1 → va_D A (ws ++ [(q, .inl (fx_cI X, N, .inl (fun _ => 0)))]) → va_S A H0 H1 locs → W p l e R s m args below meth c H1 locs (cells + 1) (slots + N) Q (F0 m (pc + 2) ls (.ref q :: rest))) : W p l e R s m args below meth c H locs cells slots Q (F0 m pc ls (.int (nI N) :: rest)) := by
  refine va_newa (atype := .int) (ty := .int) hexec hb harr rfl hK hP hD hS hA (N' := N) (a0 := (N, .inl (fun _ => 0))) (fun _ => rfl) (nI_pos (by omega)) (nI_clamp (by omega)) (by show N * 4 ≤ 536870912; omega) hc hs hdg (fun q cA H1 hK1 hP1 hD1 hS1 => ?_)
  have e : cA = fx_cI X := Option.some.inj ((hK1.2 4 (cA, .int) rfl).2.symm.trans (hK1.2 0 (fx_cI X, .int) rfl).2)
  subst e
  exact kk q H1 hP1 hD1 hS1
theorem fx_newJ (hexec : p.tables.exec = Jvm.exec) (hb : c.code = cc) (harr : (Cond.arrayClass .long).before args s = true) (hK : va_K (fx_D X) vwCl (fx_ty X) s) (hP : va_P (fx_D X) vwCl ws H) (hD : va_D A ws) (hS : va_S A H0 H locs) (hA : ∀ q, H0.size ≤ q → A q) (N : Nat) (hN : N ≤ 65536) (hc : cells + 1 ≤ R.cells) (hs : slots + N ≤ R.slots) (hdg : decode cc pc = .ok (.newarray .long, 2))
    (kk : ∀ (q : Nat) (H1 : Heap), va_P (fx_D X) vwCl (ws ++ [(q, .inl (fx_cJ X, N, .inr (.inl (fun _ => 0))))]) H1 → va_D A (ws ++ [(q, .inl (fx_cJ X, N, .inr (.inl (fun _ => 0))))]) → va_S A H0 H1 locs → W p l e R s m args below meth c H1 locs (cells + 1) (slots + N) Q (F0 m (pc + 2) ls (.ref q :: rest))) : W p l e R s m args below meth c H locs cells slots Q (F0 m pc ls (.int (nI N) :: rest)) := by
  refine va_newa (atype := .long) (ty := .long) hexec hb harr rfl hK hP hD hS hA (N' := N) (a0 := (N, .inr (.inl (fun _ => 0)))) (fun _ => rfl) (nI_pos (by omega)) (nI_clamp (by omega)) (by show N * 8 ≤ 536870912; omega) hc hs hdg (fun q cA H1 hK1 hP1 hD1 hS1 => ?_)
  have e : cA = fx_cJ X := Option.some.inj ((hK1.2 4 (cA, .long) rfl).2.symm.trans (hK1.2 1 (fx_cJ X, .long) rfl).2)
  subst e
  exact kk q H1 hP1 hD1 hS1
theorem fx_newZ (hexec : p.tables.exec = Jvm.exec) (hb : c.code = cc) (harr : (Cond.arrayClass .boolean).before args s = true) (hK : va_K (fx_D X) vwCl (fx_ty X) s) (hP : va_P (fx_D X) vwCl ws H) (hD : va_D A ws) (hS : va_S A H0 H locs) (hA : ∀ q, H0.size ≤ q → A q) (N : Nat) (hN : N ≤ 65536) (hc : cells + 1 ≤ R.cells) (hs : slots + N ≤ R.slots) (hdg : decode cc pc = .ok (.newarray .boolean, 2))
    (kk : ∀ (q : Nat) (H1 : Heap), va_P (fx_D X) vwCl (ws ++ [(q, .inl (fx_cZ X, N, .inl (fun _ => 0)))]) H1 → va_D A (ws ++ [(q, .inl (fx_cZ X, N, .inl (fun _ => 0)))]) → va_S A H0 H1 locs → W p l e R s m args below meth c H1 locs (cells + 1) (slots + N) Q (F0 m (pc + 2) ls (.ref q :: rest))) : W p l e R s m args below meth c H locs cells slots Q (F0 m pc ls (.int (nI N) :: rest)) := by
  refine va_newa (atype := .boolean) (ty := .boolean) hexec hb harr rfl hK hP hD hS hA (N' := N) (a0 := (N, .inl (fun _ => 0))) (fun _ => rfl) (nI_pos (by omega)) (nI_clamp (by omega)) (by show N * 1 ≤ 536870912; omega) hc hs hdg (fun q cA H1 hK1 hP1 hD1 hS1 => ?_)
  have e : cA = fx_cZ X := Option.some.inj ((hK1.2 4 (cA, .boolean) rfl).2.symm.trans (hK1.2 2 (fx_cZ X, .boolean) rfl).2)
  subst e
  exact kk q H1 hP1 hD1 hS1
theorem fx_newB (hexec : p.tables.exec = Jvm.exec) (hb : c.code = cc) (harr : (Cond.arrayClass .byte).before args s = true) (hK : va_K (fx_D X) vwCl (fx_ty X) s) (hP : va_P (fx_D X) vwCl ws H) (hD : va_D A ws) (hS : va_S A H0 H locs) (hA : ∀ q, H0.size ≤ q → A q) (N : Nat) (hN : N ≤ 65536) (hc : cells + 1 ≤ R.cells) (hs : slots + N ≤ R.slots) (hdg : decode cc pc = .ok (.newarray .byte, 2))
    (kk : ∀ (q : Nat) (H1 : Heap), va_P (fx_D X) vwCl (ws ++ [(q, .inl (fx_cB X, N, .inl (fun _ => 0)))]) H1 → va_D A (ws ++ [(q, .inl (fx_cB X, N, .inl (fun _ => 0)))]) → va_S A H0 H1 locs → W p l e R s m args below meth c H1 locs (cells + 1) (slots + N) Q (F0 m (pc + 2) ls (.ref q :: rest))) : W p l e R s m args below meth c H locs cells slots Q (F0 m pc ls (.int (nI N) :: rest)) := by
  refine va_newa (atype := .byte) (ty := .byte) hexec hb harr rfl hK hP hD hS hA (N' := N) (a0 := (N, .inl (fun _ => 0))) (fun _ => rfl) (nI_pos (by omega)) (nI_clamp (by omega)) (by show N * 1 ≤ 536870912; omega) hc hs hdg (fun q cA H1 hK1 hP1 hD1 hS1 => ?_)
  have e : cA = fx_cB X := Option.some.inj ((hK1.2 4 (cA, .byte) rfl).2.symm.trans (hK1.2 3 (fx_cB X, .byte) rfl).2)
  subst e
  exact kk q H1 hP1 hD1 hS1
/-- a copy of bytes out of a text -/
def fx_cp (sp dp n : Int32) (n0 n1 : Nat) (f g : Nat → Int32) (P : (Nat → Int32) → Prop) : Prop := ∃ i j k : Nat, sp = nI i ∧ dp = nI j ∧ n = nI k ∧ i + k ≤ n0 ∧ j + k ≤ n1 ∧ n0 < 2147483648 ∧ n1 < 2147483648 ∧ (∀ x, x < k → fits .byte (.int (f (i + x))) = true) ∧ P (va_cpy f g i j k)
theorem fx_copyt (hexec : p.tables.exec = Jvm.exec) (hb : c.code = cc) (hml : c.maxLocals = ls.size) {own : String} {index : Nat} (hown : s.vm.findClass own = some m.cls) (hlink : (Cond.methodLink own index arraycopyName).before args s = true) (hnat : (Cond.native arraycopyName).before args s = true) (hstat : (Cond.static arraycopyName).before args s = true) (hini : (Cond.initialized "java/lang/System").before args s = true)
    {D : va_G} {cl : List vw_C} {tys : List (ClassId × FieldType)} (hK : va_K D cl tys s) (hP : va_P D cl ws H) (hD : va_D A ws) (hS : va_S A s.heap H locs) {b0 n0 : Nat} {f : Nat → Int32} (hX : va_T .byte b0 n0 (fun j => .int (f j)) A s s.heap) (q1 t1 : Nat) {c1 : ClassId} {n1 : Nat} {g : Nat → Int32} (ha1 : ws[q1]? = some (a, .inl (c1, n1, .inl g))) (ht1 : tys[t1]? = some (c1, .byte))
    {sp dp n : Int32} {P : (Nat → Int32) → Prop} (h : fx_cp sp dp n n0 n1 f g P) (hframes : 1 ≤ R.frames) (hlocals : (rest.map fun v => v.category).sum + (nativeFrameWords "java/lang/System" "arraycopy" 5 + 11) ≤ R.locals) (hdg : decode cc pc = .ok (.invokestatic index, 3))
    (ws' : (Nat → Int32) → va_W) (hw : ∀ g, ws.set q1 (a, .inl (c1, n1, .inl g)) = ws' g)
    (kk : ∀ (H1 : Heap) (locs1 : List Loc) (g : Nat → Int32), P g → va_P D cl (ws' g) H1 → va_D A (ws' g) → va_S A s.heap H1 locs1 → W p l e R s m args below meth c H1 locs1 cells slots Q (F0 m (pc + 3) ls rest)) : W p l e R s m args below meth c H locs cells slots Q (F0 m pc ls (.int n :: .int dp :: .ref a :: .int sp :: .ref b0 :: rest)) := by
  obtain ⟨i, j, k, rfl, rfl, rfl, h4, h5, h6, h7, h8, h9⟩ := h
  refine vk_copyt hexec hb hml hown hlink hnat hstat hini hK hP hD hS hX q1 t1 ha1 ht1 (nI_pos (by omega)) (nI_pos (by omega)) (nI_pos (by omega)) (by rw [nI_clamp (by omega), nI_clamp (by omega)]; exact h4) (by rw [nI_clamp (by omega), nI_clamp (by omega)]; exact h5) (fun x hx => by rw [nI_clamp (by omega)] at hx ⊢; exact h8 x hx) hframes hlocals hdg (fun H1 locs1 hP1 hD1 hS1 => ?_)
  rw [nI_clamp (by omega), nI_clamp (by omega), nI_clamp (by omega), hw] at hP1 hD1
  exact kk H1 locs1 _ h9 hP1 hD1 hS1
end FXN
/-- Arrays.copyOf(byte[], int), to a greater length -/
def wp_J7_copyOf_9075b (post : Nat → (Nat → Int32) → Prop) (mc ms : Nat) (n0 : Nat) (f0 : Nat → Int32) (p2 : Int32) : Prop := ∃ q : Nat, p2 = nI q ∧ n0 < q ∧ q ≤ 65536 ∧ 1 ≤ mc ∧ q ≤ ms ∧ (∀ x, x < n0 → fits .byte (.int (f0 x)) = true) ∧ post q (va_cpy f0 (fun _ => 0) 0 0 n0)
set_option maxHeartbeats 4000000 in
set_option maxRecDepth 100000 in
theorem cw_J7_copyOf_9075b (l : Launch) (X : fx_X) (a0 : Nat) (n0 : Nat) (f0 : Nat → Int32) (sz mc ms : Nat) (p2 : Int32) (post : Nat → (Nat → Int32) → Prop) (h : wp_J7_copyOf_9075b post mc ms n0 f0 p2) : Met l yJ7_copyOf_9075b wsJ7_copyOf_9075b ({ frames := 1, cells := mc, slots := ms, locals := 60 }) (va_Pc [.ref a0, .int p2] (fx_PW X [(a0, .inl (fx_cB X, n0, .inl f0))] sz)) (va_Qr (fun (u : Nat × (Nat → Int32)) => post u.1 u.2) (fun u a t => fx_EW X (va_A [(a0, .inl (fx_cB X, n0, .inl f0))] sz) [(a0, .inl (fx_cB X, n0, .inl f0)), (a, .inl (fx_cB X, u.1, .inl u.2))] t) (va_A [(a0, .inl (fx_cB X, n0, .inl f0))] sz)) mc ms (va_A [(a0, .inl (fx_cB X, n0, .inl f0))] sz) := by
  obtain ⟨q, rfl, h1, h2, h3, h4, h5, h6⟩ := h
  refine Met.ofW (cc := cJ7_copyOf_9075b) (maxL := 3) (ret := some (.array .byte)) (by decide) rfl ?_
  intro p e s m args below meth c s₁ B hml hv
  obtain ⟨rfl, hsz, hP, hK, hD0, hG⟩ := hv
  have hx := B.exec
  have hb := B.bytes
  have hr := B.returns
  have hts := atoms_spec (ws := wsJ7_copyOf_9075b) B.pre
  have hown : s.vm.findClass RJ7 = some m.cls := findClass_of_methodNamed B.named
  have hlocks := B.notSynchronized
  subst hsz
  have hD := hD0.self (sz := s.heap.size)
  generalize hAe : va_A [(a0, .inl (fx_cB X, n0, .inl f0))] s.heap.size = A at hD hG ⊢
  have hA : ∀ q : Nat, s.heap.size ≤ q → A q := fun q h => by rw [← hAe]; exact Or.inr h
  have hS : va_S A s.heap s.heap [] := va_S.rf
  have hl := lv_entry ([.ref a0, .int (nI q)]) (n := 3) (Nat.le_of_ble_eq_true rfl)
  rw [lg_entry_eq]
  generalize (lg_sl ([.ref a0, .int (nI q)]) ++ List.replicate (3 - (lg_sl ([.ref a0, .int (nI q)])).length) Slot.unset).toArray = ls at hl ⊢
  have hl : lv_has ls 3 [(0, .ref a0), (1, .int (nI q))] := hl
  refine lv_iload_n hx hb dJ7_copyOf_9075b_0 rfl (lv_at hl 1 rfl) ?_
  refine lv_aload_n hx hb dJ7_copyOf_9075b_1 rfl (lv_at hl 0 rfl) ?_
  refine va_alen (v := nI n0) hx hb hK hP 0 3 rfl rfl rfl dJ7_copyOf_9075b_2 ?_
  refine lv_icmp_ne (tgt := 14) hx hb dJ7_copyOf_9075b_3 (by decide) (fun _ => ?_) (fun z => absurd ((nI_eq (by omega) (by omega)).mp z) (by omega))
  refine lv_iload_n hx hb dJ7_copyOf_9075b_14 rfl (lv_at hl 1 rfl) ?_
  refine fx_newB hx hb (hts (.arrayClass .byte) (by decide +kernel)) hK hP hD hS hA q h2 (by show 0 + 1 ≤ mc; omega) (by show 0 + q ≤ ms; omega) dJ7_copyOf_9075b_15 (fun b H hP hD hS => ?_)
  have hP : va_P (fx_D X) vwCl [(a0, .inl (fx_cB X, n0, .inl f0)), (b, .inl (fx_cB X, q, .inl (fun _ => 0)))] H := hP
  have hD : va_D A [(a0, .inl (fx_cB X, n0, .inl f0)), (b, .inl (fx_cB X, q, .inl (fun _ => 0)))] := hD
  refine lv_astore_n (lv' := [(2, .ref b), (0, .ref a0), (1, .int (nI q))]) hx hb dJ7_copyOf_9075b_17 rfl hl (by decide) rfl (fun ls hl => ?_)
  refine lv_aload_n hx hb dJ7_copyOf_9075b_18 rfl (lv_at hl 1 rfl) ?_
  refine lv_iconst (v := nI 0) hx hb dJ7_copyOf_9075b_19 (by decide) ?_
  refine lv_aload_n hx hb dJ7_copyOf_9075b_20 rfl (lv_at hl 0 rfl) ?_
  refine lv_iconst (v := nI 0) hx hb dJ7_copyOf_9075b_21 (by decide) ?_
  refine lv_aload_n hx hb dJ7_copyOf_9075b_22 rfl (lv_at hl 1 rfl) ?_
  refine va_alen (v := nI n0) hx hb hK hP 0 3 rfl rfl rfl dJ7_copyOf_9075b_23 ?_
  refine lv_iload_n hx hb dJ7_copyOf_9075b_24 rfl (lv_at hl 2 rfl) ?_
  refine va_mmin hx hb (by rw [hml]; exact hl.1.symm) hown (hts (.methodLink RJ7 304 Lib.Math.min.name) (by decide +kernel)) (hts (.static Lib.Math.min.name) (by decide +kernel)) (hts (.initialized "java/lang/Math") (by decide +kernel)) (hts (.code Lib.Math.min.name Lib.Math.min.code 2 (some .int)) (by decide +kernel)) (Nat.le_of_ble_eq_true rfl) (Nat.le_of_ble_eq_true rfl) (by show 0 + 1 ≤ mc; omega) (by show 0 + q ≤ ms; omega) dJ7_copyOf_9075b_25 ?_
  rw [if_neg (nI_nlt (by omega) (by omega))]
  refine va_copyi hx hb (by rw [hml]; exact hl.1.symm) hown (hts (.methodLink RJ7 150 arraycopyName) (by decide +kernel)) (hts (.native arraycopyName) (by decide +kernel)) (hts (.static arraycopyName) (by decide +kernel)) (hts (.initialized "java/lang/System") (by decide +kernel)) hK hP hD hS 0 1 3 3 (f := f0) (g := fun _ => 0) (ty := .byte) rfl rfl rfl rfl rfl (nI_pos (by decide)) (nI_pos (by decide)) (nI_pos (by omega)) (by rw [nI_clamp (by decide), nI_clamp (by omega)]; omega) (by rw [nI_clamp (by decide), nI_clamp (by omega)]; omega) (fun i hi => by rw [nI_clamp (by omega)] at hi; rw [nI_clamp (by decide), Nat.zero_add]; exact h5 i hi) (Nat.le_of_ble_eq_true rfl) (show 0 + (nativeFrameWords "java/lang/System" "arraycopy" 5 + 11) ≤ 60 by decide +kernel) dJ7_copyOf_9075b_28 (fun H locs hP hD hS => ?_)
  rw [nI_clamp (by decide), nI_clamp (by omega)] at hP hD
  have hP : va_P (fx_D X) vwCl [(a0, .inl (fx_cB X, n0, .inl f0)), (b, .inl (fx_cB X, q, .inl (va_cpy f0 (fun _ => 0) 0 0 n0)))] H := hP
  have hD : va_D A [(a0, .inl (fx_cB X, n0, .inl f0)), (b, .inl (fx_cB X, q, .inl (va_cpy f0 (fun _ => 0) 0 0 n0)))] := hD
  refine lv_aload_n hx hb dJ7_copyOf_9075b_31 rfl (lv_at hl 0 rfl) ?_
  refine W.widen (k := mc) (n := ms) (by omega) (by omega) ?_
  exact W.aret (v := .ref b) hx hb hr (Or.inr ⟨_, rfl⟩) (Or.inr ⟨_, rfl⟩) (fun t ht hW => ⟨⟨(q, va_cpy f0 (fun _ => 0) 0 0 n0), b, rfl, h6, by rw [ht]; exact hP, va_K.moved hW.alike hK, hD⟩, hS.F ht⟩) hS.2.2 dJ7_copyOf_9075b_32

/-! CONTEXT: statics, enum constants, texts; worlds of contracts; calls -/
/-- the texts of the class's literals, by their numbers, letter by letter -/
def fx_st : List (List Nat) := [[46, 32], [65, 32, 105, 115, 32, 99, 108, 97, 115, 115, 32, 67], [65, 32, 105, 115, 32, 67], [44, 32, 98, 121, 32], [32, 102, 114, 111, 109, 32], [32, 97, 110, 100, 32], [97, 120, 105, 111, 109], [], [103, 105, 118, 101, 110], [97, 110, 121, 116, 104, 105, 110, 103], [67, 46, 46, 46], [105, 116, 115, 101, 108, 102], [49, 105, 105, 46], [110, 111, 116, 104, 105, 110, 103], [99, 108, 97, 115, 115, 32, 65, 32, 105, 115, 32, 98, 101, 108, 111, 119, 32, 99, 108, 97, 115, 115, 32, 66], [65, 32, 105, 115, 32, 98, 101, 108, 111, 119, 32, 66], [119, 104, 97, 116, 32, 65, 32, 98, 101, 103, 105, 110, 115, 32, 97, 116, 32, 105, 115, 32, 99, 108, 97, 115, 115, 32, 66], [119, 104, 97, 116, 32, 65, 32, 108, 101, 97, 100, 115, 32, 116, 111, 32, 105, 115, 32, 99, 108, 97, 115, 115, 32, 66], [99, 108, 97, 115, 115, 32, 65, 32, 97, 110, 100, 32, 99, 108, 97, 115, 115, 32, 66, 32, 104, 97, 118, 101, 32, 110, 111, 116, 104, 105, 110, 103, 32, 105, 110, 32, 99, 111, 109, 109, 111, 110], [65, 32, 103, 111, 101, 115, 32, 116, 104, 114, 111, 117, 103, 104], [65, 32, 103, 111, 101, 115, 32, 101, 105, 116, 104, 101, 114, 32, 119, 97, 121], [65, 32, 105, 115, 32, 66, 32, 116, 104, 101, 32, 111, 116, 104, 101, 114, 32, 119, 97, 121], [65, 32, 108, 101, 97, 100, 115, 32, 116, 111, 32, 111, 110, 101], [65, 32, 105, 115, 32, 110, 111, 116, 32, 66], [65, 32, 66, 32, 67], [99, 111, 110, 116, 114, 97, 100, 105, 99, 116, 105, 111, 110], [98, 101, 108, 111, 119], [49, 97, 98, 46, 49, 98, 99, 46], [49, 97, 99, 46], [112, 114, 111, 112, 101, 114, 116, 105, 101, 115], [50, 112, 113, 46, 50, 113, 114, 46], [50, 112, 114, 46], [99, 108, 97, 115, 115], [49, 97, 98, 46, 66, 120, 48, 97], [66, 120, 48, 98], [112, 114, 111, 112, 101, 114, 116, 121], [50, 112, 113, 46, 66, 120, 112, 121], [66, 120, 113, 121], [98, 101, 103, 105, 110, 115], [51, 112, 99, 46, 66, 120, 112, 121], [66, 120, 48, 99], [108, 101, 97, 100, 115], [52, 112, 99, 46, 66, 120, 112, 121], [66, 121, 48, 99], [101, 105, 116, 104, 101, 114], [55, 112, 46, 46, 66, 120, 112, 121], [66, 121, 112, 120], [116, 104, 114, 111, 117, 103, 104], [54, 112, 46, 46, 66, 120, 112, 121, 66, 121, 112, 122], [66, 120, 112, 122], [111, 116, 104, 101, 114], [56, 112, 113, 46, 66, 120, 112, 121], [66, 121, 113, 120], [115, 119, 97, 112], [66, 120, 49, 121], [66, 121, 49, 120], [101, 113, 117, 97, 108], [66, 120, 49, 121, 66, 120, 112, 122], [66, 121, 112, 122], [111, 110, 101], [57, 112, 46, 46, 66, 120, 112, 121, 66, 120, 112, 122], [66, 121, 49, 122], [97, 112, 97, 114, 116], [53, 97, 98, 46, 66, 120, 48, 97, 66, 120, 48, 98], [110, 111, 116], [65, 120, 121, 46, 66, 120, 49, 121]]
def fx_sl (i : Nat) : Nat := (fx_st.getD i []).length
def fx_sc (i j : Nat) : Nat := (fx_st.getD i []).getD j 0
def fx_kn : List Nat := [0, 2, 2, 2, 2, 2, 1, 1, 2, 1, 2, 3, 0]
def fx_kw : List Nat := [13, 14, 15, 16, 17, 18, 19, 20, 21, 22, 23, 24, 25]
def fx_rw : List Nat := [6, 8, 11, 26, 29, 32, 35, 38, 41, 44, 47, 50, 53, 56, 59, 62, 64, 9]
def fx_ra : List Nat := [7, 7, 7, 27, 30, 33, 36, 39, 42, 45, 48, 51, 54, 57, 60, 63, 65, 10]
def fx_rg : List Nat := [7, 7, 12, 28, 31, 34, 37, 40, 43, 46, 49, 52, 55, 58, 61, 10, 10, 7]
/-- the numbers that a launch chooses: classes' and slots' numbers, the array classes, addresses of Kinds, of Rules, of texts and of their bytes, of the two arrays of constants, of the two digit tables -/
abbrev fx_X : Type := va_G × (ClassId × ClassId × ClassId × ClassId) × (Nat → Nat) × (Nat → Nat) × (Nat → Nat) × (Nat → Nat) × Nat × Nat × Nat × Nat × Option Nat
abbrev fx_D (X : fx_X) : va_G := X.1
abbrev fx_cI (X : fx_X) : ClassId := X.2.1.1
abbrev fx_cJ (X : fx_X) : ClassId := X.2.1.2.1
abbrev fx_cZ (X : fx_X) : ClassId := X.2.1.2.2.1
abbrev fx_cB (X : fx_X) : ClassId := X.2.1.2.2.2
abbrev fx_aK (X : fx_X) : Nat → Nat := X.2.2.1
abbrev fx_aR (X : fx_X) : Nat → Nat := X.2.2.2.1
abbrev fx_aS (X : fx_X) : Nat → Nat := X.2.2.2.2.1
abbrev fx_aV (X : fx_X) : Nat → Nat := X.2.2.2.2.2.1
abbrev fx_tK (X : fx_X) : Nat := X.2.2.2.2.2.2.1
abbrev fx_tR (X : fx_X) : Nat := X.2.2.2.2.2.2.2.1
abbrev fx_t1 (X : fx_X) : Nat := X.2.2.2.2.2.2.2.2.1
abbrev fx_t2 (X : fx_X) : Nat := X.2.2.2.2.2.2.2.2.2.1
abbrev fx_rF (X : fx_X) : Option Nat := X.2.2.2.2.2.2.2.2.2.2
abbrev fx_ty (X : fx_X) : List (ClassId × FieldType) := [(fx_cI X, .int), (fx_cJ X, .long), (fx_cZ X, .boolean), (fx_cB X, .byte)]
def fx_GK (X : fx_X) (A : Nat → Prop) (U : State) (H : Heap) : Prop :=
  va_Z "ProofChecker" "KINDS" "[LProofChecker$Kind;" (.ref (fx_tK X)) A U H ∧ va_T (.object "ProofChecker$Kind") (fx_tK X) 13 (fun j => .ref (fx_aK X j)) A U H ∧ va_Z "ProofChecker$Kind" "NOTHING" "LProofChecker$Kind;" (.ref (fx_aK X 0)) A U H ∧
  (∀ i, i < 13 → va_O "ProofChecker$Kind" (fx_aK X i) A U H) ∧ va_Ef 13 "ProofChecker$Kind" "numbers" "I" (fun i => .int (nI (fx_kn.getD i 0))) (fx_aK X) A U H ∧ va_Ef 13 "ProofChecker$Kind" "wording" "Ljava/lang/String;" (fun i => .ref (fx_aS X (fx_kw.getD i 0))) (fx_aK X) A U H
def fx_GR (X : fx_X) (A : Nat → Prop) (U : State) (H : Heap) : Prop :=
  va_Z "ProofChecker" "RULES" "[LProofChecker$Rule;" (.ref (fx_tR X)) A U H ∧ va_T (.object "ProofChecker$Rule") (fx_tR X) 18 (fun j => .ref (fx_aR X j)) A U H ∧
  va_Z "ProofChecker$Rule" "AXIOM" "LProofChecker$Rule;" (.ref (fx_aR X 0)) A U H ∧ va_Z "ProofChecker$Rule" "GIVEN" "LProofChecker$Rule;" (.ref (fx_aR X 1)) A U H ∧ va_Z "ProofChecker$Rule" "ITSELF" "LProofChecker$Rule;" (.ref (fx_aR X 2)) A U H ∧ va_Z "ProofChecker$Rule" "ANYTHING" "LProofChecker$Rule;" (.ref (fx_aR X 17)) A U H ∧
  (∀ i, i < 18 → va_O "ProofChecker$Rule" (fx_aR X i) A U H) ∧ va_Ef 18 "ProofChecker$Rule" "word" "Ljava/lang/String;" (fun i => .ref (fx_aS X (fx_rw.getD i 0))) (fx_aR X) A U H ∧ va_Ef 18 "ProofChecker$Rule" "asks" "Ljava/lang/String;" (fun i => .ref (fx_aS X (fx_ra.getD i 0))) (fx_aR X) A U H ∧ va_Ef 18 "ProofChecker$Rule" "gives" "Ljava/lang/String;" (fun i => .ref (fx_aS X (fx_rg.getD i 0))) (fx_aR X) A U H ∧
  (∀ i j, i < 18 → j < 18 → fx_aR X i = fx_aR X j → i = j)
def fx_GS (X : fx_X) (A : Nat → Prop) (U : State) (H : Heap) : Prop :=
  ∀ i, i < 66 → va_O "java/lang/String" (fx_aS X i) A U H ∧ va_OF "java/lang/String" "coder" "B" (.int 0) (fx_aS X i) A U H ∧ va_OF "java/lang/String" "value" "[B" (.ref (fx_aV X i)) (fx_aS X i) A U H ∧ va_T .byte (fx_aV X i) (fx_sl i) (fun j => .int (nI (fx_sc i j))) A U H
def fx_GL (X : fx_X) (U : State) : Prop := vk_R "ProofChecker" 152 ". " (fx_aS X 0) U ∧ vk_R "ProofChecker" 264 "A is class C" (fx_aS X 1) U ∧ vk_R "ProofChecker" 266 "A is C" (fx_aS X 2) U ∧ vk_R "ProofChecker" 160 ", by " (fx_aS X 3) U ∧ vk_R "ProofChecker" 275 " from " (fx_aS X 4) U ∧ vk_R "ProofChecker" 277 " and " (fx_aS X 5) U
def fx_GJ (X : fx_X) (A : Nat → Prop) (U : State) (H : Heap) : Prop :=
  va_Z "java/lang/String" "COMPACT_STRINGS" "Z" (.int 1) A U H ∧ va_Z "java/lang/Integer" "DigitOnes" "[B" (.ref (fx_t1 X)) A U H ∧ va_Z "java/lang/Integer" "DigitTens" "[B" (.ref (fx_t2 X)) A U H ∧ va_T .byte (fx_t1 X) 100 (fun j => .int (nI (48 + j % 10))) A U H ∧ va_T .byte (fx_t2 X) 100 (fun j => .int (nI (48 + j / 10))) A U H ∧ va_Z "jdk/internal/util/Preconditions" "SIOOBE_FORMATTER" "Ljava/util/function/BiFunction;" (va_rf (fx_rF X)) A U H
def fx_GN (U : State) : Prop := va_Nw (.fieldLinkNest "ProofChecker" 162 "ProofChecker$Rule" "word" "Ljava/lang/String;" "ProofChecker") U ∧ va_Nw (.fieldLinkNest "ProofChecker" 217 "ProofChecker$Rule" "asks" "Ljava/lang/String;" "ProofChecker") U ∧ va_Nw (.fieldLinkNest "ProofChecker" 239 "ProofChecker$Rule" "gives" "Ljava/lang/String;" "ProofChecker") U ∧ va_Nw (.fieldLinkNest "ProofChecker" 268 "ProofChecker$Kind" "wording" "Ljava/lang/String;" "ProofChecker") U ∧ va_Nw (.fieldLinkNest "ProofChecker" 65 "ProofChecker$Kind" "numbers" "I" "ProofChecker") U ∧ va_Nw (.methodLinkNest "ProofChecker" 23 ⟨"ProofChecker$Rows", "<init>", "()V"⟩ "ProofChecker") U ∧ va_Nw (.methodLinkNest "ProofChecker" 33 ⟨"ProofChecker$Letters", "<init>", "()V"⟩ "ProofChecker") U
def fx_G (X : fx_X) (A : Nat → Prop) (U : State) (H : Heap) : Prop := fx_GK X A U H ∧ fx_GR X A U H ∧ fx_GS X A U H ∧ fx_GL X U ∧ fx_GJ X A U H ∧ fx_GN U
theorem fx_GL.mv {X : fx_X} {u U : State} (hR : ∀ own k tx a, vk_R own k tx a u → vk_R own k tx a U) (h : fx_GL X u) : fx_GL X U := by
  obtain ⟨q0, q1, q2, q3, q4, q5⟩ := h
  exact ⟨hR _ _ _ _ q0, hR _ _ _ _ q1, hR _ _ _ _ q2, hR _ _ _ _ q3, hR _ _ _ _ q4, hR _ _ _ _ q5⟩
theorem fx_G.mv {X : fx_X} {A : Nat → Prop} {u U : State} {H : Heap} (hvm : u.vm.Alike U.vm) (hR : ∀ own k tx a, vk_R own k tx a u → vk_R own k tx a U) (hN : fx_GN u → fx_GN U) (h : fx_G X A u H) : fx_G X A U H := by
  obtain ⟨⟨k1, k2, k3, k4, k5, k6⟩, ⟨r1, r2, r3, r4, r5, r6, r7, r8, r9, r10, r11⟩, hs, hl, ⟨j1, j2, j3, j4, j5, j6⟩, hn⟩ := h
  exact ⟨⟨k1.moved hvm, k2.moved hvm, k3.moved hvm, fun i hi => (k4 i hi).moved hvm, k5.moved hvm, k6.moved hvm⟩, ⟨r1.moved hvm, r2.moved hvm, r3.moved hvm, r4.moved hvm, r5.moved hvm, r6.moved hvm, fun i hi => (r7 i hi).moved hvm, r8.moved hvm, r9.moved hvm, r10.moved hvm, r11⟩,
    fun i hi => ⟨(hs i hi).1.moved hvm, (hs i hi).2.1.moved hvm, (hs i hi).2.2.1.moved hvm, (hs i hi).2.2.2.moved hvm⟩, hl.mv hR, ⟨j1.moved hvm, j2.moved hvm, j3.moved hvm, j4.moved hvm, j5.moved hvm, j6.moved hvm⟩, hN hn⟩
theorem fx_G.kept {X : fx_X} {A : Nat → Prop} {U : State} {H H1 : Heap} (h : fx_G X A U H) (hq : ∀ a : Nat, a < H.size → ¬ A a → H1[a]? = H[a]?) : fx_G X A U H1 := by
  obtain ⟨⟨k1, k2, k3, k4, k5, k6⟩, ⟨r1, r2, r3, r4, r5, r6, r7, r8, r9, r10, r11⟩, hs, hl, ⟨j1, j2, j3, j4, j5, j6⟩, hn⟩ := h
  exact ⟨⟨k1.kept hq, k2.kept hq, k3.kept hq, fun i hi => (k4 i hi).kept hq, k5.kept hq, k6.kept hq⟩, ⟨r1.kept hq, r2.kept hq, r3.kept hq, r4.kept hq, r5.kept hq, r6.kept hq, fun i hi => (r7 i hi).kept hq, r8.kept hq, r9.kept hq, r10.kept hq, r11⟩,
    fun i hi => ⟨(hs i hi).1.kept hq, (hs i hi).2.1.kept hq, (hs i hi).2.2.1.kept hq, (hs i hi).2.2.2.kept hq⟩, hl, ⟨j1.kept hq, j2.kept hq, j3.kept hq, j4.kept hq, j5.kept hq, j6.kept hq⟩, hn⟩
theorem fx_G.narrow {X : fx_X} {A B : Nat → Prop} {U : State} {H : Heap} (h : fx_G X A U H) (hq : ∀ q, B q → A q) : fx_G X B U H := by
  obtain ⟨⟨k1, k2, k3, k4, k5, k6⟩, ⟨r1, r2, r3, r4, r5, r6, r7, r8, r9, r10, r11⟩, hs, hl, ⟨j1, j2, j3, j4, j5, j6⟩, hn⟩ := h
  exact ⟨⟨k1.narrow hq, k2.narrow hq, k3.narrow hq, fun i hi => (k4 i hi).narrow hq, k5.narrow hq, k6.narrow hq⟩, ⟨r1.narrow hq, r2.narrow hq, r3.narrow hq, r4.narrow hq, r5.narrow hq, r6.narrow hq, fun i hi => (r7 i hi).narrow hq, r8.narrow hq, r9.narrow hq, r10.narrow hq, r11⟩,
    fun i hi => ⟨(hs i hi).1.narrow hq, (hs i hi).2.1.narrow hq, (hs i hi).2.2.1.narrow hq, (hs i hi).2.2.2.narrow hq⟩, hl, ⟨j1.narrow hq, j2.narrow hq, j3.narrow hq, j4.narrow hq, j5.narrow hq, j6.narrow hq⟩, hn⟩
/-- what is known of statics at a callee's start -/
theorem fx_G.pass {X : fx_X} {A B : Nat → Prop} {s U : State} {H : Heap} {locs : List Loc} (h : fx_G X A s s.heap) (hS : va_S A s.heap H locs) (hU : U.heap = H) (hW : s.WarmedH U.vm) (hB : ∀ q, B q → A q) : fx_G X B U U.heap := by
  rw [hU]
  exact ((h.kept hS.2.1).narrow hB).mv hW.alike (fun _ _ _ _ q => q.warm hW) (fun q => ⟨va_Nw.warmF hW q.1, va_Nw.warmF hW q.2.1, va_Nw.warmF hW q.2.2.1, va_Nw.warmF hW q.2.2.2.1, va_Nw.warmF hW q.2.2.2.2.1, va_Nw.warmM hW q.2.2.2.2.2.1, va_Nw.warmM hW q.2.2.2.2.2.2⟩)
theorem fx_G.blind {X : fx_X} {A : Nat → Prop} {U : State} (a : Array Value) (g : JFrame) (mk : MethodId) (h : fx_G X A U U.heap) : fx_G X A (U.calling g mk a) (U.calling g mk a).heap :=
  fx_G.mv (u := U) (U := U.calling g mk a) (H := U.heap) (Vm.Alike.refl U.vm) (fun _ _ _ _ q => vk_R.same rfl q) (fun q => ⟨va_Nw.same rfl rfl q.1, va_Nw.same rfl rfl q.2.1, va_Nw.same rfl rfl q.2.2.1, va_Nw.same rfl rfl q.2.2.2.1, va_Nw.same rfl rfl q.2.2.2.2.1, va_Nw.same rfl rfl q.2.2.2.2.2.1, va_Nw.same rfl rfl q.2.2.2.2.2.2⟩) h
/-- a contract's start: of a method that writes nothing; of one that does -/
abbrev fx_PP (X : fx_X) (ws : va_W) (U : State) : Prop := va_P (fx_D X) vwCl ws U.heap ∧ va_K (fx_D X) vwCl (fx_ty X) U ∧ fx_G X (fun _ => False) U U.heap
abbrev fx_PW (X : fx_X) (ws : va_W) (sz : Nat) (U : State) : Prop := U.heap.size = sz ∧ va_P (fx_D X) vwCl ws U.heap ∧ va_K (fx_D X) vwCl (fx_ty X) U ∧ va_D (fun _ => True) ws ∧ fx_G X (va_A ws sz) U U.heap
/-- a contract's end -/
abbrev fx_EW (X : fx_X) (A : Nat → Prop) (ws : va_W) (t : State) : Prop := va_P (fx_D X) vwCl ws t.heap ∧ va_K (fx_D X) vwCl (fx_ty X) t ∧ va_D A ws
theorem fx_PP.blind {X : fx_X} {ws : va_W} {vs : List Value} : FrameBlind (va_Pc vs (fx_PP X ws)) := fun a U g mk q => by
  obtain ⟨q0, qP, qK, qG⟩ := q
  exact ⟨q0, qP, va_K.moved (u := U) (U := U.calling g mk a) (Vm.Alike.refl U.vm) qK, qG.blind a g mk⟩
theorem fx_PW.blind {X : fx_X} {ws : va_W} {sz : Nat} {vs : List Value} : FrameBlind (va_Pc vs (fx_PW X ws sz)) := fun a U g mk q => by
  obtain ⟨q0, q1, qP, qK, qD, qG⟩ := q
  exact ⟨q0, q1, qP, va_K.moved (u := U) (U := U.calling g mk a) (Vm.Alike.refl U.vm) qK, qD, qG.blind a g mk⟩
theorem fx_mf {α β : Type} {f : α → Option β} : ∀ {l : List α} {r : List β}, l.map f = r.map some → l.filterMap f = r
  | [], [], _ => rfl
  | [], _ :: _, h => by simp at h
  | _ :: _, [], h => by simp at h
  | a :: l, b :: r, h => by
    rw [List.map_cons, List.map_cons, List.cons.injEq] at h
    rw [List.filterMap_cons, h.1]
    exact congrArg (b :: ·) (fx_mf h.2)
section FXC
variable {X : fx_X} {s : State} {H : Heap} {locs : List Loc} {A : Nat → Prop} {ws wc : va_W} {C : String} {b : Nat} {As : List Value}
theorem fx_pv (hP : va_P (fx_D X) vwCl ws H) (hK : va_K (fx_D X) vwCl (fx_ty X) s) (hG : fx_G X A s s.heap) (hS : va_S A s.heap H locs) (hr : ∃ cell : Cell, H[b]? = some cell ∧ cell.vm.isStatics = false ∧ s.vm.findClass C = some cell.cls) (isC : List Nat) (hC : isC.map (fun i => ws[i]?) = wc.map some) : PreV s H C b (va_Pc (.ref b :: As) (fx_PP X wc)) As :=
  ⟨fx_PP.blind, hr, fun U hU hW => ⟨rfl, by rw [hU]; exact hP.sub isC (fx_mf hC), va_K.moved hW.alike hK, hG.pass hS hU hW (fun _ q => q.elim)⟩⟩
theorem fx_ps (hP : va_P (fx_D X) vwCl ws H) (hK : va_K (fx_D X) vwCl (fx_ty X) s) (hG : fx_G X A s s.heap) (hS : va_S A s.heap H locs) (isC : List Nat) (hC : isC.map (fun i => ws[i]?) = wc.map some) : PreS s H (va_Pc As (fx_PP X wc)) As :=
  ⟨fx_PP.blind, fun U hU hW => ⟨rfl, by rw [hU]; exact hP.sub isC (fx_mf hC), va_K.moved hW.alike hK, hG.pass hS hU hW (fun _ q => q.elim)⟩⟩
theorem fx_pvW (hP : va_P (fx_D X) vwCl ws H) (hD : va_D A ws) (hK : va_K (fx_D X) vwCl (fx_ty X) s) (hG : fx_G X A s s.heap) (hS : va_S A s.heap H locs) (hF : ∀ q, va_A wc H.size q → A q) (hr : ∃ cell : Cell, H[b]? = some cell ∧ cell.vm.isStatics = false ∧ s.vm.findClass C = some cell.cls) (isC : List Nat) (hn : va_nd isC = true) (hC : isC.map (fun i => ws[i]?) = wc.map some) : PreV s H C b (va_Pc (.ref b :: As) (fx_PW X wc H.size)) As :=
  ⟨fx_PW.blind, hr, fun U hU hW => ⟨rfl, by rw [hU], by rw [hU]; exact hP.sub isC (fx_mf hC), va_K.moved hW.alike hK, (hD.sub isC hn hC).weaken (fun _ _ _ _ => trivial), hG.pass hS hU hW hF⟩⟩
theorem fx_psW (hP : va_P (fx_D X) vwCl ws H) (hD : va_D A ws) (hK : va_K (fx_D X) vwCl (fx_ty X) s) (hG : fx_G X A s s.heap) (hS : va_S A s.heap H locs) (hF : ∀ q, va_A wc H.size q → A q) (isC : List Nat) (hn : va_nd isC = true) (hC : isC.map (fun i => ws[i]?) = wc.map some) : PreS s H (va_Pc As (fx_PW X wc H.size)) As :=
  ⟨fx_PW.blind, fun U hU hW => ⟨rfl, by rw [hU], by rw [hU]; exact hP.sub isC (fx_mf hC), va_K.moved hW.alike hK, (hD.sub isC hn hC).weaken (fun _ _ _ _ => trivial), hG.pass hS hU hW hF⟩⟩
/-- behind a call: what came back beside the rest, in the old order -/
theorem fx_back {wr w1 ws' : va_W} {H1 : Heap} {t : State} (hP : va_P (fx_D X) vwCl ws H) (hD : va_D A ws) (isC isR : List Nat) (hC : isC.map (fun i => ws[i]?) = wc.map some) (hR : isR.map (fun i => ws[i]?) = wr.map some) (hn : va_nd isR = true) (hdis : ∀ i ∈ isR, i ∉ isC)
    (hk : ∀ q : Nat, q < H.size → ¬ va_A wc H.size q → H1[q]? = H[q]?) (hF : ∀ q, va_A wc H.size q → A q) (hB : fx_EW X (va_A wc H.size) w1 t) (ht : t.heap = H1) (ps : List Nat) (hpn : va_nd ps = true) (hps : ps.map (fun i => (wr ++ w1)[i]?) = ws'.map some) : va_P (fx_D X) vwCl ws' H1 ∧ va_D A ws' := by
  obtain ⟨h1, -, h3⟩ := hB
  rw [ht] at h1
  obtain ⟨h5, h6⟩ := va_join hP hD isC isR hC hR hn hdis hk hF h1 h3
  exact ⟨h5.sub ps (fx_mf hps), h6.sub ps hpn hps⟩
end FXC
section FXS
variable {p : Program} {l : Launch} {e : Env} {R : Room} {s : State} {m : MethodId} {args : Array Value} {below : List Frame} {meth : Method} {c : Code} {H : Heap} {locs : List Loc} {cells slots : Nat} {Q : State → Prop}
variable {cc : ByteArray} {pc : Nat} {ls : Array Slot} {rest : List Value}
theorem fx_iinc (hexec : p.tables.exec = Jvm.exec) (hb : c.code = cc) {i nL : Nat} {n : Int} {x y : Int32} {P : Int32 → Prop} (h : fx_nm (x + y) P) (hdg : decode cc pc = .ok (.iinc i n, 3)) (hy : Int32.ofInt n = y) {lv : List (Nat × Value)} (lv' : Int32 → List (Nat × Value)) (hl : lv_has ls nL lv) (k : Nat) (hk : lv[k]? = some (i, .int x)) (hn : i < nL) (hlv : ∀ v, (i, Value.int v) :: lv.filter (fun q => !(q.1 == i) && !(q.1 + 1 == i && q.2.category == 2)) = lv' v)
    (kk : ∀ (v : Int32) (ls' : Array Slot), P v → lv_has ls' nL (lv' v) → W p l e R s m args below meth c H locs cells slots Q (F0 m (pc + 3) ls' rest)) : W p l e R s m args below meth c H locs cells slots Q (F0 m pc ls rest) :=
  lv_iinc (v := x + y) hexec hb hdg hl hk (by rw [hy]) hn (hlv _) (fun ls' h' => kk _ ls' (h _ rfl) h')
/-- a truth value -/
def fx_bo (v : Int32) (P : Prop) : Prop := (v = 0 ∨ v = 1) ∧ P
theorem fx_bo_n {v : Int32} {P : Prop} (h : fx_bo v P) : narrow .boolean (.int v) = .int v := by
  rcases h.1 with rfl | rfl <;> rfl
/-- a letter -/
def fx_ch (v : Int32) (P : Prop) : Prop := (∃ k : Nat, k < 65536 ∧ v = nI k) ∧ P
theorem fx_ch_n {v : Int32} {P : Prop} (h : fx_ch v P) : narrow .char (.int v) = .int v := by
  obtain ⟨⟨k, hk, rfl⟩, -⟩ := h
  exact (pk_charN hk).1
end FXS
section FXG
variable {X : fx_X} {A : Nat → Prop} {U : State} {H : Heap}
theorem fx_G.kinds (h : fx_G X A U H) : va_Z "ProofChecker" "KINDS" "[LProofChecker$Kind;" (.ref (fx_tK X)) A U H := h.1.1
theorem fx_G.kindsT (h : fx_G X A U H) : va_T (.object "ProofChecker$Kind") (fx_tK X) 13 (fun j => .ref (fx_aK X j)) A U H := h.1.2.1
theorem fx_G.nothing (h : fx_G X A U H) : va_Z "ProofChecker$Kind" "NOTHING" "LProofChecker$Kind;" (.ref (fx_aK X 0)) A U H := h.1.2.2.1
theorem fx_G.numbers (h : fx_G X A U H) : va_Ef 13 "ProofChecker$Kind" "numbers" "I" (fun i => .int (nI (fx_kn.getD i 0))) (fx_aK X) A U H := h.1.2.2.2.2.1
theorem fx_G.wording (h : fx_G X A U H) : va_Ef 13 "ProofChecker$Kind" "wording" "Ljava/lang/String;" (fun i => .ref (fx_aS X (fx_kw.getD i 0))) (fx_aK X) A U H := h.1.2.2.2.2.2
theorem fx_G.rules (h : fx_G X A U H) : va_Z "ProofChecker" "RULES" "[LProofChecker$Rule;" (.ref (fx_tR X)) A U H := h.2.1.1
theorem fx_G.rulesT (h : fx_G X A U H) : va_T (.object "ProofChecker$Rule") (fx_tR X) 18 (fun j => .ref (fx_aR X j)) A U H := h.2.1.2.1
theorem fx_G.rAXIOM (h : fx_G X A U H) : va_Z "ProofChecker$Rule" "AXIOM" "LProofChecker$Rule;" (.ref (fx_aR X 0)) A U H := h.2.1.2.2.1
theorem fx_G.rGIVEN (h : fx_G X A U H) : va_Z "ProofChecker$Rule" "GIVEN" "LProofChecker$Rule;" (.ref (fx_aR X 1)) A U H := h.2.1.2.2.2.1
theorem fx_G.rITSELF (h : fx_G X A U H) : va_Z "ProofChecker$Rule" "ITSELF" "LProofChecker$Rule;" (.ref (fx_aR X 2)) A U H := h.2.1.2.2.2.2.1
theorem fx_G.rANYTHING (h : fx_G X A U H) : va_Z "ProofChecker$Rule" "ANYTHING" "LProofChecker$Rule;" (.ref (fx_aR X 17)) A U H := h.2.1.2.2.2.2.2.1
theorem fx_G.word (h : fx_G X A U H) : va_Ef 18 "ProofChecker$Rule" "word" "Ljava/lang/String;" (fun i => .ref (fx_aS X (fx_rw.getD i 0))) (fx_aR X) A U H := h.2.1.2.2.2.2.2.2.2.1
theorem fx_G.asks (h : fx_G X A U H) : va_Ef 18 "ProofChecker$Rule" "asks" "Ljava/lang/String;" (fun i => .ref (fx_aS X (fx_ra.getD i 0))) (fx_aR X) A U H := h.2.1.2.2.2.2.2.2.2.2.1
theorem fx_G.gives (h : fx_G X A U H) : va_Ef 18 "ProofChecker$Rule" "gives" "Ljava/lang/String;" (fun i => .ref (fx_aS X (fx_rg.getD i 0))) (fx_aR X) A U H := h.2.1.2.2.2.2.2.2.2.2.2.1
theorem fx_G.inj (h : fx_G X A U H) : ∀ i j, i < 18 → j < 18 → fx_aR X i = fx_aR X j → i = j := h.2.1.2.2.2.2.2.2.2.2.2.2
theorem fx_G.sval (h : fx_G X A U H) {i : Nat} (hi : i < 66) : va_OF "java/lang/String" "value" "[B" (.ref (fx_aV X i)) (fx_aS X i) A U H := (h.2.2.1 i hi).2.2.1
theorem fx_G.scod (h : fx_G X A U H) {i : Nat} (hi : i < 66) : va_OF "java/lang/String" "coder" "B" (.int 0) (fx_aS X i) A U H := (h.2.2.1 i hi).2.1
theorem fx_G.sbyt (h : fx_G X A U H) {i : Nat} (hi : i < 66) : va_T .byte (fx_aV X i) (fx_sl i) (fun j => .int (nI (fx_sc i j))) A U H := (h.2.2.1 i hi).2.2.2
theorem fx_G.l152 (h : fx_G X A U H) : vk_R "ProofChecker" 152 ". " (fx_aS X 0) U := h.2.2.2.1.1
theorem fx_G.l264 (h : fx_G X A U H) : vk_R "ProofChecker" 264 "A is class C" (fx_aS X 1) U := h.2.2.2.1.2.1
theorem fx_G.l266 (h : fx_G X A U H) : vk_R "ProofChecker" 266 "A is C" (fx_aS X 2) U := h.2.2.2.1.2.2.1
theorem fx_G.l160 (h : fx_G X A U H) : vk_R "ProofChecker" 160 ", by " (fx_aS X 3) U := h.2.2.2.1.2.2.2.1
theorem fx_G.l275 (h : fx_G X A U H) : vk_R "ProofChecker" 275 " from " (fx_aS X 4) U := h.2.2.2.1.2.2.2.2.1
theorem fx_G.l277 (h : fx_G X A U H) : vk_R "ProofChecker" 277 " and " (fx_aS X 5) U := h.2.2.2.1.2.2.2.2.2
theorem fx_G.cs (h : fx_G X A U H) : va_Z "java/lang/String" "COMPACT_STRINGS" "Z" (.int 1) A U H := h.2.2.2.2.1.1
theorem fx_G.dz1 (h : fx_G X A U H) : va_Z "java/lang/Integer" "DigitOnes" "[B" (.ref (fx_t1 X)) A U H := h.2.2.2.2.1.2.1
theorem fx_G.dz2 (h : fx_G X A U H) : va_Z "java/lang/Integer" "DigitTens" "[B" (.ref (fx_t2 X)) A U H := h.2.2.2.2.1.2.2.1
theorem fx_G.dt1 (h : fx_G X A U H) : va_T .byte (fx_t1 X) 100 (fun j => .int (nI (48 + j % 10))) A U H := h.2.2.2.2.1.2.2.2.1
theorem fx_G.dt2 (h : fx_G X A U H) : va_T .byte (fx_t2 X) 100 (fun j => .int (nI (48 + j / 10))) A U H := h.2.2.2.2.1.2.2.2.2.1
theorem fx_G.fmt (h : fx_G X A U H) : va_Z "jdk/internal/util/Preconditions" "SIOOBE_FORMATTER" "Ljava/util/function/BiFunction;" (va_rf (fx_rF X)) A U H := h.2.2.2.2.1.2.2.2.2.2
theorem fx_G.n162 (h : fx_G X A U H) : va_Nw (.fieldLinkNest "ProofChecker" 162 "ProofChecker$Rule" "word" "Ljava/lang/String;" "ProofChecker") U := h.2.2.2.2.2.1
theorem fx_G.n217 (h : fx_G X A U H) : va_Nw (.fieldLinkNest "ProofChecker" 217 "ProofChecker$Rule" "asks" "Ljava/lang/String;" "ProofChecker") U := h.2.2.2.2.2.2.1
theorem fx_G.n239 (h : fx_G X A U H) : va_Nw (.fieldLinkNest "ProofChecker" 239 "ProofChecker$Rule" "gives" "Ljava/lang/String;" "ProofChecker") U := h.2.2.2.2.2.2.2.1
theorem fx_G.n268 (h : fx_G X A U H) : va_Nw (.fieldLinkNest "ProofChecker" 268 "ProofChecker$Kind" "wording" "Ljava/lang/String;" "ProofChecker") U := h.2.2.2.2.2.2.2.2.1
theorem fx_G.n65 (h : fx_G X A U H) : va_Nw (.fieldLinkNest "ProofChecker" 65 "ProofChecker$Kind" "numbers" "I" "ProofChecker") U := h.2.2.2.2.2.2.2.2.2.1
theorem fx_G.n23 (h : fx_G X A U H) : va_Nw (.methodLinkNest "ProofChecker" 23 ⟨"ProofChecker$Rows", "<init>", "()V"⟩ "ProofChecker") U := h.2.2.2.2.2.2.2.2.2.2.1
theorem fx_G.n33 (h : fx_G X A U H) : va_Nw (.methodLinkNest "ProofChecker" 33 ⟨"ProofChecker$Letters", "<init>", "()V"⟩ "ProofChecker") U := h.2.2.2.2.2.2.2.2.2.2.2
theorem fx_G.recS {s : State} {locs : List Loc} (h : fx_G X A s s.heap) {i : Nat} (hi : i < 66) (hS : va_S A s.heap H locs) : ∃ cell : Cell, H[fx_aS X i]? = some cell ∧ cell.vm.isStatics = false ∧ s.vm.findClass "java/lang/String" = some cell.cls := by
  obtain ⟨cell, h1, h2, h3, -⟩ := (h.2.2.1 i hi).1.kept hS.2.1
  exact ⟨cell, h1, h2, h3⟩
theorem fx_G.recR {s : State} {locs : List Loc} (h : fx_G X A s s.heap) {i : Nat} (hi : i < 18) (hS : va_S A s.heap H locs) : ∃ cell : Cell, H[fx_aR X i]? = some cell ∧ cell.vm.isStatics = false ∧ s.vm.findClass "ProofChecker$Rule" = some cell.cls := by
  obtain ⟨cell, h1, h2, h3, -⟩ := (h.2.1.2.2.2.2.2.2.1 i hi).kept hS.2.1
  exact ⟨cell, h1, h2, h3⟩
end FXG
section FXT
variable {p : Program} {l : Launch} {e : Env} {R : Room} {s : State} {m : MethodId} {args : Array Value} {below : List Frame} {meth : Method} {c : Code} {H : Heap} {locs : List Loc} {cells slots : Nat} {Q : State → Prop}
variable {cc : ByteArray} {pc : Nat} {ls : Array Slot} {rest : List Value} {X : fx_X} {A : Nat → Prop}
theorem fx_tqK (hexec : p.tables.exec = Jvm.exec) (hb : c.code = cc) (hG : fx_G X A s s.heap) (hS : va_S A s.heap H locs) {i : Int32} {P : Nat → Prop} (h : fx_ix i 13 P) (hdg : decode cc pc = .ok (.aaload, 1))
    (kk : ∀ k, P k → W p l e R s m args below meth c H locs cells slots Q (F0 m (pc + 1) ls (.ref (fx_aK X k) :: rest))) : W p l e R s m args below meth c H locs cells slots Q (F0 m pc ls (.int i :: .ref (fx_tK X) :: rest)) := by
  obtain ⟨k, h1, h2, h3, h4⟩ := h
  exact vb_tq hexec hb hG.kindsT hS (fx_in h1 h2 h3) (v := .ref (fx_aK X k)) (by rw [h3, nI_clamp h2]) hdg (kk k h4)
theorem fx_tqR (hexec : p.tables.exec = Jvm.exec) (hb : c.code = cc) (hG : fx_G X A s s.heap) (hS : va_S A s.heap H locs) {i : Int32} {P : Nat → Prop} (h : fx_ix i 18 P) (hdg : decode cc pc = .ok (.aaload, 1))
    (kk : ∀ k, P k → W p l e R s m args below meth c H locs cells slots Q (F0 m (pc + 1) ls (.ref (fx_aR X k) :: rest))) : W p l e R s m args below meth c H locs cells slots Q (F0 m pc ls (.int i :: .ref (fx_tR X) :: rest)) := by
  obtain ⟨k, h1, h2, h3, h4⟩ := h
  exact vb_tq hexec hb hG.rulesT hS (fx_in h1 h2 h3) (v := .ref (fx_aR X k)) (by rw [h3, nI_clamp h2]) hdg (kk k h4)
theorem fx_stb (hexec : p.tables.exec = Jvm.exec) (hb : c.code = cc) {t N : Nat} {f : Nat → Int32} (hT : va_T .byte t N (fun j => .int (f j)) A s s.heap) (hS : va_S A s.heap H locs) {i : Int32} {P : Int32 → Prop} (h : fx_ix i N (fun k => fx_nm (f k) P)) (hdg : decode cc pc = .ok (.baload, 1))
    (kk : ∀ v, P v → W p l e R s m args below meth c H locs cells slots Q (F0 m (pc + 1) ls (.int v :: rest))) : W p l e R s m args below meth c H locs cells slots Q (F0 m pc ls (.int i :: .ref t :: rest)) := by
  obtain ⟨k, h1, h2, h3, h4⟩ := h
  exact va_tb hexec hb hT hS (fx_in h1 h2 h3) (v := .int (f k)) (by rw [h3, nI_clamp h2]) hdg (kk _ (h4 _ rfl))
theorem fx_getXN (hexec : p.tables.exec = Jvm.exec) (hb : c.code = cc) {o n d own ref host : String} {N : Nat} {v : Nat → Value} {ad : Nat → Nat} {index i : Nat} (hE : va_Ef N o n d v ad A s s.heap) (hi : i < N) (hS : va_S A s.heap H locs) (hown : s.vm.findClass own = some m.cls) (hlink : va_Nw (.fieldLinkNest own index ref n d host) s) (hsame : ∀ x, s.fieldFound? o n d = some x → s.fieldFound? ref n d = some x) (hdg : decode cc pc = .ok (.getfield index, 3))
    (kk : W p l e R s m args below meth c H locs cells slots Q (F0 m (pc + 3) ls (v i :: rest))) : W p l e R s m args below meth c H locs cells slots Q (F0 m pc ls (.ref (ad i) :: rest)) := by
  obtain ⟨cf, k, fi, f, cell, h1, h2, h3, h4, h5, h6⟩ := (hE i hi).kept hS.2.1
  exact va_Wgetf hexec hb hown (va_Nw.use rfl hlink) (hsame _ h1) h2 h3 h4 (v := v i) h5 rfl rfl hdg kk
theorem fx_acmp_eq (hexec : p.tables.exec = Jvm.exec) (hb : c.code = cc) (hG : fx_G X A s s.heap) {i j : Nat} {Y Z : Prop} (h : fx_lt i 18 (fx_br (i = j) Y Z)) (hj : j < 18) {off : Int} {tgt : Nat} (hdg : decode cc pc = .ok (.if_acmp .eq off, 3)) (ht : (pc : Int) + off = (tgt : Int))
    (kt : Y → W p l e R s m args below meth c H locs cells slots Q (F0 m tgt ls rest)) (kf : Z → W p l e R s m args below meth c H locs cells slots Q (F0 m (pc + 3) ls rest)) : W p l e R s m args below meth c H locs cells slots Q (F0 m pc ls (.ref (fx_aR X j) :: .ref (fx_aR X i) :: rest)) :=
  lv_acmp_eq (rx := some (fx_aR X i)) (ry := some (fx_aR X j)) hexec hb hdg ht (fun z => kt (h.2.1 (hG.inj i j h.1 hj (Option.some.inj z)))) (fun z => kf (h.2.2 (fun q => z (by rw [q]))))
theorem fx_acmp_ne (hexec : p.tables.exec = Jvm.exec) (hb : c.code = cc) (hG : fx_G X A s s.heap) {i j : Nat} {Y Z : Prop} (h : fx_lt i 18 (fx_br (i = j) Z Y)) (hj : j < 18) {off : Int} {tgt : Nat} (hdg : decode cc pc = .ok (.if_acmp .ne off, 3)) (ht : (pc : Int) + off = (tgt : Int))
    (kt : Y → W p l e R s m args below meth c H locs cells slots Q (F0 m tgt ls rest)) (kf : Z → W p l e R s m args below meth c H locs cells slots Q (F0 m (pc + 3) ls rest)) : W p l e R s m args below meth c H locs cells slots Q (F0 m pc ls (.ref (fx_aR X j) :: .ref (fx_aR X i) :: rest)) :=
  lv_acmp_ne (rx := some (fx_aR X i)) (ry := some (fx_aR X j)) hexec hb hdg ht (fun z => kt (h.2.2 (fun q => z (by rw [q])))) (fun z => kf (h.2.1 (hG.inj i j h.1 hj (Option.some.inj z))))
theorem fx_astore_no (hexec : p.tables.exec = Jvm.exec) (hb : c.code = cc) {ad : Nat → Nat} {r : Option Nat} {k : Fin 4} {i nL : Nat} {lv lv' : List (Nat × Value)} (hdg : decode cc pc = .ok (.astore_n k, 1)) (hi : (k : Nat) = i) (h : lv_has ls nL lv) (hn : i < nL) (hl : (i, va_re ad r) :: lv.filter (fun q => !(q.1 == i) && !(q.1 + 1 == i && q.2.category == 2)) = lv')
    (kk : ∀ ls' : Array Slot, lv_has ls' nL lv' → W p l e R s m args below meth c H locs cells slots Q (F0 m (pc + 1) ls' rest)) : W p l e R s m args below meth c H locs cells slots Q (F0 m pc ls (va_re ad r :: rest)) := by
  rcases r with _ | r
  · exact lv_astore_nN hexec hb hdg hi h hn hl kk
  · exact lv_astore_n hexec hb hdg hi h hn hl kk
theorem fx_astoreo (hexec : p.tables.exec = Jvm.exec) (hb : c.code = cc) {ad : Nat → Nat} {r : Option Nat} {i nL : Nat} {lv lv' : List (Nat × Value)} (hdg : decode cc pc = .ok (.astore i, 2)) (h : lv_has ls nL lv) (hn : i < nL) (hl : (i, va_re ad r) :: lv.filter (fun q => !(q.1 == i) && !(q.1 + 1 == i && q.2.category == 2)) = lv')
    (kk : ∀ ls' : Array Slot, lv_has ls' nL lv' → W p l e R s m args below meth c H locs cells slots Q (F0 m (pc + 2) ls' rest)) : W p l e R s m args below meth c H locs cells slots Q (F0 m pc ls (va_re ad r :: rest)) := by
  rcases r with _ | r
  · exact lv_astoreN hexec hb hdg h hn hl kk
  · exact lv_astore hexec hb hdg h hn hl kk
theorem fx_aload_no (hexec : p.tables.exec = Jvm.exec) (hb : c.code = cc) {ad : Nat → Nat} {r : Option Nat} {k : Fin 4} {i : Nat} (hdg : decode cc pc = .ok (.aload_n k, 1)) (hi : (k : Nat) = i) (hl : ls[i]? = some (.val (va_re ad r)))
    (kk : W p l e R s m args below meth c H locs cells slots Q (F0 m (pc + 1) ls (va_re ad r :: rest))) : W p l e R s m args below meth c H locs cells slots Q (F0 m pc ls rest) := by
  rcases r with _ | r
  · exact lv_aload_nN hexec hb hdg hi hl kk
  · exact lv_aload_n hexec hb hdg hi hl kk
theorem fx_aloado (hexec : p.tables.exec = Jvm.exec) (hb : c.code = cc) {ad : Nat → Nat} {r : Option Nat} {i : Nat} (hdg : decode cc pc = .ok (.aload i, 2)) (hl : ls[i]? = some (.val (va_re ad r)))
    (kk : W p l e R s m args below meth c H locs cells slots Q (F0 m (pc + 2) ls (va_re ad r :: rest))) : W p l e R s m args below meth c H locs cells slots Q (F0 m pc ls rest) := by
  rcases r with _ | r
  · exact lv_aloadN hexec hb hdg hl kk
  · exact lv_aload hexec hb hdg hl kk
end FXT
theorem fx_A0 {ws : va_W} {sz : Nat} {H : Heap} (h : H.size = sz) : ∀ q : Nat, H.size ≤ q → va_A ws sz q := fun q hq => Or.inr (h ▸ hq)

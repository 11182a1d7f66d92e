-- ===== PART A: goes FIRST, ahead of the names: the tables' words, and 'selects' of the private methods out of them =====
/-- a private method of a class that the tables say can be made, by its rows of tables_1 -/
def lw_okq (q : MethodName × Nat) : Prop := (q.1.cls ≠ "java/lang/invoke/MethodHandle" ∧ q.1.cls ≠ "java/lang/invoke/VarHandle") ∧ Cond.instantiable q.1.cls q.2 ∈ tables_1 ∧ Cond.privateMethod q.1 ∈ tables_1 ∧ Cond.instanceMethod q.1 ∈ tables_1
theorem lw_p0 : lw_okq (⟨"ProofChecker$Statements", "is", "(IIIII)Z"⟩, 3) := ⟨⟨by decide +kernel, by decide +kernel⟩, List.mem_of_getElem? (i := 30) (by decide +kernel), List.mem_of_getElem? (i := 168) (by decide +kernel), List.mem_of_getElem? (i := 169) (by decide +kernel)⟩
theorem lw_p1 : lw_okq (⟨"ProofChecker", "isInstance", "(LProofChecker$Rule;I)Z"⟩, 9) := ⟨⟨by decide +kernel, by decide +kernel⟩, List.mem_of_getElem? (i := 22) (by decide +kernel), List.mem_of_getElem? (i := 189) (by decide +kernel), List.mem_of_getElem? (i := 190) (by decide +kernel)⟩
theorem lw_p2 : lw_okq (⟨"ProofChecker", "derive", "(I)V"⟩, 9) := ⟨⟨by decide +kernel, by decide +kernel⟩, List.mem_of_getElem? (i := 22) (by decide +kernel), List.mem_of_getElem? (i := 235) (by decide +kernel), List.mem_of_getElem? (i := 236) (by decide +kernel)⟩
theorem lw_p3 : lw_okq (⟨"ProofChecker", "ruleOf", "(I)LProofChecker$Rule;"⟩, 9) := ⟨⟨by decide +kernel, by decide +kernel⟩, List.mem_of_getElem? (i := 22) (by decide +kernel), List.mem_of_getElem? (i := 243) (by decide +kernel), List.mem_of_getElem? (i := 244) (by decide +kernel)⟩
theorem lw_p4 : lw_okq (⟨"ProofChecker", "fits", "(ILProofChecker$Rule;)Z"⟩, 9) := ⟨⟨by decide +kernel, by decide +kernel⟩, List.mem_of_getElem? (i := 22) (by decide +kernel), List.mem_of_getElem? (i := 251) (by decide +kernel), List.mem_of_getElem? (i := 252) (by decide +kernel)⟩
theorem lw_p5 : lw_okq (⟨"ProofChecker", "isAsTold", "(ILjava/lang/String;I)Z"⟩, 9) := ⟨⟨by decide +kernel, by decide +kernel⟩, List.mem_of_getElem? (i := 22) (by decide +kernel), List.mem_of_getElem? (i := 267) (by decide +kernel), List.mem_of_getElem? (i := 268) (by decide +kernel)⟩
theorem lw_p6 : lw_okq (⟨"ProofChecker", "conclude", "(ILProofChecker$Rule;)V"⟩, 9) := ⟨⟨by decide +kernel, by decide +kernel⟩, List.mem_of_getElem? (i := 22) (by decide +kernel), List.mem_of_getElem? (i := 326) (by decide +kernel), List.mem_of_getElem? (i := 327) (by decide +kernel)⟩
theorem lw_p7 : lw_okq (⟨"ProofChecker", "markProof", "(I)V"⟩, 9) := ⟨⟨by decide +kernel, by decide +kernel⟩, List.mem_of_getElem? (i := 22) (by decide +kernel), List.mem_of_getElem? (i := 352) (by decide +kernel), List.mem_of_getElem? (i := 353) (by decide +kernel)⟩
theorem lw_p8 : lw_okq (⟨"ProofChecker", "leastBroken", "(I)I"⟩, 9) := ⟨⟨by decide +kernel, by decide +kernel⟩, List.mem_of_getElem? (i := 22) (by decide +kernel), List.mem_of_getElem? (i := 356) (by decide +kernel), List.mem_of_getElem? (i := 357) (by decide +kernel)⟩
theorem lw_p9 : lw_okq (⟨"ProofChecker", "sizeAbovePremises", "(I)I"⟩, 9) := ⟨⟨by decide +kernel, by decide +kernel⟩, List.mem_of_getElem? (i := 22) (by decide +kernel), List.mem_of_getElem? (i := 372) (by decide +kernel), List.mem_of_getElem? (i := 373) (by decide +kernel)⟩
theorem lw_p10 : lw_okq (⟨"ProofChecker", "tellStatement", "(I)V"⟩, 9) := ⟨⟨by decide +kernel, by decide +kernel⟩, List.mem_of_getElem? (i := 22) (by decide +kernel), List.mem_of_getElem? (i := 551) (by decide +kernel), List.mem_of_getElem? (i := 552) (by decide +kernel)⟩
theorem lw_p11 : lw_okq (⟨"ProofChecker", "wordingFor", "(I)Ljava/lang/String;"⟩, 9) := ⟨⟨by decide +kernel, by decide +kernel⟩, List.mem_of_getElem? (i := 22) (by decide +kernel), List.mem_of_getElem? (i := 555) (by decide +kernel), List.mem_of_getElem? (i := 556) (by decide +kernel)⟩
theorem lw_p12 : lw_okq (⟨"ProofChecker", "tellPremises", "(I)V"⟩, 9) := ⟨⟨by decide +kernel, by decide +kernel⟩, List.mem_of_getElem? (i := 22) (by decide +kernel), List.mem_of_getElem? (i := 577) (by decide +kernel), List.mem_of_getElem? (i := 578) (by decide +kernel)⟩
theorem lw_p13 : lw_okq (⟨"ProofCheckerModel", "isInstance", "(II)Z"⟩, 17) := ⟨⟨by decide +kernel, by decide +kernel⟩, List.mem_of_getElem? (i := 612) (by decide +kernel), List.mem_of_getElem? (i := 740) (by decide +kernel), List.mem_of_getElem? (i := 741) (by decide +kernel)⟩
theorem lw_p14 : lw_okq (⟨"ProofCheckerModel", "isRow", "(I)Z"⟩, 17) := ⟨⟨by decide +kernel, by decide +kernel⟩, List.mem_of_getElem? (i := 612) (by decide +kernel), List.mem_of_getElem? (i := 744) (by decide +kernel), List.mem_of_getElem? (i := 745) (by decide +kernel)⟩
theorem lw_p15 : lw_okq (⟨"ProofCheckerModel", "lay", "(II)V"⟩, 17) := ⟨⟨by decide +kernel, by decide +kernel⟩, List.mem_of_getElem? (i := 612) (by decide +kernel), List.mem_of_getElem? (i := 751) (by decide +kernel), List.mem_of_getElem? (i := 752) (by decide +kernel)⟩
def lw_privs_1 : List (MethodName × Nat) := [(⟨"ProofChecker$Statements", "is", "(IIIII)Z"⟩, 3), (⟨"ProofChecker", "isInstance", "(LProofChecker$Rule;I)Z"⟩, 9), (⟨"ProofChecker", "derive", "(I)V"⟩, 9), (⟨"ProofChecker", "ruleOf", "(I)LProofChecker$Rule;"⟩, 9), (⟨"ProofChecker", "fits", "(ILProofChecker$Rule;)Z"⟩, 9), (⟨"ProofChecker", "isAsTold", "(ILjava/lang/String;I)Z"⟩, 9), (⟨"ProofChecker", "conclude", "(ILProofChecker$Rule;)V"⟩, 9), (⟨"ProofChecker", "markProof", "(I)V"⟩, 9), (⟨"ProofChecker", "leastBroken", "(I)I"⟩, 9), (⟨"ProofChecker", "sizeAbovePremises", "(I)I"⟩, 9), (⟨"ProofChecker", "tellStatement", "(I)V"⟩, 9), (⟨"ProofChecker", "wordingFor", "(I)Ljava/lang/String;"⟩, 9), (⟨"ProofChecker", "tellPremises", "(I)V"⟩, 9), (⟨"ProofCheckerModel", "isInstance", "(II)Z"⟩, 17), (⟨"ProofCheckerModel", "isRow", "(I)Z"⟩, 17), (⟨"ProofCheckerModel", "lay", "(II)V"⟩, 17)]
theorem lw_r1 : ∀ q ∈ lw_privs_1, lw_okq q := List.forall_mem_cons.mpr ⟨lw_p0, List.forall_mem_cons.mpr ⟨lw_p1, List.forall_mem_cons.mpr ⟨lw_p2, List.forall_mem_cons.mpr ⟨lw_p3, List.forall_mem_cons.mpr ⟨lw_p4, List.forall_mem_cons.mpr ⟨lw_p5, List.forall_mem_cons.mpr ⟨lw_p6, List.forall_mem_cons.mpr ⟨lw_p7, List.forall_mem_cons.mpr ⟨lw_p8, List.forall_mem_cons.mpr ⟨lw_p9, List.forall_mem_cons.mpr ⟨lw_p10, List.forall_mem_cons.mpr ⟨lw_p11, List.forall_mem_cons.mpr ⟨lw_p12, List.forall_mem_cons.mpr ⟨lw_p13, List.forall_mem_cons.mpr ⟨lw_p14, List.forall_mem_cons.mpr ⟨lw_p15, fun _ h => absurd h List.not_mem_nil⟩⟩⟩⟩⟩⟩⟩⟩⟩⟩⟩⟩⟩⟩⟩⟩
theorem lw_p16 : lw_okq (⟨"ProofCheckerModel", "mark", "(I)I"⟩, 17) := ⟨⟨by decide +kernel, by decide +kernel⟩, List.mem_of_getElem? (i := 612) (by decide +kernel), List.mem_of_getElem? (i := 763) (by decide +kernel), List.mem_of_getElem? (i := 764) (by decide +kernel)⟩
theorem lw_p17 : lw_okq (⟨"ProofCheckerModel", "work", "(I)V"⟩, 17) := ⟨⟨by decide +kernel, by decide +kernel⟩, List.mem_of_getElem? (i := 612) (by decide +kernel), List.mem_of_getElem? (i := 767) (by decide +kernel), List.mem_of_getElem? (i := 768) (by decide +kernel)⟩
theorem lw_p18 : lw_okq (⟨"ProofCheckerModel", "state", "(IIIII)V"⟩, 17) := ⟨⟨by decide +kernel, by decide +kernel⟩, List.mem_of_getElem? (i := 612) (by decide +kernel), List.mem_of_getElem? (i := 771) (by decide +kernel), List.mem_of_getElem? (i := 772) (by decide +kernel)⟩
theorem lw_p19 : lw_okq (⟨"ProofCheckerModel", "of", "(III)I"⟩, 17) := ⟨⟨by decide +kernel, by decide +kernel⟩, List.mem_of_getElem? (i := 612) (by decide +kernel), List.mem_of_getElem? (i := 775) (by decide +kernel), List.mem_of_getElem? (i := 776) (by decide +kernel)⟩
theorem lw_p20 : lw_okq (⟨"ProofCheckerModel", "single", "(I)V"⟩, 17) := ⟨⟨by decide +kernel, by decide +kernel⟩, List.mem_of_getElem? (i := 612) (by decide +kernel), List.mem_of_getElem? (i := 779) (by decide +kernel), List.mem_of_getElem? (i := 780) (by decide +kernel)⟩
theorem lw_p21 : lw_okq (⟨"ProofCheckerModel", "copy", "([III)V"⟩, 17) := ⟨⟨by decide +kernel, by decide +kernel⟩, List.mem_of_getElem? (i := 612) (by decide +kernel), List.mem_of_getElem? (i := 783) (by decide +kernel), List.mem_of_getElem? (i := 784) (by decide +kernel)⟩
theorem lw_p22 : lw_okq (⟨"ProofCheckerModel", "chain", "(I)V"⟩, 17) := ⟨⟨by decide +kernel, by decide +kernel⟩, List.mem_of_getElem? (i := 612) (by decide +kernel), List.mem_of_getElem? (i := 787) (by decide +kernel), List.mem_of_getElem? (i := 788) (by decide +kernel)⟩
theorem lw_p23 : lw_okq (⟨"ProofCheckerModel", "is", "(III)Z"⟩, 17) := ⟨⟨by decide +kernel, by decide +kernel⟩, List.mem_of_getElem? (i := 612) (by decide +kernel), List.mem_of_getElem? (i := 791) (by decide +kernel), List.mem_of_getElem? (i := 792) (by decide +kernel)⟩
theorem lw_p24 : lw_okq (⟨"ProofCheckerModel", "three", "(IIII)V"⟩, 17) := ⟨⟨by decide +kernel, by decide +kernel⟩, List.mem_of_getElem? (i := 612) (by decide +kernel), List.mem_of_getElem? (i := 795) (by decide +kernel), List.mem_of_getElem? (i := 796) (by decide +kernel)⟩
theorem lw_p25 : lw_okq (⟨"ProofCheckerModel", "kindOf", "(I)I"⟩, 17) := ⟨⟨by decide +kernel, by decide +kernel⟩, List.mem_of_getElem? (i := 612) (by decide +kernel), List.mem_of_getElem? (i := 799) (by decide +kernel), List.mem_of_getElem? (i := 800) (by decide +kernel)⟩
theorem lw_p26 : lw_okq (⟨"ProofCheckerModel", "number", "(I)V"⟩, 17) := ⟨⟨by decide +kernel, by decide +kernel⟩, List.mem_of_getElem? (i := 612) (by decide +kernel), List.mem_of_getElem? (i := 837) (by decide +kernel), List.mem_of_getElem? (i := 838) (by decide +kernel)⟩
theorem lw_p27 : lw_okq (⟨"ProofCheckerModel", "put", "(I)V"⟩, 17) := ⟨⟨by decide +kernel, by decide +kernel⟩, List.mem_of_getElem? (i := 612) (by decide +kernel), List.mem_of_getElem? (i := 841) (by decide +kernel), List.mem_of_getElem? (i := 842) (by decide +kernel)⟩
theorem lw_p28 : lw_okq (⟨"ProofCheckerModel", "statement", "(IIII)V"⟩, 17) := ⟨⟨by decide +kernel, by decide +kernel⟩, List.mem_of_getElem? (i := 612) (by decide +kernel), List.mem_of_getElem? (i := 846) (by decide +kernel), List.mem_of_getElem? (i := 847) (by decide +kernel)⟩
def lw_privs_2 : List (MethodName × Nat) := [(⟨"ProofCheckerModel", "mark", "(I)I"⟩, 17), (⟨"ProofCheckerModel", "work", "(I)V"⟩, 17), (⟨"ProofCheckerModel", "state", "(IIIII)V"⟩, 17), (⟨"ProofCheckerModel", "of", "(III)I"⟩, 17), (⟨"ProofCheckerModel", "single", "(I)V"⟩, 17), (⟨"ProofCheckerModel", "copy", "([III)V"⟩, 17), (⟨"ProofCheckerModel", "chain", "(I)V"⟩, 17), (⟨"ProofCheckerModel", "is", "(III)Z"⟩, 17), (⟨"ProofCheckerModel", "three", "(IIII)V"⟩, 17), (⟨"ProofCheckerModel", "kindOf", "(I)I"⟩, 17), (⟨"ProofCheckerModel", "number", "(I)V"⟩, 17), (⟨"ProofCheckerModel", "put", "(I)V"⟩, 17), (⟨"ProofCheckerModel", "statement", "(IIII)V"⟩, 17)]
theorem lw_r2 : ∀ q ∈ lw_privs_2, lw_okq q := List.forall_mem_cons.mpr ⟨lw_p16, List.forall_mem_cons.mpr ⟨lw_p17, List.forall_mem_cons.mpr ⟨lw_p18, List.forall_mem_cons.mpr ⟨lw_p19, List.forall_mem_cons.mpr ⟨lw_p20, List.forall_mem_cons.mpr ⟨lw_p21, List.forall_mem_cons.mpr ⟨lw_p22, List.forall_mem_cons.mpr ⟨lw_p23, List.forall_mem_cons.mpr ⟨lw_p24, List.forall_mem_cons.mpr ⟨lw_p25, List.forall_mem_cons.mpr ⟨lw_p26, List.forall_mem_cons.mpr ⟨lw_p27, List.forall_mem_cons.mpr ⟨lw_p28, fun _ h => absurd h List.not_mem_nil⟩⟩⟩⟩⟩⟩⟩⟩⟩⟩⟩⟩⟩
def lw_privs : List (MethodName × Nat) := lw_privs_1 ++ (lw_privs_2)
def lw_tbl : List Cond := k2_sels lw_privs ++ tables_1
theorem lw_privs_ok : ∀ q ∈ lw_privs, lw_okq q := by
  show ∀ q ∈ lw_privs_1 ++ (lw_privs_2), lw_okq q
  exact List.forall_mem_append.mpr ⟨lw_r1, lw_r2⟩
/-! ===== BEGIN words of one list among another's, by their places ===== -/
theorem goodIn_r {big : List Cond} (ws : List Cond) (ps : List Nat) (hp : ws = ps.filterMap (fun i => big[i]?)) (h : ws.all goodWord = true) : GoodIn big ws := by
  intro w hw
  have h1 := List.all_eq_true.mp h w hw
  rw [hp] at hw
  obtain ⟨i, -, hi⟩ := List.mem_filterMap.mp hw
  have hm : w ∈ big := by first | exact List.mem_of_getElem? hi | exact List.getElem?_mem hi
  exact ⟨hm, good_of_word h1⟩
theorem goodIn_app {big a b : List Cond} (ha : GoodIn big a) (hb : GoodIn big b) : GoodIn big (a ++ b) := fun w h => (List.mem_append.mp h).elim (ha w) (hb w)
theorem goodIn_ca {big a b : List Cond} {c : Cond} (ha : GoodIn big (c :: a)) (hb : GoodIn big b) : GoodIn big (c :: (a ++ b)) := fun w h => (List.mem_cons.mp h).elim (fun e => ha w (List.mem_cons.mpr (Or.inl e))) (fun h => (List.mem_append.mp h).elim (fun h => ha w (List.mem_cons.mpr (Or.inr h))) (hb w))
theorem goodIn_sub {big ws : List Cond} (hm : ∀ w ∈ ws, w ∈ big) (h : ws.all goodWord = true) : GoodIn big ws := fun w hw => ⟨hm w hw, good_of_word (List.all_eq_true.mp h w hw)⟩
/-! ===== END ===== -/

/-! ===== BEGIN printed: names, fields, word lists, decode rows ===== -/
def RX0 : String := "ProofChecker$Kind"
def TX0 : u_T := fun k => match k with
  | _ => ("", "", "", false)
def tyX0 : Nat → FieldType := fun k => match k with
  | _ => .int
abbrev wsX00 : List Cond := u_ws RX0 TX0 0
theorem nmX0 : ∀ a, a < 0 → ∀ b, b < 0 → a ≠ b → (TX0 a).2.1 ≠ (TX0 b).2.1 := by decide +kernel
theorem tyX0_ok : ∀ k, k < 0 → parseFieldDescriptor (TX0 k).2.2.1 = some (tyX0 k) := by decide +kernel
def RX1 : String := "ProofChecker$Letters"
def TX1 : u_T := fun k => match k with
  | _ => ("ProofChecker$Letters", "meanings", "[I", true)
def tyX1 : Nat → FieldType := fun k => match k with
  | _ => .array .int
abbrev wsX10 : List Cond := u_ws RX1 TX1 1
theorem nmX1 : ∀ a, a < 1 → ∀ b, b < 1 → a ≠ b → (TX1 a).2.1 ≠ (TX1 b).2.1 := by decide +kernel
theorem tyX1_ok : ∀ k, k < 1 → parseFieldDescriptor (TX1 k).2.2.1 = some (tyX1 k) := by decide +kernel
abbrev cX1_init : ByteArray := prog_3_method_1_code
def yX1_init : MethodName := ⟨RX1, "<init>", "()V"⟩
abbrev cX1_kindFor : ByteArray := prog_3_method_2_code
def yX1_kindFor : MethodName := ⟨RX1, "kindFor", "(C)I"⟩
abbrev cX1_forget : ByteArray := prog_3_method_3_code
def yX1_forget : MethodName := ⟨RX1, "forget", "()V"⟩
abbrev cX1_agree : ByteArray := prog_3_method_4_code
def yX1_agree : MethodName := ⟨RX1, "agree", "(CI)Z"⟩
abbrev cX1_meaning : ByteArray := prog_3_method_5_code
def yX1_meaning : MethodName := ⟨RX1, "meaning", "(C)I"⟩
def RX2 : String := "ProofChecker$Rows"
def TX2 : u_T := fun k => match k with
  | 0 => ("ProofChecker$Rows", "ruleNumbers", "[I", true)
  | 1 => ("ProofChecker$Rows", "instances", "[I", true)
  | 2 => ("ProofChecker$Rows", "premiseCounts", "[I", true)
  | 3 => ("ProofChecker$Rows", "premises", "[I", true)
  | _ => ("ProofChecker$Rows", "last", "I", false)
def tyX2 : Nat → FieldType := fun k => match k with
  | 0 => .array .int
  | 1 => .array .int
  | 2 => .array .int
  | 3 => .array .int
  | _ => .int
abbrev wsX20 : List Cond := u_ws RX2 TX2 5
theorem nmX2 : ∀ a, a < 5 → ∀ b, b < 5 → a ≠ b → (TX2 a).2.1 ≠ (TX2 b).2.1 := by decide +kernel
theorem tyX2_ok : ∀ k, k < 5 → parseFieldDescriptor (TX2 k).2.2.1 = some (tyX2 k) := by decide +kernel
abbrev cX2_init : ByteArray := prog_4_method_1_code
def yX2_init : MethodName := ⟨RX2, "<init>", "()V"⟩
abbrev cX2_has : ByteArray := prog_4_method_2_code
def yX2_has : MethodName := ⟨RX2, "has", "(I)Z"⟩
abbrev cX2_last : ByteArray := prog_4_method_3_code
def yX2_last : MethodName := ⟨RX2, "last", "()I"⟩
abbrev cX2_ruleNumber : ByteArray := prog_4_method_4_code
def yX2_ruleNumber : MethodName := ⟨RX2, "ruleNumber", "(I)I"⟩
abbrev cX2_instance : ByteArray := prog_4_method_5_code
def yX2_instance : MethodName := ⟨RX2, "instance", "(I)I"⟩
abbrev cX2_premiseCount : ByteArray := prog_4_method_6_code
def yX2_premiseCount : MethodName := ⟨RX2, "premiseCount", "(I)I"⟩
abbrev cX2_premiseAt : ByteArray := prog_4_method_7_code
def yX2_premiseAt : MethodName := ⟨RX2, "premiseAt", "(II)I"⟩
abbrev cX2_lay : ByteArray := prog_4_method_8_code
def yX2_lay : MethodName := ⟨RX2, "lay", "(II)I"⟩
abbrev cX2_addPremise : ByteArray := prog_4_method_9_code
def yX2_addPremise : MethodName := ⟨RX2, "addPremise", "(II)V"⟩
abbrev cX2_move : ByteArray := prog_4_method_10_code
def yX2_move : MethodName := ⟨RX2, "move", "(II[I)V"⟩
abbrev cX2_keepOnly : ByteArray := prog_4_method_11_code
def yX2_keepOnly : MethodName := ⟨RX2, "keepOnly", "(I)V"⟩
def RX3 : String := "ProofChecker$Rule"
def TX3 : u_T := fun k => match k with
  | _ => ("", "", "", false)
def tyX3 : Nat → FieldType := fun k => match k with
  | _ => .int
abbrev wsX30 : List Cond := u_ws RX3 TX3 0
theorem nmX3 : ∀ a, a < 0 → ∀ b, b < 0 → a ≠ b → (TX3 a).2.1 ≠ (TX3 b).2.1 := by decide +kernel
theorem tyX3_ok : ∀ k, k < 0 → parseFieldDescriptor (TX3 k).2.2.1 = some (tyX3 k) := by decide +kernel
abbrev cX3_takes : ByteArray := prog_5_method_4_code
def yX3_takes : MethodName := ⟨RX3, "takes", "()I"⟩
def RX4 : String := "ProofChecker$Statements"
def TX4 : u_T := fun k => match k with
  | 0 => ("ProofChecker$Statements", "kinds", "[I", true)
  | 1 => ("ProofChecker$Statements", "numbers", "[I", true)
  | _ => ("ProofChecker$Statements", "count", "I", false)
def tyX4 : Nat → FieldType := fun k => match k with
  | 0 => .array .int
  | 1 => .array .int
  | _ => .int
abbrev wsX40 : List Cond := u_ws RX4 TX4 3
theorem nmX4 : ∀ a, a < 3 → ∀ b, b < 3 → a ≠ b → (TX4 a).2.1 ≠ (TX4 b).2.1 := by decide +kernel
theorem tyX4_ok : ∀ k, k < 3 → parseFieldDescriptor (TX4 k).2.2.1 = some (tyX4 k) := by decide +kernel
abbrev cX4_init : ByteArray := prog_6_method_1_code
def yX4_init : MethodName := ⟨RX4, "<init>", "(I)V"⟩
abbrev cX4_has : ByteArray := prog_6_method_2_code
def yX4_has : MethodName := ⟨RX4, "has", "(I)Z"⟩
abbrev cX4_kind : ByteArray := prog_6_method_3_code
def yX4_kind : MethodName := ⟨RX4, "kind", "(I)I"⟩
abbrev cX4_number : ByteArray := prog_6_method_4_code
def yX4_number : MethodName := ⟨RX4, "number", "(II)I"⟩
abbrev cX4_add : ByteArray := prog_6_method_5_code
def yX4_add : MethodName := ⟨RX4, "add", "(IIII)I"⟩
abbrev cX4_find : ByteArray := prog_6_method_6_code
def yX4_find : MethodName := ⟨RX4, "find", "(IIII)I"⟩
abbrev cX4_isSame : ByteArray := prog_6_method_7_code
def yX4_isSame : MethodName := ⟨RX4, "isSame", "(ILProofChecker$Statements;I)Z"⟩
abbrev cX4_is : ByteArray := prog_6_method_8_code
def yX4_is : MethodName := ⟨RX4, "is", "(IIIII)Z"⟩
abbrev cX4_put : ByteArray := prog_6_method_9_code
def yX4_put : MethodName := ⟨RX4, "put", "(ILProofChecker$Statements;I)V"⟩
abbrev cX4_put_ : ByteArray := prog_6_method_10_code
def yX4_put_ : MethodName := ⟨RX4, "put", "(IIIII)V"⟩
abbrev cX4_clear : ByteArray := prog_6_method_11_code
def yX4_clear : MethodName := ⟨RX4, "clear", "(I)V"⟩
def RX5 : String := "ProofChecker"
def TX5 : u_T := fun k => match k with
  | 0 => ("ProofChecker", "axioms", "LProofChecker$Statements;", true)
  | 1 => ("ProofChecker", "triples", "LProofChecker$Statements;", true)
  | 2 => ("ProofChecker", "laid", "LProofChecker$Rows;", true)
  | 3 => ("ProofChecker", "stated", "LProofChecker$Statements;", true)
  | 4 => ("ProofChecker", "letters", "LProofChecker$Letters;", true)
  | 5 => ("ProofChecker", "told", "Ljava/lang/StringBuilder;", true)
  | 6 => ("ProofChecker", "needed", "[Z", true)
  | 7 => ("ProofChecker", "reckoned", "[I", true)
  | _ => ("ProofChecker", "broken", "I", false)
def tyX5 : Nat → FieldType := fun k => match k with
  | 0 => .object "ProofChecker$Statements"
  | 1 => .object "ProofChecker$Statements"
  | 2 => .object "ProofChecker$Rows"
  | 3 => .object "ProofChecker$Statements"
  | 4 => .object "ProofChecker$Letters"
  | 5 => .object "java/lang/StringBuilder"
  | 6 => .array .boolean
  | 7 => .array .int
  | _ => .int
abbrev wsX50 : List Cond := u_ws RX5 TX5 9
theorem nmX5 : ∀ a, a < 9 → ∀ b, b < 9 → a ≠ b → (TX5 a).2.1 ≠ (TX5 b).2.1 := by decide +kernel
theorem tyX5_ok : ∀ k, k < 9 → parseFieldDescriptor (TX5 k).2.2.1 = some (tyX5 k) := by decide +kernel
abbrev cX5_init : ByteArray := prog_1_method_1_code
def yX5_init : MethodName := ⟨RX5, "<init>", "()V"⟩
abbrev cX5_axiom : ByteArray := prog_1_method_2_code
def yX5_axiom : MethodName := ⟨RX5, "axiom", "(III)I"⟩
abbrev cX5_triple : ByteArray := prog_1_method_3_code
def yX5_triple : MethodName := ⟨RX5, "triple", "(III)I"⟩
abbrev cX5_row : ByteArray := prog_1_method_4_code
def yX5_row : MethodName := ⟨RX5, "row", "(III)I"⟩
abbrev cX5_premise : ByteArray := prog_1_method_5_code
def yX5_premise : MethodName := ⟨RX5, "premise", "(II)I"⟩
abbrev cX5_check : ByteArray := prog_1_method_6_code
def yX5_check : MethodName := ⟨RX5, "check", "(I)I"⟩
abbrev cX5_broken : ByteArray := prog_1_method_7_code
def yX5_broken : MethodName := ⟨RX5, "broken", "()I"⟩
abbrev cX5_rows : ByteArray := prog_1_method_8_code
def yX5_rows : MethodName := ⟨RX5, "rows", "(I)I"⟩
abbrev cX5_size : ByteArray := prog_1_method_9_code
def yX5_size : MethodName := ⟨RX5, "size", "(I)I"⟩
abbrev cX5_drop : ByteArray := prog_1_method_10_code
def yX5_drop : MethodName := ⟨RX5, "drop", "(I)I"⟩
abbrev cX5_name : ByteArray := prog_1_method_11_code
def yX5_name : MethodName := ⟨RX5, "name", "(I)I"⟩
abbrev cX5_states : ByteArray := prog_1_method_12_code
def yX5_states : MethodName := ⟨RX5, "states", "(II)I"⟩
abbrev cX5_sentence : ByteArray := prog_1_method_13_code
def yX5_sentence : MethodName := ⟨RX5, "sentence", "(I)I"⟩
abbrev cX5_at : ByteArray := prog_1_method_14_code
def yX5_at : MethodName := ⟨RX5, "at", "(I)I"⟩
abbrev cX5_concludes : ByteArray := prog_1_method_15_code
def yX5_concludes : MethodName := ⟨RX5, "concludes", "(II)Z"⟩
abbrev cX5_isTerm : ByteArray := prog_1_method_16_code
def yX5_isTerm : MethodName := ⟨RX5, "isTerm", "(I)Z"⟩
abbrev cX5_ruleNumbered : ByteArray := prog_1_method_17_code
def yX5_ruleNumbered : MethodName := ⟨RX5, "ruleNumbered", "(I)LProofChecker$Rule;"⟩
abbrev cX5_ruleOf : ByteArray := prog_1_method_18_code
def yX5_ruleOf : MethodName := ⟨RX5, "ruleOf", "(I)LProofChecker$Rule;"⟩
abbrev cX5_isInstance : ByteArray := prog_1_method_19_code
def yX5_isInstance : MethodName := ⟨RX5, "isInstance", "(LProofChecker$Rule;I)Z"⟩
abbrev cX5_derive : ByteArray := prog_1_method_20_code
def yX5_derive : MethodName := ⟨RX5, "derive", "(I)V"⟩
abbrev cX5_fits : ByteArray := prog_1_method_21_code
def yX5_fits : MethodName := ⟨RX5, "fits", "(ILProofChecker$Rule;)Z"⟩
abbrev cX5_isAsTold : ByteArray := prog_1_method_22_code
def yX5_isAsTold : MethodName := ⟨RX5, "isAsTold", "(ILjava/lang/String;I)Z"⟩
abbrev cX5_conclude : ByteArray := prog_1_method_23_code
def yX5_conclude : MethodName := ⟨RX5, "conclude", "(ILProofChecker$Rule;)V"⟩
abbrev cX5_signAt : ByteArray := prog_1_method_24_code
def yX5_signAt : MethodName := ⟨RX5, "signAt", "(Ljava/lang/String;I)C"⟩
abbrev cX5_markProof : ByteArray := prog_1_method_25_code
def yX5_markProof : MethodName := ⟨RX5, "markProof", "(I)V"⟩
abbrev cX5_leastBroken : ByteArray := prog_1_method_26_code
def yX5_leastBroken : MethodName := ⟨RX5, "leastBroken", "(I)I"⟩
abbrev cX5_sizeAbovePremises : ByteArray := prog_1_method_27_code
def yX5_sizeAbovePremises : MethodName := ⟨RX5, "sizeAbovePremises", "(I)I"⟩
abbrev cX5_tellStatement : ByteArray := prog_1_method_28_code
def yX5_tellStatement : MethodName := ⟨RX5, "tellStatement", "(I)V"⟩
abbrev cX5_wordingFor : ByteArray := prog_1_method_29_code
def yX5_wordingFor : MethodName := ⟨RX5, "wordingFor", "(I)Ljava/lang/String;"⟩
abbrev cX5_tellPremises : ByteArray := prog_1_method_30_code
def yX5_tellPremises : MethodName := ⟨RX5, "tellPremises", "(I)V"⟩
def RX6 : String := "ProofCheckerModel"
def TX6 : u_T := fun k => match k with
  | 0 => ("ProofCheckerModel", "phrases", "[J", true)
  | 1 => ("ProofCheckerModel", "axioms", "[I", true)
  | 2 => ("ProofCheckerModel", "axiomCount", "I", false)
  | 3 => ("ProofCheckerModel", "triples", "[I", true)
  | 4 => ("ProofCheckerModel", "tripleCount", "I", false)
  | 5 => ("ProofCheckerModel", "rules", "[I", true)
  | 6 => ("ProofCheckerModel", "instances", "[I", true)
  | 7 => ("ProofCheckerModel", "counts", "[I", true)
  | 8 => ("ProofCheckerModel", "premises", "[I", true)
  | 9 => ("ProofCheckerModel", "rows", "I", false)
  | 10 => ("ProofCheckerModel", "stated", "[I", true)
  | 11 => ("ProofCheckerModel", "marks", "[Z", true)
  | 12 => ("ProofCheckerModel", "broken", "I", false)
  | 13 => ("ProofCheckerModel", "text", "[I", true)
  | 14 => ("ProofCheckerModel", "size", "I", false)
  | 15 => ("ProofCheckerModel", "sizes", "[I", true)
  | _ => ("ProofCheckerModel", "places", "[I", true)
def tyX6 : Nat → FieldType := fun k => match k with
  | 0 => .array .long
  | 1 => .array .int
  | 2 => .int
  | 3 => .array .int
  | 4 => .int
  | 5 => .array .int
  | 6 => .array .int
  | 7 => .array .int
  | 8 => .array .int
  | 9 => .int
  | 10 => .array .int
  | 11 => .array .boolean
  | 12 => .int
  | 13 => .array .int
  | 14 => .int
  | 15 => .array .int
  | _ => .array .int
abbrev wsX60 : List Cond := u_ws RX6 TX6 17
theorem nmX6 : ∀ a, a < 17 → ∀ b, b < 17 → a ≠ b → (TX6 a).2.1 ≠ (TX6 b).2.1 := by decide +kernel
theorem tyX6_ok : ∀ k, k < 17 → parseFieldDescriptor (TX6 k).2.2.1 = some (tyX6 k) := by decide +kernel
abbrev cX6_init : ByteArray := prog_8_method_1_code
def yX6_init : MethodName := ⟨RX6, "<init>", "()V"⟩
abbrev cX6_isTerm : ByteArray := prog_8_method_2_code
def yX6_isTerm : MethodName := ⟨RX6, "isTerm", "(I)Z"⟩
abbrev cX6_axiom : ByteArray := prog_8_method_3_code
def yX6_axiom : MethodName := ⟨RX6, "axiom", "(III)I"⟩
abbrev cX6_triple : ByteArray := prog_8_method_4_code
def yX6_triple : MethodName := ⟨RX6, "triple", "(III)I"⟩
abbrev cX6_takes : ByteArray := prog_8_method_5_code
def yX6_takes : MethodName := ⟨RX6, "takes", "(I)I"⟩
abbrev cX6_isRow : ByteArray := prog_8_method_6_code
def yX6_isRow : MethodName := ⟨RX6, "isRow", "(I)Z"⟩
abbrev cX6_isInstance : ByteArray := prog_8_method_7_code
def yX6_isInstance : MethodName := ⟨RX6, "isInstance", "(II)Z"⟩
abbrev cX6_row : ByteArray := prog_8_method_8_code
def yX6_row : MethodName := ⟨RX6, "row", "(III)I"⟩
abbrev cX6_lay : ByteArray := prog_8_method_9_code
def yX6_lay : MethodName := ⟨RX6, "lay", "(II)V"⟩
abbrev cX6_premise : ByteArray := prog_8_method_10_code
def yX6_premise : MethodName := ⟨RX6, "premise", "(II)I"⟩
abbrev cX6_kindOf : ByteArray := prog_8_method_11_code
def yX6_kindOf : MethodName := ⟨RX6, "kindOf", "(I)I"⟩
abbrev cX6_of : ByteArray := prog_8_method_12_code
def yX6_of : MethodName := ⟨RX6, "of", "(III)I"⟩
abbrev cX6_is : ByteArray := prog_8_method_13_code
def yX6_is : MethodName := ⟨RX6, "is", "(III)Z"⟩
abbrev cX6_state : ByteArray := prog_8_method_14_code
def yX6_state : MethodName := ⟨RX6, "state", "(IIIII)V"⟩
abbrev cX6_copy : ByteArray := prog_8_method_15_code
def yX6_copy : MethodName := ⟨RX6, "copy", "([III)V"⟩
abbrev cX6_work : ByteArray := prog_8_method_16_code
def yX6_work : MethodName := ⟨RX6, "work", "(I)V"⟩
abbrev cX6_single : ByteArray := prog_8_method_17_code
def yX6_single : MethodName := ⟨RX6, "single", "(I)V"⟩
abbrev cX6_chain : ByteArray := prog_8_method_18_code
def yX6_chain : MethodName := ⟨RX6, "chain", "(I)V"⟩
abbrev cX6_three : ByteArray := prog_8_method_19_code
def yX6_three : MethodName := ⟨RX6, "three", "(IIII)V"⟩
abbrev cX6_mark : ByteArray := prog_8_method_20_code
def yX6_mark : MethodName := ⟨RX6, "mark", "(I)I"⟩
abbrev cX6_check : ByteArray := prog_8_method_21_code
def yX6_check : MethodName := ⟨RX6, "check", "(I)I"⟩
abbrev cX6_broken : ByteArray := prog_8_method_22_code
def yX6_broken : MethodName := ⟨RX6, "broken", "()I"⟩
abbrev cX6_rows : ByteArray := prog_8_method_23_code
def yX6_rows : MethodName := ⟨RX6, "rows", "(I)I"⟩
abbrev cX6_size : ByteArray := prog_8_method_24_code
def yX6_size : MethodName := ⟨RX6, "size", "(I)I"⟩
abbrev cX6_drop : ByteArray := prog_8_method_25_code
def yX6_drop : MethodName := ⟨RX6, "drop", "(I)I"⟩
abbrev cX6_name : ByteArray := prog_8_method_26_code
def yX6_name : MethodName := ⟨RX6, "name", "(I)I"⟩
abbrev cX6_states : ByteArray := prog_8_method_27_code
def yX6_states : MethodName := ⟨RX6, "states", "(II)I"⟩
abbrev cX6_concludes : ByteArray := prog_8_method_28_code
def yX6_concludes : MethodName := ⟨RX6, "concludes", "(II)Z"⟩
abbrev cX6_put : ByteArray := prog_8_method_29_code
def yX6_put : MethodName := ⟨RX6, "put", "(I)V"⟩
abbrev cX6_number : ByteArray := prog_8_method_30_code
def yX6_number : MethodName := ⟨RX6, "number", "(I)V"⟩
abbrev cX6_wordOf : ByteArray := prog_8_method_31_code
def yX6_wordOf : MethodName := ⟨RX6, "wordOf", "(I)I"⟩
abbrev cX6_statement : ByteArray := prog_8_method_32_code
def yX6_statement : MethodName := ⟨RX6, "statement", "(IIII)V"⟩
abbrev cX6_sentence : ByteArray := prog_8_method_33_code
def yX6_sentence : MethodName := ⟨RX6, "sentence", "(I)I"⟩
abbrev cX6_at : ByteArray := prog_8_method_34_code
def yX6_at : MethodName := ⟨RX6, "at", "(I)I"⟩
def RJx145de : String := "java/io/Serializable"
def TJx145de : u_T := fun k => match k with
  | _ => ("", "", "", false)
def tyJx145de : Nat → FieldType := fun k => match k with
  | _ => .int
abbrev wsJx145de0 : List Cond := u_ws RJx145de TJx145de 0
theorem nmJx145de : ∀ a, a < 0 → ∀ b, b < 0 → a ≠ b → (TJx145de a).2.1 ≠ (TJx145de b).2.1 := by decide +kernel
theorem tyJx145de_ok : ∀ k, k < 0 → parseFieldDescriptor (TJx145de k).2.2.1 = some (tyJx145de k) := by decide +kernel
def RJ5 : String := "java/lang/AbstractStringBuilder"
def TJ5 : u_T := fun k => match k with
  | _ => ("", "", "", false)
def tyJ5 : Nat → FieldType := fun k => match k with
  | _ => .int
abbrev wsJ50 : List Cond := u_ws RJ5 TJ5 0
theorem nmJ5 : ∀ a, a < 0 → ∀ b, b < 0 → a ≠ b → (TJ5 a).2.1 ≠ (TJ5 b).2.1 := by decide +kernel
theorem tyJ5_ok : ∀ k, k < 0 → parseFieldDescriptor (TJ5 k).2.2.1 = some (tyJ5 k) := by decide +kernel
abbrev cJ5_init_d00df : ByteArray := prog_9_method_2_code
def yJ5_init_d00df : MethodName := ⟨RJ5, "<init>", "(I)V"⟩
abbrev cJ5_length_8abf5 : ByteArray := prog_9_method_6_code
def yJ5_length_8abf5 : MethodName := ⟨RJ5, "length", "()I"⟩
abbrev cJ5_ensureCapacityInternal_d00df : ByteArray := prog_9_method_9_code
def yJ5_ensureCapacityInternal_d00df : MethodName := ⟨RJ5, "ensureCapacityInternal", "(I)V"⟩
abbrev cJ5_newCapacity_0f7a4 : ByteArray := prog_9_method_10_code
def yJ5_newCapacity_0f7a4 : MethodName := ⟨RJ5, "newCapacity", "(I)I"⟩
abbrev cJ5_inflate_da8c8 : ByteArray := prog_9_method_11_code
def yJ5_inflate_da8c8 : MethodName := ⟨RJ5, "inflate", "()V"⟩
abbrev cJ5_setLength_d00df : ByteArray := prog_9_method_13_code
def yJ5_setLength_d00df : MethodName := ⟨RJ5, "setLength", "(I)V"⟩
abbrev cJ5_charAt_5068e : ByteArray := prog_9_method_14_code
def yJ5_charAt_5068e : MethodName := ⟨RJ5, "charAt", "(I)C"⟩
abbrev cJ5_append_cf1ce : ByteArray := prog_9_method_22_code
def yJ5_append_cf1ce : MethodName := ⟨RJ5, "append", "(Ljava/lang/String;)Ljava/lang/AbstractStringBuilder;"⟩
abbrev cJ5_appendNull_278bc : ByteArray := prog_9_method_26_code
def yJ5_appendNull_278bc : MethodName := ⟨RJ5, "appendNull", "()Ljava/lang/AbstractStringBuilder;"⟩
abbrev cJ5_append_3fe6f : ByteArray := prog_9_method_31_code
def yJ5_append_3fe6f : MethodName := ⟨RJ5, "append", "(C)Ljava/lang/AbstractStringBuilder;"⟩
abbrev cJ5_append_c97b9 : ByteArray := prog_9_method_32_code
def yJ5_append_c97b9 : MethodName := ⟨RJ5, "append", "(I)Ljava/lang/AbstractStringBuilder;"⟩
abbrev cJ5_isLatin1_aae02 : ByteArray := prog_9_method_68_code
def yJ5_isLatin1_aae02 : MethodName := ⟨RJ5, "isLatin1", "()Z"⟩
abbrev cJ5_inflateIfNeededFor_a7421 : ByteArray := prog_9_method_71_code
def yJ5_inflateIfNeededFor_a7421 : MethodName := ⟨RJ5, "inflateIfNeededFor", "(Ljava/lang/String;)V"⟩
abbrev cJ5_putStringAt_47b60 : ByteArray := prog_9_method_73_code
def yJ5_putStringAt_47b60 : MethodName := ⟨RJ5, "putStringAt", "(ILjava/lang/String;)V"⟩
def RJx2cfe8 : String := "java/lang/Appendable"
def TJx2cfe8 : u_T := fun k => match k with
  | _ => ("", "", "", false)
def tyJx2cfe8 : Nat → FieldType := fun k => match k with
  | _ => .int
abbrev wsJx2cfe80 : List Cond := u_ws RJx2cfe8 TJx2cfe8 0
theorem nmJx2cfe8 : ∀ a, a < 0 → ∀ b, b < 0 → a ≠ b → (TJx2cfe8 a).2.1 ≠ (TJx2cfe8 b).2.1 := by decide +kernel
theorem tyJx2cfe8_ok : ∀ k, k < 0 → parseFieldDescriptor (TJx2cfe8 k).2.2.1 = some (tyJx2cfe8 k) := by decide +kernel
def RJx9f9b0 : String := "java/lang/CharSequence"
def TJx9f9b0 : u_T := fun k => match k with
  | _ => ("", "", "", false)
def tyJx9f9b0 : Nat → FieldType := fun k => match k with
  | _ => .int
abbrev wsJx9f9b00 : List Cond := u_ws RJx9f9b0 TJx9f9b0 0
theorem nmJx9f9b0 : ∀ a, a < 0 → ∀ b, b < 0 → a ≠ b → (TJx9f9b0 a).2.1 ≠ (TJx9f9b0 b).2.1 := by decide +kernel
theorem tyJx9f9b0_ok : ∀ k, k < 0 → parseFieldDescriptor (TJx9f9b0 k).2.2.1 = some (tyJx9f9b0 k) := by decide +kernel
def RJx8e188 : String := "java/lang/Cloneable"
def TJx8e188 : u_T := fun k => match k with
  | _ => ("", "", "", false)
def tyJx8e188 : Nat → FieldType := fun k => match k with
  | _ => .int
abbrev wsJx8e1880 : List Cond := u_ws RJx8e188 TJx8e188 0
theorem nmJx8e188 : ∀ a, a < 0 → ∀ b, b < 0 → a ≠ b → (TJx8e188 a).2.1 ≠ (TJx8e188 b).2.1 := by decide +kernel
theorem tyJx8e188_ok : ∀ k, k < 0 → parseFieldDescriptor (TJx8e188 k).2.2.1 = some (tyJx8e188 k) := by decide +kernel
def RJxb160c : String := "java/lang/Comparable"
def TJxb160c : u_T := fun k => match k with
  | _ => ("", "", "", false)
def tyJxb160c : Nat → FieldType := fun k => match k with
  | _ => .int
abbrev wsJxb160c0 : List Cond := u_ws RJxb160c TJxb160c 0
theorem nmJxb160c : ∀ a, a < 0 → ∀ b, b < 0 → a ≠ b → (TJxb160c a).2.1 ≠ (TJxb160c b).2.1 := by decide +kernel
theorem tyJxb160c_ok : ∀ k, k < 0 → parseFieldDescriptor (TJxb160c k).2.2.1 = some (tyJxb160c k) := by decide +kernel
def RJx29ce0 : String := "java/lang/Enum"
def TJx29ce0 : u_T := fun k => match k with
  | _ => ("", "", "", false)
def tyJx29ce0 : Nat → FieldType := fun k => match k with
  | _ => .int
abbrev wsJx29ce00 : List Cond := u_ws RJx29ce0 TJx29ce0 0
theorem nmJx29ce0 : ∀ a, a < 0 → ∀ b, b < 0 → a ≠ b → (TJx29ce0 a).2.1 ≠ (TJx29ce0 b).2.1 := by decide +kernel
theorem tyJx29ce0_ok : ∀ k, k < 0 → parseFieldDescriptor (TJx29ce0 k).2.2.1 = some (tyJx29ce0 k) := by decide +kernel
def RJ6 : String := "java/lang/Integer"
def TJ6 : u_T := fun k => match k with
  | _ => ("", "", "", false)
def tyJ6 : Nat → FieldType := fun k => match k with
  | _ => .int
abbrev wsJ60 : List Cond := u_ws RJ6 TJ6 0
theorem nmJ6 : ∀ a, a < 0 → ∀ b, b < 0 → a ≠ b → (TJ6 a).2.1 ≠ (TJ6 b).2.1 := by decide +kernel
theorem tyJ6_ok : ∀ k, k < 0 → parseFieldDescriptor (TJ6 k).2.2.1 = some (tyJ6 k) := by decide +kernel
abbrev cJ6_getChars_ba4f3 : ByteArray := prog_12_method_12_code
def yJ6_getChars_ba4f3 : MethodName := ⟨RJ6, "getChars", "(II[B)I"⟩
abbrev cJ6_stringSize_0f7a4 : ByteArray := prog_12_method_13_code
def yJ6_stringSize_0f7a4 : MethodName := ⟨RJ6, "stringSize", "(I)I"⟩
def RJ9 : String := "java/lang/Math"
def TJ9 : u_T := fun k => match k with
  | _ => ("", "", "", false)
def tyJ9 : Nat → FieldType := fun k => match k with
  | _ => .int
abbrev wsJ90 : List Cond := u_ws RJ9 TJ9 0
theorem nmJ9 : ∀ a, a < 0 → ∀ b, b < 0 → a ≠ b → (TJ9 a).2.1 ≠ (TJ9 b).2.1 := by decide +kernel
theorem tyJ9_ok : ∀ k, k < 0 → parseFieldDescriptor (TJ9 k).2.2.1 = some (tyJ9 k) := by decide +kernel
abbrev cJ9_max_7cf53 : ByteArray := prog_13_method_65_code
def yJ9_max_7cf53 : MethodName := ⟨RJ9, "max", "(II)I"⟩
abbrev cJ9_min_7cf53 : ByteArray := prog_13_method_69_code
def yJ9_min_7cf53 : MethodName := ⟨RJ9, "min", "(II)I"⟩
abbrev cJ9_min_f86c9 : ByteArray := prog_13_method_70_code
def yJ9_min_f86c9 : MethodName := ⟨RJ9, "min", "(JJ)J"⟩
def RJxd2413 : String := "java/lang/Number"
def TJxd2413 : u_T := fun k => match k with
  | _ => ("", "", "", false)
def tyJxd2413 : Nat → FieldType := fun k => match k with
  | _ => .int
abbrev wsJxd24130 : List Cond := u_ws RJxd2413 TJxd2413 0
theorem nmJxd2413 : ∀ a, a < 0 → ∀ b, b < 0 → a ≠ b → (TJxd2413 a).2.1 ≠ (TJxd2413 b).2.1 := by decide +kernel
theorem tyJxd2413_ok : ∀ k, k < 0 → parseFieldDescriptor (TJxd2413 k).2.2.1 = some (tyJxd2413 k) := by decide +kernel
def RJ0 : String := "java/lang/String"
def TJ0 : u_T := fun k => match k with
  | _ => ("", "", "", false)
def tyJ0 : Nat → FieldType := fun k => match k with
  | _ => .int
abbrev wsJ00 : List Cond := u_ws RJ0 TJ0 0
theorem nmJ0 : ∀ a, a < 0 → ∀ b, b < 0 → a ≠ b → (TJ0 a).2.1 ≠ (TJ0 b).2.1 := by decide +kernel
theorem tyJ0_ok : ∀ k, k < 0 → parseFieldDescriptor (TJ0 k).2.2.1 = some (tyJ0 k) := by decide +kernel
abbrev cJ0_length_8abf5 : ByteArray := prog_15_method_54_code
def yJ0_length_8abf5 : MethodName := ⟨RJ0, "length", "()I"⟩
abbrev cJ0_charAt_5068e : ByteArray := prog_15_method_56_code
def yJ0_charAt_5068e : MethodName := ⟨RJ0, "charAt", "(I)C"⟩
abbrev cJ0_getBytes_840e7 : ByteArray := prog_15_method_147_code
def yJ0_getBytes_840e7 : MethodName := ⟨RJ0, "getBytes", "([BIB)V"⟩
abbrev cJ0_coder_7d493 : ByteArray := prog_15_method_152_code
def yJ0_coder_7d493 : MethodName := ⟨RJ0, "coder", "()B"⟩
abbrev cJ0_isLatin1_aae02 : ByteArray := prog_15_method_154_code
def yJ0_isLatin1_aae02 : MethodName := ⟨RJ0, "isLatin1", "()Z"⟩
abbrev cJ0_checkIndex_df160 : ByteArray := prog_15_method_155_code
def yJ0_checkIndex_df160 : MethodName := ⟨RJ0, "checkIndex", "(II)V"⟩
abbrev cJ0_checkBoundsOffCount_cabcc : ByteArray := prog_15_method_157_code
def yJ0_checkBoundsOffCount_cabcc : MethodName := ⟨RJ0, "checkBoundsOffCount", "(III)I"⟩
abbrev cJ0_checkBoundsBeginEnd_23922 : ByteArray := prog_15_method_158_code
def yJ0_checkBoundsBeginEnd_23922 : MethodName := ⟨RJ0, "checkBoundsBeginEnd", "(III)V"⟩
def RJ4 : String := "java/lang/StringBuilder"
def TJ4 : u_T := fun k => match k with
  | 0 => ("java/lang/AbstractStringBuilder", "value", "[B", false)
  | 1 => ("java/lang/AbstractStringBuilder", "coder", "B", false)
  | 2 => ("java/lang/AbstractStringBuilder", "maybeLatin1", "Z", false)
  | _ => ("java/lang/AbstractStringBuilder", "count", "I", false)
def tyJ4 : Nat → FieldType := fun k => match k with
  | 0 => .array .byte
  | 1 => .byte
  | 2 => .boolean
  | _ => .int
abbrev wsJ40 : List Cond := u_ws RJ4 TJ4 4
theorem nmJ4 : ∀ a, a < 4 → ∀ b, b < 4 → a ≠ b → (TJ4 a).2.1 ≠ (TJ4 b).2.1 := by decide +kernel
theorem tyJ4_ok : ∀ k, k < 4 → parseFieldDescriptor (TJ4 k).2.2.1 = some (tyJ4 k) := by decide +kernel
abbrev cJ4_init_da8c8 : ByteArray := prog_16_method_1_code
def yJ4_init_da8c8 : MethodName := ⟨RJ4, "<init>", "()V"⟩
abbrev cJ4_append_15ec4 : ByteArray := prog_16_method_7_code
def yJ4_append_15ec4 : MethodName := ⟨RJ4, "append", "(Ljava/lang/String;)Ljava/lang/StringBuilder;"⟩
abbrev cJ4_append_cf468 : ByteArray := prog_16_method_14_code
def yJ4_append_cf468 : MethodName := ⟨RJ4, "append", "(C)Ljava/lang/StringBuilder;"⟩
abbrev cJ4_append_bf812 : ByteArray := prog_16_method_15_code
def yJ4_append_bf812 : MethodName := ⟨RJ4, "append", "(I)Ljava/lang/StringBuilder;"⟩
abbrev cJ4_charAt_5068e : ByteArray := prog_16_method_88_code
def yJ4_charAt_5068e : MethodName := ⟨RJ4, "charAt", "(I)C"⟩
abbrev cJ4_setLength_d00df : ByteArray := prog_16_method_89_code
def yJ4_setLength_d00df : MethodName := ⟨RJ4, "setLength", "(I)V"⟩
abbrev cJ4_length_8abf5 : ByteArray := prog_16_method_93_code
def yJ4_length_8abf5 : MethodName := ⟨RJ4, "length", "()I"⟩
def RJ1 : String := "java/lang/StringLatin1"
def TJ1 : u_T := fun k => match k with
  | _ => ("", "", "", false)
def tyJ1 : Nat → FieldType := fun k => match k with
  | _ => .int
abbrev wsJ10 : List Cond := u_ws RJ1 TJ1 0
theorem nmJ1 : ∀ a, a < 0 → ∀ b, b < 0 → a ≠ b → (TJ1 a).2.1 ≠ (TJ1 b).2.1 := by decide +kernel
theorem tyJ1_ok : ∀ k, k < 0 → parseFieldDescriptor (TJ1 k).2.2.1 = some (tyJ1 k) := by decide +kernel
abbrev cJ1_charAt_3b067 : ByteArray := prog_17_method_2_code
def yJ1_charAt_3b067 : MethodName := ⟨RJ1, "charAt", "([BI)C"⟩
abbrev cJ1_canEncode_fc78d : ByteArray := prog_17_method_3_code
def yJ1_canEncode_fc78d : MethodName := ⟨RJ1, "canEncode", "(C)Z"⟩
abbrev cJ1_fillNull_b72d1 : ByteArray := prog_17_method_48_code
def yJ1_fillNull_b72d1 : MethodName := ⟨RJ1, "fillNull", "([BII)V"⟩
abbrev cJ1_inflate_0e8fd : ByteArray := prog_17_method_50_code
def yJ1_inflate_0e8fd : MethodName := ⟨RJ1, "inflate", "([BI[BII)V"⟩
def RJ2 : String := "java/lang/StringUTF16"
def TJ2 : u_T := fun k => match k with
  | _ => ("", "", "", false)
def tyJ2 : Nat → FieldType := fun k => match k with
  | _ => .int
abbrev wsJ20 : List Cond := u_ws RJ2 TJ2 0
theorem nmJ2 : ∀ a, a < 0 → ∀ b, b < 0 → a ≠ b → (TJ2 a).2.1 ≠ (TJ2 b).2.1 := by decide +kernel
theorem tyJ2_ok : ∀ k, k < 0 → parseFieldDescriptor (TJ2 k).2.2.1 = some (tyJ2 k) := by decide +kernel
abbrev cJ2_newBytesFor_77867 : ByteArray := prog_18_method_2_code
def yJ2_newBytesFor_77867 : MethodName := ⟨RJ2, "newBytesFor", "(I)[B"⟩
abbrev cJ2_newBytesLength_0f7a4 : ByteArray := prog_18_method_3_code
def yJ2_newBytesLength_0f7a4 : MethodName := ⟨RJ2, "newBytesLength", "(I)I"⟩
abbrev cJ2_putChar_b72d1 : ByteArray := prog_18_method_4_code
def yJ2_putChar_b72d1 : MethodName := ⟨RJ2, "putChar", "([BII)V"⟩
abbrev cJ2_getChar_3b067 : ByteArray := prog_18_method_5_code
def yJ2_getChar_3b067 : MethodName := ⟨RJ2, "getChar", "([BI)C"⟩
abbrev cJ2_length_9d52b : ByteArray := prog_18_method_6_code
def yJ2_length_9d52b : MethodName := ⟨RJ2, "length", "([B)I"⟩
abbrev cJ2_fillNull_b72d1 : ByteArray := prog_18_method_70_code
def yJ2_fillNull_b72d1 : MethodName := ⟨RJ2, "fillNull", "([BII)V"⟩
abbrev cJ2_putCharSB_b72d1 : ByteArray := prog_18_method_71_code
def yJ2_putCharSB_b72d1 : MethodName := ⟨RJ2, "putCharSB", "([BII)V"⟩
abbrev cJ2_getChars_46870 : ByteArray := prog_18_method_77_code
def yJ2_getChars_46870 : MethodName := ⟨RJ2, "getChars", "(III[B)I"⟩
abbrev cJ2_putCharsAt_cd4e5 : ByteArray := prog_18_method_81_code
def yJ2_putCharsAt_cd4e5 : MethodName := ⟨RJ2, "putCharsAt", "([BICCCC)I"⟩
abbrev cJ2_charAt_3b067 : ByteArray := prog_18_method_83_code
def yJ2_charAt_3b067 : MethodName := ⟨RJ2, "charAt", "([BI)C"⟩
abbrev cJ2_inflate_0e8fd : ByteArray := prog_18_method_86_code
def yJ2_inflate_0e8fd : MethodName := ⟨RJ2, "inflate", "([BI[BII)V"⟩
abbrev cJ2_getChars_ba4f3 : ByteArray := prog_18_method_89_code
def yJ2_getChars_ba4f3 : MethodName := ⟨RJ2, "getChars", "(II[B)I"⟩
abbrev cJ2_checkIndex_2214a : ByteArray := prog_18_method_91_code
def yJ2_checkIndex_2214a : MethodName := ⟨RJ2, "checkIndex", "(I[B)V"⟩
abbrev cJ2_checkBoundsBeginEnd_d044e : ByteArray := prog_18_method_93_code
def yJ2_checkBoundsBeginEnd_d044e : MethodName := ⟨RJ2, "checkBoundsBeginEnd", "(II[B)V"⟩
abbrev cJ2_checkBoundsOffCount_d044e : ByteArray := prog_18_method_94_code
def yJ2_checkBoundsOffCount_d044e : MethodName := ⟨RJ2, "checkBoundsOffCount", "(II[B)V"⟩
def RJ10 : String := "java/lang/System"
def TJ10 : u_T := fun k => match k with
  | _ => ("", "", "", false)
def tyJ10 : Nat → FieldType := fun k => match k with
  | _ => .int
abbrev wsJ100 : List Cond := u_ws RJ10 TJ10 0
theorem nmJ10 : ∀ a, a < 0 → ∀ b, b < 0 → a ≠ b → (TJ10 a).2.1 ≠ (TJ10 b).2.1 := by decide +kernel
theorem tyJ10_ok : ∀ k, k < 0 → parseFieldDescriptor (TJ10 k).2.2.1 = some (tyJ10 k) := by decide +kernel
def RJxfd54e : String := "java/lang/constant/Constable"
def TJxfd54e : u_T := fun k => match k with
  | _ => ("", "", "", false)
def tyJxfd54e : Nat → FieldType := fun k => match k with
  | _ => .int
abbrev wsJxfd54e0 : List Cond := u_ws RJxfd54e TJxfd54e 0
theorem nmJxfd54e : ∀ a, a < 0 → ∀ b, b < 0 → a ≠ b → (TJxfd54e a).2.1 ≠ (TJxfd54e b).2.1 := by decide +kernel
theorem tyJxfd54e_ok : ∀ k, k < 0 → parseFieldDescriptor (TJxfd54e k).2.2.1 = some (tyJxfd54e k) := by decide +kernel
def RJx3cf43 : String := "java/lang/constant/ConstantDesc"
def TJx3cf43 : u_T := fun k => match k with
  | _ => ("", "", "", false)
def tyJx3cf43 : Nat → FieldType := fun k => match k with
  | _ => .int
abbrev wsJx3cf430 : List Cond := u_ws RJx3cf43 TJx3cf43 0
theorem nmJx3cf43 : ∀ a, a < 0 → ∀ b, b < 0 → a ≠ b → (TJx3cf43 a).2.1 ≠ (TJx3cf43 b).2.1 := by decide +kernel
theorem tyJx3cf43_ok : ∀ k, k < 0 → parseFieldDescriptor (TJx3cf43 k).2.2.1 = some (tyJx3cf43 k) := by decide +kernel
def RJ7 : String := "java/util/Arrays"
def TJ7 : u_T := fun k => match k with
  | _ => ("", "", "", false)
def tyJ7 : Nat → FieldType := fun k => match k with
  | _ => .int
abbrev wsJ70 : List Cond := u_ws RJ7 TJ7 0
theorem nmJ7 : ∀ a, a < 0 → ∀ b, b < 0 → a ≠ b → (TJ7 a).2.1 ≠ (TJ7 b).2.1 := by decide +kernel
theorem tyJ7_ok : ∀ k, k < 0 → parseFieldDescriptor (TJ7 k).2.2.1 = some (tyJ7 k) := by decide +kernel
abbrev cJ7_rangeCheck_23922 : ByteArray := prog_20_method_30_code
def yJ7_rangeCheck_23922 : MethodName := ⟨RJ7, "rangeCheck", "(III)V"⟩
abbrev cJ7_fill_53178 : ByteArray := prog_20_method_103_code
def yJ7_fill_53178 : MethodName := ⟨RJ7, "fill", "([II)V"⟩
abbrev cJ7_fill_eb02e : ByteArray := prog_20_method_110_code
def yJ7_fill_eb02e : MethodName := ⟨RJ7, "fill", "([BIIB)V"⟩
abbrev cJ7_copyOf_9075b : ByteArray := prog_20_method_121_code
def yJ7_copyOf_9075b : MethodName := ⟨RJ7, "copyOf", "([BI)[B"⟩
def RJ8 : String := "jdk/internal/util/ArraysSupport"
def TJ8 : u_T := fun k => match k with
  | _ => ("", "", "", false)
def tyJ8 : Nat → FieldType := fun k => match k with
  | _ => .int
abbrev wsJ80 : List Cond := u_ws RJ8 TJ8 0
theorem nmJ8 : ∀ a, a < 0 → ∀ b, b < 0 → a ≠ b → (TJ8 a).2.1 ≠ (TJ8 b).2.1 := by decide +kernel
theorem tyJ8_ok : ∀ k, k < 0 → parseFieldDescriptor (TJ8 k).2.2.1 = some (tyJ8 k) := by decide +kernel
abbrev cJ8_newLength_cabcc : ByteArray := prog_21_method_27_code
def yJ8_newLength_cabcc : MethodName := ⟨RJ8, "newLength", "(III)I"⟩
abbrev cJ8_hugeLength_7cf53 : ByteArray := prog_21_method_28_code
def yJ8_hugeLength_7cf53 : MethodName := ⟨RJ8, "hugeLength", "(II)I"⟩
def RJ3 : String := "jdk/internal/util/Preconditions"
def TJ3 : u_T := fun k => match k with
  | _ => ("", "", "", false)
def tyJ3 : Nat → FieldType := fun k => match k with
  | _ => .int
abbrev wsJ30 : List Cond := u_ws RJ3 TJ3 0
theorem nmJ3 : ∀ a, a < 0 → ∀ b, b < 0 → a ≠ b → (TJ3 a).2.1 ≠ (TJ3 b).2.1 := by decide +kernel
theorem tyJ3_ok : ∀ k, k < 0 → parseFieldDescriptor (TJ3 k).2.2.1 = some (tyJ3 k) := by decide +kernel
abbrev cJ3_checkIndex_8e157 : ByteArray := prog_22_method_11_code
def yJ3_checkIndex_8e157 : MethodName := ⟨RJ3, "checkIndex", "(IILjava/util/function/BiFunction;)I"⟩
abbrev cJ3_checkFromToIndex_8c36e : ByteArray := prog_22_method_12_code
def yJ3_checkFromToIndex_8c36e : MethodName := ⟨RJ3, "checkFromToIndex", "(IIILjava/util/function/BiFunction;)I"⟩
abbrev cJ3_checkFromIndexSize_8c36e : ByteArray := prog_22_method_13_code
def yJ3_checkFromIndexSize_8c36e : MethodName := ⟨RJ3, "checkFromIndexSize", "(IIILjava/util/function/BiFunction;)I"⟩
def RL : String := "ProofCheckerLaw"
abbrev cL_law : ByteArray := code
def yL_law : MethodName := ⟨RL, "law", "([I)Z"⟩
def wsX1_init : List Cond := .code yX1_init cX1_init 1 none :: ([.methodLink RX1 1 objectInit, .instanceMethod objectInit, .code objectInit ⟨#[0xb1]⟩ 1 none, .arrayClass .int, .fieldLink RX1 7 "ProofChecker$Letters" "meanings" "[I"] ++ wsX10)
def wsX1_kindFor : List Cond := .code yX1_kindFor cX1_kindFor 1 (some .int) :: ([])
def wsJ7_fill_53178 : List Cond := .code yJ7_fill_53178 cJ7_fill_53178 4 none :: ([])
def wsX1_forget : List Cond := .code yX1_forget cX1_forget 1 none :: ([.fieldLink RX1 7 "ProofChecker$Letters" "meanings" "[I", .methodLink RX1 13 yJ7_fill_53178, .static yJ7_fill_53178, .initialized RJ7, .code yJ7_fill_53178 cJ7_fill_53178 4 none] ++ wsX10)
def wsX1_meaning : List Cond := .code yX1_meaning cX1_meaning 2 (some .int) :: ([.fieldLink RX1 7 "ProofChecker$Letters" "meanings" "[I"] ++ wsX10)
def wsX1_agree : List Cond := .code yX1_agree cX1_agree 3 (some .boolean) :: ([.fieldLink RX1 7 "ProofChecker$Letters" "meanings" "[I", .methodLink RX1 19 yX1_meaning, .instanceMethod yX1_meaning, .selects RX1 yX1_meaning yX1_meaning, .initialized RX1, .code yX1_meaning cX1_meaning 2 (some .int)] ++ wsX10)
def wsX2_init : List Cond := .code yX2_init cX2_init 1 none :: ([.methodLink RX2 3 objectInit, .instanceMethod objectInit, .code objectInit ⟨#[0xb1]⟩ 1 none, .arrayClass .int, .fieldLink RX2 9 "ProofChecker$Rows" "ruleNumbers" "[I", .fieldLink RX2 15 "ProofChecker$Rows" "instances" "[I", .fieldLink RX2 18 "ProofChecker$Rows" "premiseCounts" "[I", .fieldLink RX2 21 "ProofChecker$Rows" "premises" "[I", .fieldLink RX2 24 "ProofChecker$Rows" "last" "I"] ++ wsX20)
def wsX2_has : List Cond := .code yX2_has cX2_has 2 (some .boolean) :: ([.fieldLink RX2 24 "ProofChecker$Rows" "last" "I"] ++ wsX20)
def wsX2_last : List Cond := .code yX2_last cX2_last 1 (some .int) :: ([.fieldLink RX2 24 "ProofChecker$Rows" "last" "I"] ++ wsX20)
def wsX2_ruleNumber : List Cond := .code yX2_ruleNumber cX2_ruleNumber 2 (some .int) :: ([.fieldLink RX2 9 "ProofChecker$Rows" "ruleNumbers" "[I", .methodLink RX2 28 yX2_has, .instanceMethod yX2_has, .selects RX2 yX2_has yX2_has, .initialized RX2, .code yX2_has cX2_has 2 (some .boolean), .fieldLink RX2 24 "ProofChecker$Rows" "last" "I"] ++ wsX20)
def wsX2_instance : List Cond := .code yX2_instance cX2_instance 2 (some .int) :: ([.fieldLink RX2 15 "ProofChecker$Rows" "instances" "[I", .methodLink RX2 28 yX2_has, .instanceMethod yX2_has, .selects RX2 yX2_has yX2_has, .initialized RX2, .code yX2_has cX2_has 2 (some .boolean), .fieldLink RX2 24 "ProofChecker$Rows" "last" "I"] ++ wsX20)
def wsX2_premiseCount : List Cond := .code yX2_premiseCount cX2_premiseCount 2 (some .int) :: ([.fieldLink RX2 18 "ProofChecker$Rows" "premiseCounts" "[I", .methodLink RX2 28 yX2_has, .instanceMethod yX2_has, .selects RX2 yX2_has yX2_has, .initialized RX2, .code yX2_has cX2_has 2 (some .boolean), .fieldLink RX2 24 "ProofChecker$Rows" "last" "I"] ++ wsX20)
def wsX2_premiseAt : List Cond := .code yX2_premiseAt cX2_premiseAt 4 (some .int) :: ([.fieldLink RX2 21 "ProofChecker$Rows" "premises" "[I", .methodLink RX2 32 yX2_premiseCount, .instanceMethod yX2_premiseCount, .selects RX2 yX2_premiseCount yX2_premiseCount, .initialized RX2, .code yX2_premiseCount cX2_premiseCount 2 (some .int), .fieldLink RX2 18 "ProofChecker$Rows" "premiseCounts" "[I", .methodLink RX2 28 yX2_has, .instanceMethod yX2_has, .selects RX2 yX2_has yX2_has, .code yX2_has cX2_has 2 (some .boolean), .fieldLink RX2 24 "ProofChecker$Rows" "last" "I"] ++ wsX20)
def wsX2_lay : List Cond := .code yX2_lay cX2_lay 3 (some .int) :: ([.fieldLink RX2 24 "ProofChecker$Rows" "last" "I", .fieldLink RX2 9 "ProofChecker$Rows" "ruleNumbers" "[I", .fieldLink RX2 15 "ProofChecker$Rows" "instances" "[I", .fieldLink RX2 18 "ProofChecker$Rows" "premiseCounts" "[I"] ++ wsX20)
def wsX2_addPremise : List Cond := .code yX2_addPremise cX2_addPremise 4 none :: ([.fieldLink RX2 21 "ProofChecker$Rows" "premises" "[I", .fieldLink RX2 18 "ProofChecker$Rows" "premiseCounts" "[I", .methodLink RX2 32 yX2_premiseCount, .instanceMethod yX2_premiseCount, .selects RX2 yX2_premiseCount yX2_premiseCount, .initialized RX2, .code yX2_premiseCount cX2_premiseCount 2 (some .int), .methodLink RX2 28 yX2_has, .instanceMethod yX2_has, .selects RX2 yX2_has yX2_has, .code yX2_has cX2_has 2 (some .boolean), .fieldLink RX2 24 "ProofChecker$Rows" "last" "I"] ++ wsX20)
def wsX2_move : List Cond := .code yX2_move cX2_move 8 none :: ([.fieldLink RX2 21 "ProofChecker$Rows" "premises" "[I", .fieldLink RX2 9 "ProofChecker$Rows" "ruleNumbers" "[I", .fieldLink RX2 15 "ProofChecker$Rows" "instances" "[I", .fieldLink RX2 18 "ProofChecker$Rows" "premiseCounts" "[I", .methodLink RX2 28 yX2_has, .instanceMethod yX2_has, .selects RX2 yX2_has yX2_has, .initialized RX2, .code yX2_has cX2_has 2 (some .boolean), .fieldLink RX2 24 "ProofChecker$Rows" "last" "I", .methodLink RX2 32 yX2_premiseCount, .instanceMethod yX2_premiseCount, .selects RX2 yX2_premiseCount yX2_premiseCount, .code yX2_premiseCount cX2_premiseCount 2 (some .int)] ++ wsX20)
def wsX2_keepOnly : List Cond := .code yX2_keepOnly cX2_keepOnly 2 none :: ([.fieldLink RX2 24 "ProofChecker$Rows" "last" "I", .methodLink RX2 36 Lib.Math.min.name, .static Lib.Math.min.name, .initialized "java/lang/Math", .code Lib.Math.min.name Lib.Math.min.code 2 (some .int), .methodLink RX2 42 Lib.Math.max.name, .static Lib.Math.max.name, .code Lib.Math.max.name Lib.Math.max.code 2 (some .int)] ++ wsX20)
def wsJ0_coder_7d493 : List Cond := .code yJ0_coder_7d493 cJ0_coder_7d493 1 (some .byte) :: ([.fieldLink RJ0 38 "java/lang/String" "COMPACT_STRINGS" "Z", .fieldLink RJ0 15 "java/lang/String" "coder" "B"])
def wsJ0_length_8abf5 : List Cond := .code yJ0_length_8abf5 cJ0_length_8abf5 1 (some .int) :: ([.fieldLink RJ0 9 "java/lang/String" "value" "[B", .methodLink RJ0 335 yJ0_coder_7d493, .instanceMethod yJ0_coder_7d493, .selects RJ0 yJ0_coder_7d493 yJ0_coder_7d493, .initialized RJ0, .code yJ0_coder_7d493 cJ0_coder_7d493 1 (some .byte), .fieldLink RJ0 38 "java/lang/String" "COMPACT_STRINGS" "Z", .fieldLink RJ0 15 "java/lang/String" "coder" "B"])
def wsX3_takes : List Cond := .code yX3_takes cX3_takes 1 (some .int) :: ([.fieldLink RX3 81 "ProofChecker$Rule" "asks" "Ljava/lang/String;", .methodLink RX3 87 yJ0_length_8abf5, .instanceMethod yJ0_length_8abf5, .selects RJ0 yJ0_length_8abf5 yJ0_length_8abf5, .initialized RJ0, .code yJ0_length_8abf5 cJ0_length_8abf5 1 (some .int), .fieldLink RJ0 9 "java/lang/String" "value" "[B", .methodLink RJ0 335 yJ0_coder_7d493, .instanceMethod yJ0_coder_7d493, .selects RJ0 yJ0_coder_7d493 yJ0_coder_7d493, .code yJ0_coder_7d493 cJ0_coder_7d493 1 (some .byte), .fieldLink RJ0 38 "java/lang/String" "COMPACT_STRINGS" "Z", .fieldLink RJ0 15 "java/lang/String" "coder" "B"])
def wsX4_init : List Cond := .code yX4_init cX4_init 3 none :: ([.methodLink RX4 3 objectInit, .instanceMethod objectInit, .code objectInit ⟨#[0xb1]⟩ 1 none, .methodLink RX4 9 Lib.Math.max.name, .static Lib.Math.max.name, .initialized "java/lang/Math", .code Lib.Math.max.name Lib.Math.max.code 2 (some .int), .arrayClass .int, .fieldLink RX4 15 "ProofChecker$Statements" "kinds" "[I", .fieldLink RX4 21 "ProofChecker$Statements" "numbers" "[I", .fieldLink RX4 24 "ProofChecker$Statements" "count" "I"] ++ wsX40)
def wsX4_kind : List Cond := .code yX4_kind cX4_kind 2 (some .int) :: ([.fieldLink RX4 15 "ProofChecker$Statements" "kinds" "[I"] ++ wsX40)
def wsX4_has : List Cond := .code yX4_has cX4_has 2 (some .boolean) :: ([.methodLink RX4 28 yX4_kind, .instanceMethod yX4_kind, .selects RX4 yX4_kind yX4_kind, .initialized RX4, .code yX4_kind cX4_kind 2 (some .int), .fieldLink RX4 15 "ProofChecker$Statements" "kinds" "[I"] ++ wsX40)
def wsX4_number : List Cond := .code yX4_number cX4_number 4 (some .int) :: ([.fieldLink RX4 15 "ProofChecker$Statements" "kinds" "[I", .fieldLink RX4 21 "ProofChecker$Statements" "numbers" "[I"] ++ wsX40)
def wsX4_put_ : List Cond := .code yX4_put_ cX4_put_ 6 none :: ([.fieldLink RX4 15 "ProofChecker$Statements" "kinds" "[I", .fieldLink RX4 21 "ProofChecker$Statements" "numbers" "[I"] ++ wsX40)
def wsX4_add : List Cond := .code yX4_add cX4_add 5 (some .int) :: ([.fieldLink RX4 24 "ProofChecker$Statements" "count" "I", .fieldLink RX4 15 "ProofChecker$Statements" "kinds" "[I", .methodLink RX4 32 yX4_put_, .instanceMethod yX4_put_, .selects RX4 yX4_put_ yX4_put_, .initialized RX4, .code yX4_put_ cX4_put_ 6 none, .fieldLink RX4 21 "ProofChecker$Statements" "numbers" "[I"] ++ wsX40)
def wsX4_is : List Cond := .code yX4_is cX4_is 6 (some .boolean) :: ([.methodLink RX4 28 yX4_kind, .instanceMethod yX4_kind, .selects RX4 yX4_kind yX4_kind, .initialized RX4, .code yX4_kind cX4_kind 2 (some .int), .fieldLink RX4 15 "ProofChecker$Statements" "kinds" "[I", .methodLink RX4 40 yX4_number, .instanceMethod yX4_number, .selects RX4 yX4_number yX4_number, .code yX4_number cX4_number 4 (some .int), .fieldLink RX4 21 "ProofChecker$Statements" "numbers" "[I"] ++ wsX40)
def wsX4_find : List Cond := .code yX4_find cX4_find 6 (some .int) :: ([.fieldLink RX4 24 "ProofChecker$Statements" "count" "I", .methodLink RX4 36 yX4_is, .instanceMethod yX4_is, .selects RX4 yX4_is yX4_is, .initialized RX4, .code yX4_is cX4_is 6 (some .boolean), .methodLink RX4 28 yX4_kind, .instanceMethod yX4_kind, .selects RX4 yX4_kind yX4_kind, .code yX4_kind cX4_kind 2 (some .int), .fieldLink RX4 15 "ProofChecker$Statements" "kinds" "[I", .methodLink RX4 40 yX4_number, .instanceMethod yX4_number, .selects RX4 yX4_number yX4_number, .code yX4_number cX4_number 4 (some .int), .fieldLink RX4 21 "ProofChecker$Statements" "numbers" "[I"] ++ wsX40)
def wsX4_isSame : List Cond := .code yX4_isSame cX4_isSame 4 (some .boolean) :: ([.methodLink RX4 28 yX4_kind, .instanceMethod yX4_kind, .selects RX4 yX4_kind yX4_kind, .initialized RX4, .code yX4_kind cX4_kind 2 (some .int), .fieldLink RX4 15 "ProofChecker$Statements" "kinds" "[I", .methodLink RX4 40 yX4_number, .instanceMethod yX4_number, .selects RX4 yX4_number yX4_number, .code yX4_number cX4_number 4 (some .int), .fieldLink RX4 21 "ProofChecker$Statements" "numbers" "[I", .methodLink RX4 36 yX4_is, .instanceMethod yX4_is, .selects RX4 yX4_is yX4_is, .code yX4_is cX4_is 6 (some .boolean)] ++ wsX40)
def wsX4_put : List Cond := .code yX4_put cX4_put 4 none :: ([.methodLink RX4 28 yX4_kind, .instanceMethod yX4_kind, .selects RX4 yX4_kind yX4_kind, .initialized RX4, .code yX4_kind cX4_kind 2 (some .int), .fieldLink RX4 15 "ProofChecker$Statements" "kinds" "[I", .methodLink RX4 40 yX4_number, .instanceMethod yX4_number, .selects RX4 yX4_number yX4_number, .code yX4_number cX4_number 4 (some .int), .fieldLink RX4 21 "ProofChecker$Statements" "numbers" "[I", .methodLink RX4 32 yX4_put_, .instanceMethod yX4_put_, .selects RX4 yX4_put_ yX4_put_, .code yX4_put_ cX4_put_ 6 none] ++ wsX40)
def wsX4_clear : List Cond := .code yX4_clear cX4_clear 2 none :: ([.methodLink RX4 32 yX4_put_, .instanceMethod yX4_put_, .selects RX4 yX4_put_ yX4_put_, .initialized RX4, .code yX4_put_ cX4_put_ 6 none, .fieldLink RX4 15 "ProofChecker$Statements" "kinds" "[I", .fieldLink RX4 21 "ProofChecker$Statements" "numbers" "[I"] ++ wsX40)
def wsJ2_newBytesLength_0f7a4 : List Cond := .code yJ2_newBytesLength_0f7a4 cJ2_newBytesLength_0f7a4 1 (some .int) :: ([.constant RJ2 20 (1073741823)])
def wsJ2_newBytesFor_77867 : List Cond := .code yJ2_newBytesFor_77867 cJ2_newBytesFor_77867 1 (some (.array .byte)) :: ([.arrayClass .byte, .methodLink RJ2 11 yJ2_newBytesLength_0f7a4, .static yJ2_newBytesLength_0f7a4, .initialized RJ2, .code yJ2_newBytesLength_0f7a4 cJ2_newBytesLength_0f7a4 1 (some .int), .constant RJ2 20 (1073741823)])
def wsJ5_init_d00df : List Cond := .code yJ5_init_d00df cJ5_init_d00df 2 none :: ([.methodLink RJ5 3 objectInit, .instanceMethod objectInit, .code objectInit ⟨#[0xb1]⟩ 1 none, .fieldLink RJ5 18 "java/lang/String" "COMPACT_STRINGS" "Z", .arrayClass .byte, .fieldLink RJ5 15 "java/lang/AbstractStringBuilder" "value" "[B", .fieldLink RJ5 22 "java/lang/AbstractStringBuilder" "coder" "B", .methodLink RJ5 26 yJ2_newBytesFor_77867, .static yJ2_newBytesFor_77867, .initialized RJ2, .code yJ2_newBytesFor_77867 cJ2_newBytesFor_77867 1 (some (.array .byte)), .methodLink RJ2 11 yJ2_newBytesLength_0f7a4, .static yJ2_newBytesLength_0f7a4, .code yJ2_newBytesLength_0f7a4 cJ2_newBytesLength_0f7a4 1 (some .int), .constant RJ2 20 (1073741823)] ++ wsJ40)
def wsJ4_init_da8c8 : List Cond := .code yJ4_init_da8c8 cJ4_init_da8c8 1 none :: ([.methodLink RJ4 1 yJ5_init_d00df, .instanceMethod yJ5_init_d00df, .initialized RJ5, .code yJ5_init_d00df cJ5_init_d00df 2 none, .methodLink RJ5 3 objectInit, .instanceMethod objectInit, .code objectInit ⟨#[0xb1]⟩ 1 none, .fieldLink RJ5 18 "java/lang/String" "COMPACT_STRINGS" "Z", .arrayClass .byte, .fieldLink RJ5 15 "java/lang/AbstractStringBuilder" "value" "[B", .fieldLink RJ5 22 "java/lang/AbstractStringBuilder" "coder" "B", .methodLink RJ5 26 yJ2_newBytesFor_77867, .static yJ2_newBytesFor_77867, .initialized RJ2, .code yJ2_newBytesFor_77867 cJ2_newBytesFor_77867 1 (some (.array .byte)), .methodLink RJ2 11 yJ2_newBytesLength_0f7a4, .static yJ2_newBytesLength_0f7a4, .code yJ2_newBytesLength_0f7a4 cJ2_newBytesLength_0f7a4 1 (some .int), .constant RJ2 20 (1073741823)] ++ wsJ40)
def wsX5_init_r1 : List Cond := [Cond.methodLink RX5 1 objectInit, Cond.instanceMethod objectInit, Cond.code objectInit ⟨#[0xb1]⟩ 1 none, Cond.classLink RX5 7 RX4, Cond.instantiable RX4 3, Cond.initialized RX4, Cond.fieldLink RX5 14 "ProofChecker" "axioms" "LProofChecker$Statements;", Cond.fieldLink RX5 18 "ProofChecker" "triples" "LProofChecker$Statements;", Cond.classLink RX5 21 RX2, Cond.instantiable RX2 5, Cond.initialized RX2, Cond.fieldLink RX5 24 "ProofChecker" "laid" "LProofChecker$Rows;", Cond.fieldLink RX5 28 "ProofChecker" "stated" "LProofChecker$Statements;", Cond.classLink RX5 31 RX1, Cond.instantiable RX1 1, Cond.initialized RX1, Cond.fieldLink RX5 34 "ProofChecker" "letters" "LProofChecker$Letters;", Cond.classLink RX5 38 RJ4, Cond.instantiable RJ4 4, Cond.initialized RJ4, Cond.fieldLink RX5 41 "ProofChecker" "told" "Ljava/lang/StringBuilder;", Cond.arrayClass .boolean, Cond.fieldLink RX5 45 "ProofChecker" "needed" "[Z", Cond.arrayClass .int]
def wsX5_init_r2 : List Cond := [Cond.fieldLink RX5 49 "ProofChecker" "reckoned" "[I", Cond.fieldLink RX5 53 "ProofChecker" "broken" "I", Cond.methodLink RX5 11 yX4_init, Cond.instanceMethod yX4_init, Cond.code yX4_init cX4_init 3 none, Cond.methodLink RX4 3 objectInit, Cond.methodLink RX4 9 Lib.Math.max.name, Cond.static Lib.Math.max.name, Cond.initialized "java/lang/Math", Cond.code Lib.Math.max.name Lib.Math.max.code 2 (some .int), Cond.fieldLink RX4 15 "ProofChecker$Statements" "kinds" "[I", Cond.fieldLink RX4 21 "ProofChecker$Statements" "numbers" "[I", Cond.fieldLink RX4 24 "ProofChecker$Statements" "count" "I", Cond.instanceMethod yX2_init, Cond.code yX2_init cX2_init 1 none, Cond.methodLink RX2 3 objectInit, Cond.fieldLink RX2 9 "ProofChecker$Rows" "ruleNumbers" "[I", Cond.fieldLink RX2 15 "ProofChecker$Rows" "instances" "[I", Cond.fieldLink RX2 18 "ProofChecker$Rows" "premiseCounts" "[I", Cond.fieldLink RX2 21 "ProofChecker$Rows" "premises" "[I", Cond.fieldLink RX2 24 "ProofChecker$Rows" "last" "I", Cond.instanceMethod yX1_init, Cond.code yX1_init cX1_init 1 none, Cond.methodLink RX1 1 objectInit]
def wsX5_init_r3 : List Cond := [Cond.fieldLink RX1 7 "ProofChecker$Letters" "meanings" "[I", Cond.methodLink RX5 40 yJ4_init_da8c8, Cond.instanceMethod yJ4_init_da8c8, Cond.code yJ4_init_da8c8 cJ4_init_da8c8 1 none, Cond.methodLink RJ4 1 yJ5_init_d00df, Cond.instanceMethod yJ5_init_d00df, Cond.initialized RJ5, Cond.code yJ5_init_d00df cJ5_init_d00df 2 none, Cond.methodLink RJ5 3 objectInit, Cond.fieldLink RJ5 18 "java/lang/String" "COMPACT_STRINGS" "Z", Cond.arrayClass .byte, Cond.fieldLink RJ5 15 "java/lang/AbstractStringBuilder" "value" "[B", Cond.fieldLink RJ5 22 "java/lang/AbstractStringBuilder" "coder" "B", Cond.methodLink RJ5 26 yJ2_newBytesFor_77867, Cond.static yJ2_newBytesFor_77867, Cond.initialized RJ2, Cond.code yJ2_newBytesFor_77867 cJ2_newBytesFor_77867 1 (some (.array .byte)), Cond.methodLink RJ2 11 yJ2_newBytesLength_0f7a4, Cond.static yJ2_newBytesLength_0f7a4, Cond.code yJ2_newBytesLength_0f7a4 cJ2_newBytesLength_0f7a4 1 (some .int), Cond.constant RJ2 20 (1073741823)]
def wsX5_init : List Cond := .code yX5_init cX5_init 1 none :: ((wsX5_init_r1 ++ (wsX5_init_r2 ++ wsX5_init_r3)) ++ wsX40 ++ wsX50 ++ wsX20 ++ wsX10 ++ wsJ40)
def wsX5_isTerm : List Cond := .code yX5_isTerm cX5_isTerm 1 (some .boolean) :: ([])
def wsX5_axiom : List Cond := .code yX5_axiom cX5_axiom 5 (some .int) :: ([.fieldLink RX5 57 "ProofChecker" "KINDS" "[LProofChecker$Kind;", .fieldLink RX5 14 "ProofChecker" "axioms" "LProofChecker$Statements;", .methodLink RX5 61 yX5_isTerm, .static yX5_isTerm, .initialized RX5, .code yX5_isTerm cX5_isTerm 1 (some .boolean), .methodLink RX5 70 yX4_add, .instanceMethod yX4_add, .selects RX4 yX4_add yX4_add, .initialized RX4, .code yX4_add cX4_add 5 (some .int), .fieldLink RX4 24 "ProofChecker$Statements" "count" "I", .fieldLink RX4 15 "ProofChecker$Statements" "kinds" "[I", .methodLink RX4 32 yX4_put_, .instanceMethod yX4_put_, .selects RX4 yX4_put_ yX4_put_, .code yX4_put_ cX4_put_ 6 none, .fieldLink RX4 21 "ProofChecker$Statements" "numbers" "[I"] ++ wsX50 ++ wsX40)
def wsX5_triple_r1 : List Cond := [Cond.fieldLink RX5 18 "ProofChecker" "triples" "LProofChecker$Statements;", Cond.methodLink RX5 61 yX5_isTerm, Cond.static yX5_isTerm, Cond.initialized RX5, Cond.code yX5_isTerm cX5_isTerm 1 (some .boolean), Cond.methodLink RX5 74 yX4_find, Cond.instanceMethod yX4_find, Cond.selects RX4 yX4_find yX4_find, Cond.initialized RX4, Cond.code yX4_find cX4_find 6 (some .int), Cond.fieldLink RX4 24 "ProofChecker$Statements" "count" "I", Cond.methodLink RX4 36 yX4_is, Cond.instanceMethod yX4_is, Cond.selects RX4 yX4_is yX4_is, Cond.code yX4_is cX4_is 6 (some .boolean), Cond.methodLink RX4 28 yX4_kind, Cond.instanceMethod yX4_kind, Cond.selects RX4 yX4_kind yX4_kind, Cond.code yX4_kind cX4_kind 2 (some .int), Cond.fieldLink RX4 15 "ProofChecker$Statements" "kinds" "[I", Cond.methodLink RX4 40 yX4_number, Cond.instanceMethod yX4_number, Cond.selects RX4 yX4_number yX4_number, Cond.code yX4_number cX4_number 4 (some .int)]
def wsX5_triple_r2 : List Cond := [Cond.fieldLink RX4 21 "ProofChecker$Statements" "numbers" "[I", Cond.methodLink RX5 70 yX4_add, Cond.instanceMethod yX4_add, Cond.selects RX4 yX4_add yX4_add, Cond.code yX4_add cX4_add 5 (some .int), Cond.methodLink RX4 32 yX4_put_, Cond.instanceMethod yX4_put_, Cond.selects RX4 yX4_put_ yX4_put_, Cond.code yX4_put_ cX4_put_ 6 none]
def wsX5_triple : List Cond := .code yX5_triple cX5_triple 5 (some .int) :: ((wsX5_triple_r1 ++ wsX5_triple_r2) ++ wsX50 ++ wsX40)
def wsX5_ruleNumbered : List Cond := .code yX5_ruleNumbered cX5_ruleNumbered 1 (some (.object "ProofChecker$Rule")) :: ([.fieldLink RX5 183 "ProofChecker" "RULES" "[LProofChecker$Rule;"])
def wsX5_isInstance : List Cond := .code yX5_isInstance cX5_isInstance 3 (some .boolean) :: ([.fieldLink RX5 187 "ProofChecker$Rule" "AXIOM" "LProofChecker$Rule;", .fieldLink RX5 14 "ProofChecker" "axioms" "LProofChecker$Statements;", .fieldLink RX5 191 "ProofChecker$Rule" "GIVEN" "LProofChecker$Rule;", .fieldLink RX5 194 "ProofChecker$Rule" "ANYTHING" "LProofChecker$Rule;", .fieldLink RX5 18 "ProofChecker" "triples" "LProofChecker$Statements;", .fieldLink RX5 197 "ProofChecker$Rule" "ITSELF" "LProofChecker$Rule;", .methodLink RX5 121 yX4_has, .instanceMethod yX4_has, .selects RX4 yX4_has yX4_has, .initialized RX4, .code yX4_has cX4_has 2 (some .boolean), .methodLink RX4 28 yX4_kind, .instanceMethod yX4_kind, .selects RX4 yX4_kind yX4_kind, .code yX4_kind cX4_kind 2 (some .int), .fieldLink RX4 15 "ProofChecker$Statements" "kinds" "[I", .methodLink RX5 61 yX5_isTerm, .static yX5_isTerm, .initialized RX5, .code yX5_isTerm cX5_isTerm 1 (some .boolean)] ++ wsX50 ++ wsX40)
def wsX5_ruleOf : List Cond := .code yX5_ruleOf cX5_ruleOf 2 (some (.object "ProofChecker$Rule")) :: ([.fieldLink RX5 24 "ProofChecker" "laid" "LProofChecker$Rows;", .methodLink RX5 85 yX2_has, .instanceMethod yX2_has, .selects RX2 yX2_has yX2_has, .initialized RX2, .code yX2_has cX2_has 2 (some .boolean), .fieldLink RX2 24 "ProofChecker$Rows" "last" "I", .methodLink RX5 136 yX2_ruleNumber, .instanceMethod yX2_ruleNumber, .selects RX2 yX2_ruleNumber yX2_ruleNumber, .code yX2_ruleNumber cX2_ruleNumber 2 (some .int), .fieldLink RX2 9 "ProofChecker$Rows" "ruleNumbers" "[I", .methodLink RX2 28 yX2_has, .methodLink RX5 77 yX5_ruleNumbered, .static yX5_ruleNumbered, .initialized RX5, .code yX5_ruleNumbered cX5_ruleNumbered 1 (some (.object "ProofChecker$Rule")), .fieldLink RX5 183 "ProofChecker" "RULES" "[LProofChecker$Rule;"] ++ wsX50 ++ wsX20)
def wsJ0_isLatin1_aae02 : List Cond := .code yJ0_isLatin1_aae02 cJ0_isLatin1_aae02 1 (some .boolean) :: ([.fieldLink RJ0 38 "java/lang/String" "COMPACT_STRINGS" "Z", .fieldLink RJ0 15 "java/lang/String" "coder" "B"])
def wsJ3_checkIndex_8e157 : List Cond := .code yJ3_checkIndex_8e157 cJ3_checkIndex_8e157 3 (some .int) :: ([])
def wsJ0_checkIndex_df160 : List Cond := .code yJ0_checkIndex_df160 cJ0_checkIndex_df160 2 none :: ([.fieldLink RJ0 1053 "jdk/internal/util/Preconditions" "SIOOBE_FORMATTER" "Ljava/util/function/BiFunction;", .methodLink RJ0 1059 yJ3_checkIndex_8e157, .static yJ3_checkIndex_8e157, .initialized RJ3, .code yJ3_checkIndex_8e157 cJ3_checkIndex_8e157 3 (some .int)])
def wsJ1_charAt_3b067 : List Cond := .code yJ1_charAt_3b067 cJ1_charAt_3b067 2 (some .char) :: ([.methodLink RJ1 9 yJ0_checkIndex_df160, .static yJ0_checkIndex_df160, .initialized RJ0, .code yJ0_checkIndex_df160 cJ0_checkIndex_df160 2 none, .fieldLink RJ0 1053 "jdk/internal/util/Preconditions" "SIOOBE_FORMATTER" "Ljava/util/function/BiFunction;", .methodLink RJ0 1059 yJ3_checkIndex_8e157, .static yJ3_checkIndex_8e157, .initialized RJ3, .code yJ3_checkIndex_8e157 cJ3_checkIndex_8e157 3 (some .int)])
def wsJ2_length_9d52b : List Cond := .code yJ2_length_9d52b cJ2_length_9d52b 1 (some .int) :: ([])
def wsJ2_checkIndex_2214a : List Cond := .code yJ2_checkIndex_2214a cJ2_checkIndex_2214a 2 none :: ([.methodLink RJ2 48 yJ2_length_9d52b, .static yJ2_length_9d52b, .initialized RJ2, .code yJ2_length_9d52b cJ2_length_9d52b 1 (some .int), .methodLink RJ2 414 yJ0_checkIndex_df160, .static yJ0_checkIndex_df160, .initialized RJ0, .code yJ0_checkIndex_df160 cJ0_checkIndex_df160 2 none, .fieldLink RJ0 1053 "jdk/internal/util/Preconditions" "SIOOBE_FORMATTER" "Ljava/util/function/BiFunction;", .methodLink RJ0 1059 yJ3_checkIndex_8e157, .static yJ3_checkIndex_8e157, .initialized RJ3, .code yJ3_checkIndex_8e157 cJ3_checkIndex_8e157 3 (some .int)])
def wsJ2_getChar_3b067 : List Cond := .code yJ2_getChar_3b067 cJ2_getChar_3b067 2 (some .char) :: ([.fieldLink RJ2 44 "java/lang/StringUTF16" "$assertionsDisabled" "Z", .fieldLink RJ2 59 "java/lang/StringUTF16" "HI_BYTE_SHIFT" "I", .fieldLink RJ2 63 "java/lang/StringUTF16" "LO_BYTE_SHIFT" "I", .methodLink RJ2 48 yJ2_length_9d52b, .static yJ2_length_9d52b, .initialized RJ2, .code yJ2_length_9d52b cJ2_length_9d52b 1 (some .int)])
def wsJ2_charAt_3b067 : List Cond := .code yJ2_charAt_3b067 cJ2_charAt_3b067 2 (some .char) :: ([.methodLink RJ2 67 yJ2_checkIndex_2214a, .static yJ2_checkIndex_2214a, .initialized RJ2, .code yJ2_checkIndex_2214a cJ2_checkIndex_2214a 2 none, .methodLink RJ2 48 yJ2_length_9d52b, .static yJ2_length_9d52b, .code yJ2_length_9d52b cJ2_length_9d52b 1 (some .int), .methodLink RJ2 414 yJ0_checkIndex_df160, .static yJ0_checkIndex_df160, .initialized RJ0, .code yJ0_checkIndex_df160 cJ0_checkIndex_df160 2 none, .fieldLink RJ0 1053 "jdk/internal/util/Preconditions" "SIOOBE_FORMATTER" "Ljava/util/function/BiFunction;", .methodLink RJ0 1059 yJ3_checkIndex_8e157, .static yJ3_checkIndex_8e157, .initialized RJ3, .code yJ3_checkIndex_8e157 cJ3_checkIndex_8e157 3 (some .int), .methodLink RJ2 71 yJ2_getChar_3b067, .static yJ2_getChar_3b067, .code yJ2_getChar_3b067 cJ2_getChar_3b067 2 (some .char), .fieldLink RJ2 44 "java/lang/StringUTF16" "$assertionsDisabled" "Z", .fieldLink RJ2 59 "java/lang/StringUTF16" "HI_BYTE_SHIFT" "I", .fieldLink RJ2 63 "java/lang/StringUTF16" "LO_BYTE_SHIFT" "I"])
def wsJ0_charAt_5068e_r1 : List Cond := [Cond.fieldLink RJ0 9 "java/lang/String" "value" "[B", Cond.methodLink RJ0 492 yJ0_isLatin1_aae02, Cond.instanceMethod yJ0_isLatin1_aae02, Cond.selects RJ0 yJ0_isLatin1_aae02 yJ0_isLatin1_aae02, Cond.initialized RJ0, Cond.code yJ0_isLatin1_aae02 cJ0_isLatin1_aae02 1 (some .boolean), Cond.fieldLink RJ0 38 "java/lang/String" "COMPACT_STRINGS" "Z", Cond.fieldLink RJ0 15 "java/lang/String" "coder" "B", Cond.methodLink RJ0 495 yJ1_charAt_3b067, Cond.static yJ1_charAt_3b067, Cond.initialized RJ1, Cond.code yJ1_charAt_3b067 cJ1_charAt_3b067 2 (some .char), Cond.methodLink RJ1 9 yJ0_checkIndex_df160, Cond.static yJ0_checkIndex_df160, Cond.code yJ0_checkIndex_df160 cJ0_checkIndex_df160 2 none, Cond.fieldLink RJ0 1053 "jdk/internal/util/Preconditions" "SIOOBE_FORMATTER" "Ljava/util/function/BiFunction;", Cond.methodLink RJ0 1059 yJ3_checkIndex_8e157, Cond.static yJ3_checkIndex_8e157, Cond.initialized RJ3, Cond.code yJ3_checkIndex_8e157 cJ3_checkIndex_8e157 3 (some .int), Cond.methodLink RJ0 498 yJ2_charAt_3b067, Cond.static yJ2_charAt_3b067, Cond.initialized RJ2, Cond.code yJ2_charAt_3b067 cJ2_charAt_3b067 2 (some .char)]
def wsJ0_charAt_5068e_r2 : List Cond := [Cond.methodLink RJ2 67 yJ2_checkIndex_2214a, Cond.static yJ2_checkIndex_2214a, Cond.code yJ2_checkIndex_2214a cJ2_checkIndex_2214a 2 none, Cond.methodLink RJ2 48 yJ2_length_9d52b, Cond.static yJ2_length_9d52b, Cond.code yJ2_length_9d52b cJ2_length_9d52b 1 (some .int), Cond.methodLink RJ2 414 yJ0_checkIndex_df160, Cond.methodLink RJ2 71 yJ2_getChar_3b067, Cond.static yJ2_getChar_3b067, Cond.code yJ2_getChar_3b067 cJ2_getChar_3b067 2 (some .char), Cond.fieldLink RJ2 44 "java/lang/StringUTF16" "$assertionsDisabled" "Z", Cond.fieldLink RJ2 59 "java/lang/StringUTF16" "HI_BYTE_SHIFT" "I", Cond.fieldLink RJ2 63 "java/lang/StringUTF16" "LO_BYTE_SHIFT" "I"]
def wsJ0_charAt_5068e : List Cond := .code yJ0_charAt_5068e cJ0_charAt_5068e 2 (some .char) :: ((wsJ0_charAt_5068e_r1 ++ wsJ0_charAt_5068e_r2))
def wsX5_signAt_r1 : List Cond := [Cond.methodLink RX5 248 yJ0_length_8abf5, Cond.instanceMethod yJ0_length_8abf5, Cond.selects RJ0 yJ0_length_8abf5 yJ0_length_8abf5, Cond.initialized RJ0, Cond.code yJ0_length_8abf5 cJ0_length_8abf5 1 (some .int), Cond.fieldLink RJ0 9 "java/lang/String" "value" "[B", Cond.methodLink RJ0 335 yJ0_coder_7d493, Cond.instanceMethod yJ0_coder_7d493, Cond.selects RJ0 yJ0_coder_7d493 yJ0_coder_7d493, Cond.code yJ0_coder_7d493 cJ0_coder_7d493 1 (some .byte), Cond.fieldLink RJ0 38 "java/lang/String" "COMPACT_STRINGS" "Z", Cond.fieldLink RJ0 15 "java/lang/String" "coder" "B", Cond.methodLink RX5 251 yJ0_charAt_5068e, Cond.instanceMethod yJ0_charAt_5068e, Cond.selects RJ0 yJ0_charAt_5068e yJ0_charAt_5068e, Cond.code yJ0_charAt_5068e cJ0_charAt_5068e 2 (some .char), Cond.methodLink RJ0 492 yJ0_isLatin1_aae02, Cond.instanceMethod yJ0_isLatin1_aae02, Cond.selects RJ0 yJ0_isLatin1_aae02 yJ0_isLatin1_aae02, Cond.code yJ0_isLatin1_aae02 cJ0_isLatin1_aae02 1 (some .boolean), Cond.methodLink RJ0 495 yJ1_charAt_3b067, Cond.static yJ1_charAt_3b067, Cond.initialized RJ1, Cond.code yJ1_charAt_3b067 cJ1_charAt_3b067 2 (some .char)]
def wsX5_signAt_r2 : List Cond := [Cond.methodLink RJ1 9 yJ0_checkIndex_df160, Cond.static yJ0_checkIndex_df160, Cond.code yJ0_checkIndex_df160 cJ0_checkIndex_df160 2 none, Cond.fieldLink RJ0 1053 "jdk/internal/util/Preconditions" "SIOOBE_FORMATTER" "Ljava/util/function/BiFunction;", Cond.methodLink RJ0 1059 yJ3_checkIndex_8e157, Cond.static yJ3_checkIndex_8e157, Cond.initialized RJ3, Cond.code yJ3_checkIndex_8e157 cJ3_checkIndex_8e157 3 (some .int), Cond.methodLink RJ0 498 yJ2_charAt_3b067, Cond.static yJ2_charAt_3b067, Cond.initialized RJ2, Cond.code yJ2_charAt_3b067 cJ2_charAt_3b067 2 (some .char), Cond.methodLink RJ2 67 yJ2_checkIndex_2214a, Cond.static yJ2_checkIndex_2214a, Cond.code yJ2_checkIndex_2214a cJ2_checkIndex_2214a 2 none, Cond.methodLink RJ2 48 yJ2_length_9d52b, Cond.static yJ2_length_9d52b, Cond.code yJ2_length_9d52b cJ2_length_9d52b 1 (some .int), Cond.methodLink RJ2 414 yJ0_checkIndex_df160, Cond.methodLink RJ2 71 yJ2_getChar_3b067, Cond.static yJ2_getChar_3b067, Cond.code yJ2_getChar_3b067 cJ2_getChar_3b067 2 (some .char), Cond.fieldLink RJ2 44 "java/lang/StringUTF16" "$assertionsDisabled" "Z", Cond.fieldLink RJ2 59 "java/lang/StringUTF16" "HI_BYTE_SHIFT" "I"]
def wsX5_signAt_r3 : List Cond := [Cond.fieldLink RJ2 63 "java/lang/StringUTF16" "LO_BYTE_SHIFT" "I"]
def wsX5_signAt : List Cond := .code yX5_signAt cX5_signAt 2 (some .char) :: ((wsX5_signAt_r1 ++ (wsX5_signAt_r2 ++ wsX5_signAt_r3)))
def wsX5_isAsTold_r1 : List Cond := [Cond.fieldLink RX5 28 "ProofChecker" "stated" "LProofChecker$Statements;", Cond.fieldLink RX5 34 "ProofChecker" "letters" "LProofChecker$Letters;", Cond.methodLink RX5 139 yX4_kind, Cond.instanceMethod yX4_kind, Cond.selects RX4 yX4_kind yX4_kind, Cond.initialized RX4, Cond.code yX4_kind cX4_kind 2 (some .int), Cond.fieldLink RX4 15 "ProofChecker$Statements" "kinds" "[I", Cond.methodLink RX5 224 yX5_signAt, Cond.static yX5_signAt, Cond.initialized RX5, Cond.code yX5_signAt cX5_signAt 2 (some .char), Cond.methodLink RX5 248 yJ0_length_8abf5, Cond.instanceMethod yJ0_length_8abf5, Cond.selects RJ0 yJ0_length_8abf5 yJ0_length_8abf5, Cond.initialized RJ0, Cond.code yJ0_length_8abf5 cJ0_length_8abf5 1 (some .int), Cond.fieldLink RJ0 9 "java/lang/String" "value" "[B", Cond.methodLink RJ0 335 yJ0_coder_7d493, Cond.instanceMethod yJ0_coder_7d493, Cond.selects RJ0 yJ0_coder_7d493 yJ0_coder_7d493, Cond.code yJ0_coder_7d493 cJ0_coder_7d493 1 (some .byte), Cond.fieldLink RJ0 38 "java/lang/String" "COMPACT_STRINGS" "Z", Cond.fieldLink RJ0 15 "java/lang/String" "coder" "B"]
def wsX5_isAsTold_r2 : List Cond := [Cond.methodLink RX5 251 yJ0_charAt_5068e, Cond.instanceMethod yJ0_charAt_5068e, Cond.selects RJ0 yJ0_charAt_5068e yJ0_charAt_5068e, Cond.code yJ0_charAt_5068e cJ0_charAt_5068e 2 (some .char), Cond.methodLink RJ0 492 yJ0_isLatin1_aae02, Cond.instanceMethod yJ0_isLatin1_aae02, Cond.selects RJ0 yJ0_isLatin1_aae02 yJ0_isLatin1_aae02, Cond.code yJ0_isLatin1_aae02 cJ0_isLatin1_aae02 1 (some .boolean), Cond.methodLink RJ0 495 yJ1_charAt_3b067, Cond.static yJ1_charAt_3b067, Cond.initialized RJ1, Cond.code yJ1_charAt_3b067 cJ1_charAt_3b067 2 (some .char), Cond.methodLink RJ1 9 yJ0_checkIndex_df160, Cond.static yJ0_checkIndex_df160, Cond.code yJ0_checkIndex_df160 cJ0_checkIndex_df160 2 none, Cond.fieldLink RJ0 1053 "jdk/internal/util/Preconditions" "SIOOBE_FORMATTER" "Ljava/util/function/BiFunction;", Cond.methodLink RJ0 1059 yJ3_checkIndex_8e157, Cond.static yJ3_checkIndex_8e157, Cond.initialized RJ3, Cond.code yJ3_checkIndex_8e157 cJ3_checkIndex_8e157 3 (some .int), Cond.methodLink RJ0 498 yJ2_charAt_3b067, Cond.static yJ2_charAt_3b067, Cond.initialized RJ2, Cond.code yJ2_charAt_3b067 cJ2_charAt_3b067 2 (some .char)]
def wsX5_isAsTold_r3 : List Cond := [Cond.methodLink RJ2 67 yJ2_checkIndex_2214a, Cond.static yJ2_checkIndex_2214a, Cond.code yJ2_checkIndex_2214a cJ2_checkIndex_2214a 2 none, Cond.methodLink RJ2 48 yJ2_length_9d52b, Cond.static yJ2_length_9d52b, Cond.code yJ2_length_9d52b cJ2_length_9d52b 1 (some .int), Cond.methodLink RJ2 414 yJ0_checkIndex_df160, Cond.methodLink RJ2 71 yJ2_getChar_3b067, Cond.static yJ2_getChar_3b067, Cond.code yJ2_getChar_3b067 cJ2_getChar_3b067 2 (some .char), Cond.fieldLink RJ2 44 "java/lang/StringUTF16" "$assertionsDisabled" "Z", Cond.fieldLink RJ2 59 "java/lang/StringUTF16" "HI_BYTE_SHIFT" "I", Cond.fieldLink RJ2 63 "java/lang/StringUTF16" "LO_BYTE_SHIFT" "I", Cond.methodLink RX5 228 yX1_kindFor, Cond.static yX1_kindFor, Cond.initialized RX1, Cond.code yX1_kindFor cX1_kindFor 1 (some .int), Cond.methodLink RX5 142 yX4_number, Cond.instanceMethod yX4_number, Cond.selects RX4 yX4_number yX4_number, Cond.code yX4_number cX4_number 4 (some .int), Cond.fieldLink RX4 21 "ProofChecker$Statements" "numbers" "[I", Cond.methodLink RX5 232 yX1_agree, Cond.instanceMethod yX1_agree]
def wsX5_isAsTold_r4 : List Cond := [Cond.selects RX1 yX1_agree yX1_agree, Cond.code yX1_agree cX1_agree 3 (some .boolean), Cond.fieldLink RX1 7 "ProofChecker$Letters" "meanings" "[I", Cond.methodLink RX1 19 yX1_meaning, Cond.instanceMethod yX1_meaning, Cond.selects RX1 yX1_meaning yX1_meaning, Cond.code yX1_meaning cX1_meaning 2 (some .int)]
def wsX5_isAsTold : List Cond := .code yX5_isAsTold cX5_isAsTold 5 (some .boolean) :: ((wsX5_isAsTold_r1 ++ (wsX5_isAsTold_r2 ++ (wsX5_isAsTold_r3 ++ wsX5_isAsTold_r4))) ++ wsX50 ++ wsX40 ++ wsX10)
def wsX5_fits_r1 : List Cond := [Cond.fieldLink RX5 24 "ProofChecker" "laid" "LProofChecker$Rows;", Cond.fieldLink RX5 34 "ProofChecker" "letters" "LProofChecker$Letters;", Cond.methodLink RX5 108 yX2_premiseCount, Cond.instanceMethod yX2_premiseCount, Cond.selects RX2 yX2_premiseCount yX2_premiseCount, Cond.initialized RX2, Cond.code yX2_premiseCount cX2_premiseCount 2 (some .int), Cond.fieldLink RX2 18 "ProofChecker$Rows" "premiseCounts" "[I", Cond.methodLink RX2 28 yX2_has, Cond.instanceMethod yX2_has, Cond.selects RX2 yX2_has yX2_has, Cond.code yX2_has cX2_has 2 (some .boolean), Cond.fieldLink RX2 24 "ProofChecker$Rows" "last" "I", Cond.methodLink RX5 88 yX3_takes, Cond.instanceMethod yX3_takes, Cond.selects RX3 yX3_takes yX3_takes, Cond.initialized RX3, Cond.code yX3_takes cX3_takes 1 (some .int), Cond.fieldLink RX3 81 "ProofChecker$Rule" "asks" "Ljava/lang/String;", Cond.methodLink RX3 87 yJ0_length_8abf5, Cond.instanceMethod yJ0_length_8abf5, Cond.selects RJ0 yJ0_length_8abf5 yJ0_length_8abf5, Cond.initialized RJ0, Cond.code yJ0_length_8abf5 cJ0_length_8abf5 1 (some .int)]
def wsX5_fits_r2 : List Cond := [Cond.fieldLink RJ0 9 "java/lang/String" "value" "[B", Cond.methodLink RJ0 335 yJ0_coder_7d493, Cond.instanceMethod yJ0_coder_7d493, Cond.selects RJ0 yJ0_coder_7d493 yJ0_coder_7d493, Cond.code yJ0_coder_7d493 cJ0_coder_7d493 1 (some .byte), Cond.fieldLink RJ0 38 "java/lang/String" "COMPACT_STRINGS" "Z", Cond.fieldLink RJ0 15 "java/lang/String" "coder" "B", Cond.methodLink RX5 211 yX1_forget, Cond.instanceMethod yX1_forget, Cond.selects RX1 yX1_forget yX1_forget, Cond.initialized RX1, Cond.code yX1_forget cX1_forget 1 none, Cond.fieldLink RX1 7 "ProofChecker$Letters" "meanings" "[I", Cond.methodLink RX1 13 yJ7_fill_53178, Cond.static yJ7_fill_53178, Cond.initialized RJ7, Cond.code yJ7_fill_53178 cJ7_fill_53178 4 none, Cond.methodLink RX5 214 yX2_premiseAt, Cond.instanceMethod yX2_premiseAt, Cond.selects RX2 yX2_premiseAt yX2_premiseAt, Cond.code yX2_premiseAt cX2_premiseAt 4 (some .int), Cond.fieldLink RX2 21 "ProofChecker$Rows" "premises" "[I", Cond.methodLink RX2 32 yX2_premiseCount, Cond.methodLink RX5 220 yX5_isAsTold]
def wsX5_fits_r3 : List Cond := [Cond.instanceMethod yX5_isAsTold, Cond.selects RX5 yX5_isAsTold yX5_isAsTold, Cond.initialized RX5, Cond.code yX5_isAsTold cX5_isAsTold 5 (some .boolean), Cond.fieldLink RX5 28 "ProofChecker" "stated" "LProofChecker$Statements;", Cond.methodLink RX5 139 yX4_kind, Cond.instanceMethod yX4_kind, Cond.selects RX4 yX4_kind yX4_kind, Cond.initialized RX4, Cond.code yX4_kind cX4_kind 2 (some .int), Cond.fieldLink RX4 15 "ProofChecker$Statements" "kinds" "[I", Cond.methodLink RX5 224 yX5_signAt, Cond.static yX5_signAt, Cond.code yX5_signAt cX5_signAt 2 (some .char), Cond.methodLink RX5 248 yJ0_length_8abf5, Cond.methodLink RX5 251 yJ0_charAt_5068e, Cond.instanceMethod yJ0_charAt_5068e, Cond.selects RJ0 yJ0_charAt_5068e yJ0_charAt_5068e, Cond.code yJ0_charAt_5068e cJ0_charAt_5068e 2 (some .char), Cond.methodLink RJ0 492 yJ0_isLatin1_aae02, Cond.instanceMethod yJ0_isLatin1_aae02, Cond.selects RJ0 yJ0_isLatin1_aae02 yJ0_isLatin1_aae02, Cond.code yJ0_isLatin1_aae02 cJ0_isLatin1_aae02 1 (some .boolean), Cond.methodLink RJ0 495 yJ1_charAt_3b067]
def wsX5_fits_r4 : List Cond := [Cond.static yJ1_charAt_3b067, Cond.initialized RJ1, Cond.code yJ1_charAt_3b067 cJ1_charAt_3b067 2 (some .char), Cond.methodLink RJ1 9 yJ0_checkIndex_df160, Cond.static yJ0_checkIndex_df160, Cond.code yJ0_checkIndex_df160 cJ0_checkIndex_df160 2 none, Cond.fieldLink RJ0 1053 "jdk/internal/util/Preconditions" "SIOOBE_FORMATTER" "Ljava/util/function/BiFunction;", Cond.methodLink RJ0 1059 yJ3_checkIndex_8e157, Cond.static yJ3_checkIndex_8e157, Cond.initialized RJ3, Cond.code yJ3_checkIndex_8e157 cJ3_checkIndex_8e157 3 (some .int), Cond.methodLink RJ0 498 yJ2_charAt_3b067, Cond.static yJ2_charAt_3b067, Cond.initialized RJ2, Cond.code yJ2_charAt_3b067 cJ2_charAt_3b067 2 (some .char), Cond.methodLink RJ2 67 yJ2_checkIndex_2214a, Cond.static yJ2_checkIndex_2214a, Cond.code yJ2_checkIndex_2214a cJ2_checkIndex_2214a 2 none, Cond.methodLink RJ2 48 yJ2_length_9d52b, Cond.static yJ2_length_9d52b, Cond.code yJ2_length_9d52b cJ2_length_9d52b 1 (some .int), Cond.methodLink RJ2 414 yJ0_checkIndex_df160, Cond.methodLink RJ2 71 yJ2_getChar_3b067, Cond.static yJ2_getChar_3b067]
def wsX5_fits_r5 : List Cond := [Cond.code yJ2_getChar_3b067 cJ2_getChar_3b067 2 (some .char), Cond.fieldLink RJ2 44 "java/lang/StringUTF16" "$assertionsDisabled" "Z", Cond.fieldLink RJ2 59 "java/lang/StringUTF16" "HI_BYTE_SHIFT" "I", Cond.fieldLink RJ2 63 "java/lang/StringUTF16" "LO_BYTE_SHIFT" "I", Cond.methodLink RX5 228 yX1_kindFor, Cond.static yX1_kindFor, Cond.code yX1_kindFor cX1_kindFor 1 (some .int), Cond.methodLink RX5 142 yX4_number, Cond.instanceMethod yX4_number, Cond.selects RX4 yX4_number yX4_number, Cond.code yX4_number cX4_number 4 (some .int), Cond.fieldLink RX4 21 "ProofChecker$Statements" "numbers" "[I", Cond.methodLink RX5 232 yX1_agree, Cond.instanceMethod yX1_agree, Cond.selects RX1 yX1_agree yX1_agree, Cond.code yX1_agree cX1_agree 3 (some .boolean), Cond.methodLink RX1 19 yX1_meaning, Cond.instanceMethod yX1_meaning, Cond.selects RX1 yX1_meaning yX1_meaning, Cond.code yX1_meaning cX1_meaning 2 (some .int)]
def wsX5_fits : List Cond := .code yX5_fits cX5_fits 4 (some .boolean) :: ((wsX5_fits_r1 ++ (wsX5_fits_r2 ++ (wsX5_fits_r3 ++ (wsX5_fits_r4 ++ wsX5_fits_r5)))) ++ wsX50 ++ wsX20 ++ wsX10 ++ wsX40)
def wsX5_conclude_r1 : List Cond := [Cond.fieldLink RX5 24 "ProofChecker" "laid" "LProofChecker$Rows;", Cond.fieldLink RX5 187 "ProofChecker$Rule" "AXIOM" "LProofChecker$Rule;", Cond.fieldLink RX5 28 "ProofChecker" "stated" "LProofChecker$Statements;", Cond.fieldLink RX5 14 "ProofChecker" "axioms" "LProofChecker$Statements;", Cond.fieldLink RX5 191 "ProofChecker$Rule" "GIVEN" "LProofChecker$Rule;", Cond.fieldLink RX5 194 "ProofChecker$Rule" "ANYTHING" "LProofChecker$Rule;", Cond.fieldLink RX5 18 "ProofChecker" "triples" "LProofChecker$Statements;", Cond.fieldLink RX5 197 "ProofChecker$Rule" "ITSELF" "LProofChecker$Rule;", Cond.fieldLink RX5 34 "ProofChecker" "letters" "LProofChecker$Letters;", Cond.methodLink RX5 236 yX2_instance, Cond.instanceMethod yX2_instance, Cond.selects RX2 yX2_instance yX2_instance, Cond.initialized RX2, Cond.code yX2_instance cX2_instance 2 (some .int), Cond.fieldLink RX2 15 "ProofChecker$Rows" "instances" "[I", Cond.methodLink RX2 28 yX2_has, Cond.instanceMethod yX2_has, Cond.selects RX2 yX2_has yX2_has, Cond.code yX2_has cX2_has 2 (some .boolean), Cond.fieldLink RX2 24 "ProofChecker$Rows" "last" "I", Cond.methodLink RX5 129 yX4_put, Cond.instanceMethod yX4_put, Cond.selects RX4 yX4_put yX4_put, Cond.initialized RX4]
def wsX5_conclude_r2 : List Cond := [Cond.code yX4_put cX4_put 4 none, Cond.methodLink RX4 28 yX4_kind, Cond.instanceMethod yX4_kind, Cond.selects RX4 yX4_kind yX4_kind, Cond.code yX4_kind cX4_kind 2 (some .int), Cond.fieldLink RX4 15 "ProofChecker$Statements" "kinds" "[I", Cond.methodLink RX4 40 yX4_number, Cond.instanceMethod yX4_number, Cond.selects RX4 yX4_number yX4_number, Cond.code yX4_number cX4_number 4 (some .int), Cond.fieldLink RX4 21 "ProofChecker$Statements" "numbers" "[I", Cond.methodLink RX4 32 yX4_put_, Cond.instanceMethod yX4_put_, Cond.selects RX4 yX4_put_ yX4_put_, Cond.code yX4_put_ cX4_put_ 6 none, Cond.methodLink RX5 232 yX1_agree, Cond.instanceMethod yX1_agree, Cond.selects RX1 yX1_agree yX1_agree, Cond.initialized RX1, Cond.code yX1_agree cX1_agree 3 (some .boolean), Cond.fieldLink RX1 7 "ProofChecker$Letters" "meanings" "[I", Cond.methodLink RX1 19 yX1_meaning, Cond.instanceMethod yX1_meaning, Cond.selects RX1 yX1_meaning yX1_meaning]
def wsX5_conclude_r3 : List Cond := [Cond.code yX1_meaning cX1_meaning 2 (some .int), Cond.methodLink RX5 224 yX5_signAt, Cond.static yX5_signAt, Cond.initialized RX5, Cond.code yX5_signAt cX5_signAt 2 (some .char), Cond.methodLink RX5 248 yJ0_length_8abf5, Cond.instanceMethod yJ0_length_8abf5, Cond.selects RJ0 yJ0_length_8abf5 yJ0_length_8abf5, Cond.initialized RJ0, Cond.code yJ0_length_8abf5 cJ0_length_8abf5 1 (some .int), Cond.fieldLink RJ0 9 "java/lang/String" "value" "[B", Cond.methodLink RJ0 335 yJ0_coder_7d493, Cond.instanceMethod yJ0_coder_7d493, Cond.selects RJ0 yJ0_coder_7d493 yJ0_coder_7d493, Cond.code yJ0_coder_7d493 cJ0_coder_7d493 1 (some .byte), Cond.fieldLink RJ0 38 "java/lang/String" "COMPACT_STRINGS" "Z", Cond.fieldLink RJ0 15 "java/lang/String" "coder" "B", Cond.methodLink RX5 251 yJ0_charAt_5068e, Cond.instanceMethod yJ0_charAt_5068e, Cond.selects RJ0 yJ0_charAt_5068e yJ0_charAt_5068e, Cond.code yJ0_charAt_5068e cJ0_charAt_5068e 2 (some .char), Cond.methodLink RJ0 492 yJ0_isLatin1_aae02, Cond.instanceMethod yJ0_isLatin1_aae02, Cond.selects RJ0 yJ0_isLatin1_aae02 yJ0_isLatin1_aae02]
def wsX5_conclude_r4 : List Cond := [Cond.code yJ0_isLatin1_aae02 cJ0_isLatin1_aae02 1 (some .boolean), Cond.methodLink RJ0 495 yJ1_charAt_3b067, Cond.static yJ1_charAt_3b067, Cond.initialized RJ1, Cond.code yJ1_charAt_3b067 cJ1_charAt_3b067 2 (some .char), Cond.methodLink RJ1 9 yJ0_checkIndex_df160, Cond.static yJ0_checkIndex_df160, Cond.code yJ0_checkIndex_df160 cJ0_checkIndex_df160 2 none, Cond.fieldLink RJ0 1053 "jdk/internal/util/Preconditions" "SIOOBE_FORMATTER" "Ljava/util/function/BiFunction;", Cond.methodLink RJ0 1059 yJ3_checkIndex_8e157, Cond.static yJ3_checkIndex_8e157, Cond.initialized RJ3, Cond.code yJ3_checkIndex_8e157 cJ3_checkIndex_8e157 3 (some .int), Cond.methodLink RJ0 498 yJ2_charAt_3b067, Cond.static yJ2_charAt_3b067, Cond.initialized RJ2, Cond.code yJ2_charAt_3b067 cJ2_charAt_3b067 2 (some .char), Cond.methodLink RJ2 67 yJ2_checkIndex_2214a, Cond.static yJ2_checkIndex_2214a, Cond.code yJ2_checkIndex_2214a cJ2_checkIndex_2214a 2 none, Cond.methodLink RJ2 48 yJ2_length_9d52b, Cond.static yJ2_length_9d52b, Cond.code yJ2_length_9d52b cJ2_length_9d52b 1 (some .int), Cond.methodLink RJ2 414 yJ0_checkIndex_df160]
def wsX5_conclude_r5 : List Cond := [Cond.methodLink RJ2 71 yJ2_getChar_3b067, Cond.static yJ2_getChar_3b067, Cond.code yJ2_getChar_3b067 cJ2_getChar_3b067 2 (some .char), Cond.fieldLink RJ2 44 "java/lang/StringUTF16" "$assertionsDisabled" "Z", Cond.fieldLink RJ2 59 "java/lang/StringUTF16" "HI_BYTE_SHIFT" "I", Cond.fieldLink RJ2 63 "java/lang/StringUTF16" "LO_BYTE_SHIFT" "I", Cond.methodLink RX5 228 yX1_kindFor, Cond.static yX1_kindFor, Cond.code yX1_kindFor cX1_kindFor 1 (some .int), Cond.methodLink RX5 242 yX1_meaning, Cond.methodLink RX5 245 yX4_put_]
def wsX5_conclude : List Cond := .code yX5_conclude cX5_conclude 4 none :: ((wsX5_conclude_r1 ++ (wsX5_conclude_r2 ++ (wsX5_conclude_r3 ++ (wsX5_conclude_r4 ++ wsX5_conclude_r5)))) ++ wsX50 ++ wsX20 ++ wsX40 ++ wsX10)
def wsX5_derive_r1 : List Cond := [Cond.fieldLink RX5 28 "ProofChecker" "stated" "LProofChecker$Statements;", Cond.methodLink RX5 200 yX4_clear, Cond.instanceMethod yX4_clear, Cond.selects RX4 yX4_clear yX4_clear, Cond.initialized RX4, Cond.code yX4_clear cX4_clear 2 none, Cond.methodLink RX4 32 yX4_put_, Cond.instanceMethod yX4_put_, Cond.selects RX4 yX4_put_ yX4_put_, Cond.code yX4_put_ cX4_put_ 6 none, Cond.fieldLink RX4 15 "ProofChecker$Statements" "kinds" "[I", Cond.fieldLink RX4 21 "ProofChecker$Statements" "numbers" "[I", Cond.methodLink RX5 105 yX5_ruleOf, Cond.instanceMethod yX5_ruleOf, Cond.selects RX5 yX5_ruleOf yX5_ruleOf, Cond.initialized RX5, Cond.code yX5_ruleOf cX5_ruleOf 2 (some (.object "ProofChecker$Rule")), Cond.fieldLink RX5 24 "ProofChecker" "laid" "LProofChecker$Rows;", Cond.methodLink RX5 85 yX2_has, Cond.instanceMethod yX2_has, Cond.selects RX2 yX2_has yX2_has, Cond.initialized RX2, Cond.code yX2_has cX2_has 2 (some .boolean), Cond.fieldLink RX2 24 "ProofChecker$Rows" "last" "I"]
def wsX5_derive_r2 : List Cond := [Cond.methodLink RX5 136 yX2_ruleNumber, Cond.instanceMethod yX2_ruleNumber, Cond.selects RX2 yX2_ruleNumber yX2_ruleNumber, Cond.code yX2_ruleNumber cX2_ruleNumber 2 (some .int), Cond.fieldLink RX2 9 "ProofChecker$Rows" "ruleNumbers" "[I", Cond.methodLink RX2 28 yX2_has, Cond.methodLink RX5 77 yX5_ruleNumbered, Cond.static yX5_ruleNumbered, Cond.code yX5_ruleNumbered cX5_ruleNumbered 1 (some (.object "ProofChecker$Rule")), Cond.fieldLink RX5 183 "ProofChecker" "RULES" "[LProofChecker$Rule;", Cond.methodLink RX5 203 yX5_fits, Cond.instanceMethod yX5_fits, Cond.selects RX5 yX5_fits yX5_fits, Cond.code yX5_fits cX5_fits 4 (some .boolean), Cond.fieldLink RX5 34 "ProofChecker" "letters" "LProofChecker$Letters;", Cond.methodLink RX5 108 yX2_premiseCount, Cond.instanceMethod yX2_premiseCount, Cond.selects RX2 yX2_premiseCount yX2_premiseCount, Cond.code yX2_premiseCount cX2_premiseCount 2 (some .int), Cond.fieldLink RX2 18 "ProofChecker$Rows" "premiseCounts" "[I", Cond.methodLink RX5 88 yX3_takes, Cond.instanceMethod yX3_takes, Cond.selects RX3 yX3_takes yX3_takes, Cond.initialized RX3]
def wsX5_derive_r3 : List Cond := [Cond.code yX3_takes cX3_takes 1 (some .int), Cond.fieldLink RX3 81 "ProofChecker$Rule" "asks" "Ljava/lang/String;", Cond.methodLink RX3 87 yJ0_length_8abf5, Cond.instanceMethod yJ0_length_8abf5, Cond.selects RJ0 yJ0_length_8abf5 yJ0_length_8abf5, Cond.initialized RJ0, Cond.code yJ0_length_8abf5 cJ0_length_8abf5 1 (some .int), Cond.fieldLink RJ0 9 "java/lang/String" "value" "[B", Cond.methodLink RJ0 335 yJ0_coder_7d493, Cond.instanceMethod yJ0_coder_7d493, Cond.selects RJ0 yJ0_coder_7d493 yJ0_coder_7d493, Cond.code yJ0_coder_7d493 cJ0_coder_7d493 1 (some .byte), Cond.fieldLink RJ0 38 "java/lang/String" "COMPACT_STRINGS" "Z", Cond.fieldLink RJ0 15 "java/lang/String" "coder" "B", Cond.methodLink RX5 211 yX1_forget, Cond.instanceMethod yX1_forget, Cond.selects RX1 yX1_forget yX1_forget, Cond.initialized RX1, Cond.code yX1_forget cX1_forget 1 none, Cond.fieldLink RX1 7 "ProofChecker$Letters" "meanings" "[I", Cond.methodLink RX1 13 yJ7_fill_53178, Cond.static yJ7_fill_53178, Cond.initialized RJ7, Cond.code yJ7_fill_53178 cJ7_fill_53178 4 none]
def wsX5_derive_r4 : List Cond := [Cond.methodLink RX5 214 yX2_premiseAt, Cond.instanceMethod yX2_premiseAt, Cond.selects RX2 yX2_premiseAt yX2_premiseAt, Cond.code yX2_premiseAt cX2_premiseAt 4 (some .int), Cond.fieldLink RX2 21 "ProofChecker$Rows" "premises" "[I", Cond.methodLink RX2 32 yX2_premiseCount, Cond.methodLink RX5 220 yX5_isAsTold, Cond.instanceMethod yX5_isAsTold, Cond.selects RX5 yX5_isAsTold yX5_isAsTold, Cond.code yX5_isAsTold cX5_isAsTold 5 (some .boolean), Cond.methodLink RX5 139 yX4_kind, Cond.instanceMethod yX4_kind, Cond.selects RX4 yX4_kind yX4_kind, Cond.code yX4_kind cX4_kind 2 (some .int), Cond.methodLink RX5 224 yX5_signAt, Cond.static yX5_signAt, Cond.code yX5_signAt cX5_signAt 2 (some .char), Cond.methodLink RX5 248 yJ0_length_8abf5, Cond.methodLink RX5 251 yJ0_charAt_5068e, Cond.instanceMethod yJ0_charAt_5068e, Cond.selects RJ0 yJ0_charAt_5068e yJ0_charAt_5068e, Cond.code yJ0_charAt_5068e cJ0_charAt_5068e 2 (some .char), Cond.methodLink RJ0 492 yJ0_isLatin1_aae02, Cond.instanceMethod yJ0_isLatin1_aae02]
def wsX5_derive_r5 : List Cond := [Cond.selects RJ0 yJ0_isLatin1_aae02 yJ0_isLatin1_aae02, Cond.code yJ0_isLatin1_aae02 cJ0_isLatin1_aae02 1 (some .boolean), Cond.methodLink RJ0 495 yJ1_charAt_3b067, Cond.static yJ1_charAt_3b067, Cond.initialized RJ1, Cond.code yJ1_charAt_3b067 cJ1_charAt_3b067 2 (some .char), Cond.methodLink RJ1 9 yJ0_checkIndex_df160, Cond.static yJ0_checkIndex_df160, Cond.code yJ0_checkIndex_df160 cJ0_checkIndex_df160 2 none, Cond.fieldLink RJ0 1053 "jdk/internal/util/Preconditions" "SIOOBE_FORMATTER" "Ljava/util/function/BiFunction;", Cond.methodLink RJ0 1059 yJ3_checkIndex_8e157, Cond.static yJ3_checkIndex_8e157, Cond.initialized RJ3, Cond.code yJ3_checkIndex_8e157 cJ3_checkIndex_8e157 3 (some .int), Cond.methodLink RJ0 498 yJ2_charAt_3b067, Cond.static yJ2_charAt_3b067, Cond.initialized RJ2, Cond.code yJ2_charAt_3b067 cJ2_charAt_3b067 2 (some .char), Cond.methodLink RJ2 67 yJ2_checkIndex_2214a, Cond.static yJ2_checkIndex_2214a, Cond.code yJ2_checkIndex_2214a cJ2_checkIndex_2214a 2 none, Cond.methodLink RJ2 48 yJ2_length_9d52b, Cond.static yJ2_length_9d52b, Cond.code yJ2_length_9d52b cJ2_length_9d52b 1 (some .int)]
def wsX5_derive_r6 : List Cond := [Cond.methodLink RJ2 414 yJ0_checkIndex_df160, Cond.methodLink RJ2 71 yJ2_getChar_3b067, Cond.static yJ2_getChar_3b067, Cond.code yJ2_getChar_3b067 cJ2_getChar_3b067 2 (some .char), Cond.fieldLink RJ2 44 "java/lang/StringUTF16" "$assertionsDisabled" "Z", Cond.fieldLink RJ2 59 "java/lang/StringUTF16" "HI_BYTE_SHIFT" "I", Cond.fieldLink RJ2 63 "java/lang/StringUTF16" "LO_BYTE_SHIFT" "I", Cond.methodLink RX5 228 yX1_kindFor, Cond.static yX1_kindFor, Cond.code yX1_kindFor cX1_kindFor 1 (some .int), Cond.methodLink RX5 142 yX4_number, Cond.instanceMethod yX4_number, Cond.selects RX4 yX4_number yX4_number, Cond.code yX4_number cX4_number 4 (some .int), Cond.methodLink RX5 232 yX1_agree, Cond.instanceMethod yX1_agree, Cond.selects RX1 yX1_agree yX1_agree, Cond.code yX1_agree cX1_agree 3 (some .boolean), Cond.methodLink RX1 19 yX1_meaning, Cond.instanceMethod yX1_meaning, Cond.selects RX1 yX1_meaning yX1_meaning, Cond.code yX1_meaning cX1_meaning 2 (some .int), Cond.methodLink RX5 207 yX5_conclude, Cond.instanceMethod yX5_conclude]
def wsX5_derive_r7 : List Cond := [Cond.selects RX5 yX5_conclude yX5_conclude, Cond.code yX5_conclude cX5_conclude 4 none, Cond.fieldLink RX5 187 "ProofChecker$Rule" "AXIOM" "LProofChecker$Rule;", Cond.fieldLink RX5 14 "ProofChecker" "axioms" "LProofChecker$Statements;", Cond.fieldLink RX5 191 "ProofChecker$Rule" "GIVEN" "LProofChecker$Rule;", Cond.fieldLink RX5 194 "ProofChecker$Rule" "ANYTHING" "LProofChecker$Rule;", Cond.fieldLink RX5 18 "ProofChecker" "triples" "LProofChecker$Statements;", Cond.fieldLink RX5 197 "ProofChecker$Rule" "ITSELF" "LProofChecker$Rule;", Cond.methodLink RX5 236 yX2_instance, Cond.instanceMethod yX2_instance, Cond.selects RX2 yX2_instance yX2_instance, Cond.code yX2_instance cX2_instance 2 (some .int), Cond.fieldLink RX2 15 "ProofChecker$Rows" "instances" "[I", Cond.methodLink RX5 129 yX4_put, Cond.instanceMethod yX4_put, Cond.selects RX4 yX4_put yX4_put, Cond.code yX4_put cX4_put 4 none, Cond.methodLink RX4 28 yX4_kind, Cond.methodLink RX4 40 yX4_number, Cond.methodLink RX5 242 yX1_meaning, Cond.methodLink RX5 245 yX4_put_]
def wsX5_derive : List Cond := .code yX5_derive cX5_derive 3 none :: ((wsX5_derive_r1 ++ (wsX5_derive_r2 ++ (wsX5_derive_r3 ++ (wsX5_derive_r4 ++ (wsX5_derive_r5 ++ (wsX5_derive_r6 ++ wsX5_derive_r7)))))) ++ wsX50 ++ wsX40 ++ wsX20 ++ wsX10)
def wsX5_row_r1 : List Cond := [Cond.fieldLink RX5 24 "ProofChecker" "laid" "LProofChecker$Rows;", Cond.methodLink RX5 77 yX5_ruleNumbered, Cond.static yX5_ruleNumbered, Cond.initialized RX5, Cond.code yX5_ruleNumbered cX5_ruleNumbered 1 (some (.object "ProofChecker$Rule")), Cond.fieldLink RX5 183 "ProofChecker" "RULES" "[LProofChecker$Rule;", Cond.methodLink RX5 81 yX5_isInstance, Cond.instanceMethod yX5_isInstance, Cond.selects RX5 yX5_isInstance yX5_isInstance, Cond.code yX5_isInstance cX5_isInstance 3 (some .boolean), Cond.fieldLink RX5 187 "ProofChecker$Rule" "AXIOM" "LProofChecker$Rule;", Cond.fieldLink RX5 14 "ProofChecker" "axioms" "LProofChecker$Statements;", Cond.fieldLink RX5 191 "ProofChecker$Rule" "GIVEN" "LProofChecker$Rule;", Cond.fieldLink RX5 194 "ProofChecker$Rule" "ANYTHING" "LProofChecker$Rule;", Cond.fieldLink RX5 18 "ProofChecker" "triples" "LProofChecker$Statements;", Cond.fieldLink RX5 197 "ProofChecker$Rule" "ITSELF" "LProofChecker$Rule;", Cond.methodLink RX5 121 yX4_has, Cond.instanceMethod yX4_has, Cond.selects RX4 yX4_has yX4_has, Cond.initialized RX4, Cond.code yX4_has cX4_has 2 (some .boolean), Cond.methodLink RX4 28 yX4_kind, Cond.instanceMethod yX4_kind, Cond.selects RX4 yX4_kind yX4_kind]
def wsX5_row_r2 : List Cond := [Cond.code yX4_kind cX4_kind 2 (some .int), Cond.fieldLink RX4 15 "ProofChecker$Statements" "kinds" "[I", Cond.methodLink RX5 61 yX5_isTerm, Cond.static yX5_isTerm, Cond.code yX5_isTerm cX5_isTerm 1 (some .boolean), Cond.methodLink RX5 85 yX2_has, Cond.instanceMethod yX2_has, Cond.selects RX2 yX2_has yX2_has, Cond.initialized RX2, Cond.code yX2_has cX2_has 2 (some .boolean), Cond.fieldLink RX2 24 "ProofChecker$Rows" "last" "I", Cond.methodLink RX5 88 yX3_takes, Cond.instanceMethod yX3_takes, Cond.selects RX3 yX3_takes yX3_takes, Cond.initialized RX3, Cond.code yX3_takes cX3_takes 1 (some .int), Cond.fieldLink RX3 81 "ProofChecker$Rule" "asks" "Ljava/lang/String;", Cond.methodLink RX3 87 yJ0_length_8abf5, Cond.instanceMethod yJ0_length_8abf5, Cond.selects RJ0 yJ0_length_8abf5 yJ0_length_8abf5, Cond.initialized RJ0, Cond.code yJ0_length_8abf5 cJ0_length_8abf5 1 (some .int), Cond.fieldLink RJ0 9 "java/lang/String" "value" "[B", Cond.methodLink RJ0 335 yJ0_coder_7d493]
def wsX5_row_r3 : List Cond := [Cond.instanceMethod yJ0_coder_7d493, Cond.selects RJ0 yJ0_coder_7d493 yJ0_coder_7d493, Cond.code yJ0_coder_7d493 cJ0_coder_7d493 1 (some .byte), Cond.fieldLink RJ0 38 "java/lang/String" "COMPACT_STRINGS" "Z", Cond.fieldLink RJ0 15 "java/lang/String" "coder" "B", Cond.methodLink RX5 94 yX2_lay, Cond.instanceMethod yX2_lay, Cond.selects RX2 yX2_lay yX2_lay, Cond.code yX2_lay cX2_lay 3 (some .int), Cond.fieldLink RX2 9 "ProofChecker$Rows" "ruleNumbers" "[I", Cond.fieldLink RX2 15 "ProofChecker$Rows" "instances" "[I", Cond.fieldLink RX2 18 "ProofChecker$Rows" "premiseCounts" "[I", Cond.methodLink RX5 98 yX2_addPremise, Cond.instanceMethod yX2_addPremise, Cond.selects RX2 yX2_addPremise yX2_addPremise, Cond.code yX2_addPremise cX2_addPremise 4 none, Cond.fieldLink RX2 21 "ProofChecker$Rows" "premises" "[I", Cond.methodLink RX2 32 yX2_premiseCount, Cond.instanceMethod yX2_premiseCount, Cond.selects RX2 yX2_premiseCount yX2_premiseCount, Cond.code yX2_premiseCount cX2_premiseCount 2 (some .int), Cond.methodLink RX2 28 yX2_has, Cond.methodLink RX5 102 yX5_derive, Cond.instanceMethod yX5_derive]
def wsX5_row_r4 : List Cond := [Cond.selects RX5 yX5_derive yX5_derive, Cond.code yX5_derive cX5_derive 3 none, Cond.fieldLink RX5 28 "ProofChecker" "stated" "LProofChecker$Statements;", Cond.methodLink RX5 200 yX4_clear, Cond.instanceMethod yX4_clear, Cond.selects RX4 yX4_clear yX4_clear, Cond.code yX4_clear cX4_clear 2 none, Cond.methodLink RX4 32 yX4_put_, Cond.instanceMethod yX4_put_, Cond.selects RX4 yX4_put_ yX4_put_, Cond.code yX4_put_ cX4_put_ 6 none, Cond.fieldLink RX4 21 "ProofChecker$Statements" "numbers" "[I", Cond.methodLink RX5 105 yX5_ruleOf, Cond.instanceMethod yX5_ruleOf, Cond.selects RX5 yX5_ruleOf yX5_ruleOf, Cond.code yX5_ruleOf cX5_ruleOf 2 (some (.object "ProofChecker$Rule")), Cond.methodLink RX5 136 yX2_ruleNumber, Cond.instanceMethod yX2_ruleNumber, Cond.selects RX2 yX2_ruleNumber yX2_ruleNumber, Cond.code yX2_ruleNumber cX2_ruleNumber 2 (some .int), Cond.methodLink RX5 203 yX5_fits, Cond.instanceMethod yX5_fits, Cond.selects RX5 yX5_fits yX5_fits, Cond.code yX5_fits cX5_fits 4 (some .boolean)]
def wsX5_row_r5 : List Cond := [Cond.fieldLink RX5 34 "ProofChecker" "letters" "LProofChecker$Letters;", Cond.methodLink RX5 108 yX2_premiseCount, Cond.methodLink RX5 211 yX1_forget, Cond.instanceMethod yX1_forget, Cond.selects RX1 yX1_forget yX1_forget, Cond.initialized RX1, Cond.code yX1_forget cX1_forget 1 none, Cond.fieldLink RX1 7 "ProofChecker$Letters" "meanings" "[I", Cond.methodLink RX1 13 yJ7_fill_53178, Cond.static yJ7_fill_53178, Cond.initialized RJ7, Cond.code yJ7_fill_53178 cJ7_fill_53178 4 none, Cond.methodLink RX5 214 yX2_premiseAt, Cond.instanceMethod yX2_premiseAt, Cond.selects RX2 yX2_premiseAt yX2_premiseAt, Cond.code yX2_premiseAt cX2_premiseAt 4 (some .int), Cond.methodLink RX5 220 yX5_isAsTold, Cond.instanceMethod yX5_isAsTold, Cond.selects RX5 yX5_isAsTold yX5_isAsTold, Cond.code yX5_isAsTold cX5_isAsTold 5 (some .boolean), Cond.methodLink RX5 139 yX4_kind, Cond.methodLink RX5 224 yX5_signAt, Cond.static yX5_signAt, Cond.code yX5_signAt cX5_signAt 2 (some .char)]
def wsX5_row_r6 : List Cond := [Cond.methodLink RX5 248 yJ0_length_8abf5, Cond.methodLink RX5 251 yJ0_charAt_5068e, Cond.instanceMethod yJ0_charAt_5068e, Cond.selects RJ0 yJ0_charAt_5068e yJ0_charAt_5068e, Cond.code yJ0_charAt_5068e cJ0_charAt_5068e 2 (some .char), Cond.methodLink RJ0 492 yJ0_isLatin1_aae02, Cond.instanceMethod yJ0_isLatin1_aae02, Cond.selects RJ0 yJ0_isLatin1_aae02 yJ0_isLatin1_aae02, Cond.code yJ0_isLatin1_aae02 cJ0_isLatin1_aae02 1 (some .boolean), Cond.methodLink RJ0 495 yJ1_charAt_3b067, Cond.static yJ1_charAt_3b067, Cond.initialized RJ1, Cond.code yJ1_charAt_3b067 cJ1_charAt_3b067 2 (some .char), Cond.methodLink RJ1 9 yJ0_checkIndex_df160, Cond.static yJ0_checkIndex_df160, Cond.code yJ0_checkIndex_df160 cJ0_checkIndex_df160 2 none, Cond.fieldLink RJ0 1053 "jdk/internal/util/Preconditions" "SIOOBE_FORMATTER" "Ljava/util/function/BiFunction;", Cond.methodLink RJ0 1059 yJ3_checkIndex_8e157, Cond.static yJ3_checkIndex_8e157, Cond.initialized RJ3, Cond.code yJ3_checkIndex_8e157 cJ3_checkIndex_8e157 3 (some .int), Cond.methodLink RJ0 498 yJ2_charAt_3b067, Cond.static yJ2_charAt_3b067, Cond.initialized RJ2]
def wsX5_row_r7 : List Cond := [Cond.code yJ2_charAt_3b067 cJ2_charAt_3b067 2 (some .char), Cond.methodLink RJ2 67 yJ2_checkIndex_2214a, Cond.static yJ2_checkIndex_2214a, Cond.code yJ2_checkIndex_2214a cJ2_checkIndex_2214a 2 none, Cond.methodLink RJ2 48 yJ2_length_9d52b, Cond.static yJ2_length_9d52b, Cond.code yJ2_length_9d52b cJ2_length_9d52b 1 (some .int), Cond.methodLink RJ2 414 yJ0_checkIndex_df160, Cond.methodLink RJ2 71 yJ2_getChar_3b067, Cond.static yJ2_getChar_3b067, Cond.code yJ2_getChar_3b067 cJ2_getChar_3b067 2 (some .char), Cond.fieldLink RJ2 44 "java/lang/StringUTF16" "$assertionsDisabled" "Z", Cond.fieldLink RJ2 59 "java/lang/StringUTF16" "HI_BYTE_SHIFT" "I", Cond.fieldLink RJ2 63 "java/lang/StringUTF16" "LO_BYTE_SHIFT" "I", Cond.methodLink RX5 228 yX1_kindFor, Cond.static yX1_kindFor, Cond.code yX1_kindFor cX1_kindFor 1 (some .int), Cond.methodLink RX5 142 yX4_number, Cond.instanceMethod yX4_number, Cond.selects RX4 yX4_number yX4_number, Cond.code yX4_number cX4_number 4 (some .int), Cond.methodLink RX5 232 yX1_agree, Cond.instanceMethod yX1_agree, Cond.selects RX1 yX1_agree yX1_agree]
def wsX5_row_r8 : List Cond := [Cond.code yX1_agree cX1_agree 3 (some .boolean), Cond.methodLink RX1 19 yX1_meaning, Cond.instanceMethod yX1_meaning, Cond.selects RX1 yX1_meaning yX1_meaning, Cond.code yX1_meaning cX1_meaning 2 (some .int), Cond.methodLink RX5 207 yX5_conclude, Cond.instanceMethod yX5_conclude, Cond.selects RX5 yX5_conclude yX5_conclude, Cond.code yX5_conclude cX5_conclude 4 none, Cond.methodLink RX5 236 yX2_instance, Cond.instanceMethod yX2_instance, Cond.selects RX2 yX2_instance yX2_instance, Cond.code yX2_instance cX2_instance 2 (some .int), Cond.methodLink RX5 129 yX4_put, Cond.instanceMethod yX4_put, Cond.selects RX4 yX4_put yX4_put, Cond.code yX4_put cX4_put 4 none, Cond.methodLink RX4 40 yX4_number, Cond.methodLink RX5 242 yX1_meaning, Cond.methodLink RX5 245 yX4_put_]
def wsX5_row : List Cond := .code yX5_row cX5_row 6 (some .int) :: ((wsX5_row_r1 ++ (wsX5_row_r2 ++ (wsX5_row_r3 ++ (wsX5_row_r4 ++ (wsX5_row_r5 ++ (wsX5_row_r6 ++ (wsX5_row_r7 ++ wsX5_row_r8))))))) ++ wsX50 ++ wsX40 ++ wsX20 ++ wsX10)
def wsX5_premise_r1 : List Cond := [Cond.fieldLink RX5 24 "ProofChecker" "laid" "LProofChecker$Rows;", Cond.methodLink RX5 105 yX5_ruleOf, Cond.instanceMethod yX5_ruleOf, Cond.selects RX5 yX5_ruleOf yX5_ruleOf, Cond.initialized RX5, Cond.code yX5_ruleOf cX5_ruleOf 2 (some (.object "ProofChecker$Rule")), Cond.methodLink RX5 85 yX2_has, Cond.instanceMethod yX2_has, Cond.selects RX2 yX2_has yX2_has, Cond.initialized RX2, Cond.code yX2_has cX2_has 2 (some .boolean), Cond.fieldLink RX2 24 "ProofChecker$Rows" "last" "I", Cond.methodLink RX5 136 yX2_ruleNumber, Cond.instanceMethod yX2_ruleNumber, Cond.selects RX2 yX2_ruleNumber yX2_ruleNumber, Cond.code yX2_ruleNumber cX2_ruleNumber 2 (some .int), Cond.fieldLink RX2 9 "ProofChecker$Rows" "ruleNumbers" "[I", Cond.methodLink RX2 28 yX2_has, Cond.methodLink RX5 77 yX5_ruleNumbered, Cond.static yX5_ruleNumbered, Cond.code yX5_ruleNumbered cX5_ruleNumbered 1 (some (.object "ProofChecker$Rule")), Cond.fieldLink RX5 183 "ProofChecker" "RULES" "[LProofChecker$Rule;", Cond.methodLink RX5 108 yX2_premiseCount, Cond.instanceMethod yX2_premiseCount]
def wsX5_premise_r2 : List Cond := [Cond.selects RX2 yX2_premiseCount yX2_premiseCount, Cond.code yX2_premiseCount cX2_premiseCount 2 (some .int), Cond.fieldLink RX2 18 "ProofChecker$Rows" "premiseCounts" "[I", Cond.methodLink RX5 88 yX3_takes, Cond.instanceMethod yX3_takes, Cond.selects RX3 yX3_takes yX3_takes, Cond.initialized RX3, Cond.code yX3_takes cX3_takes 1 (some .int), Cond.fieldLink RX3 81 "ProofChecker$Rule" "asks" "Ljava/lang/String;", Cond.methodLink RX3 87 yJ0_length_8abf5, Cond.instanceMethod yJ0_length_8abf5, Cond.selects RJ0 yJ0_length_8abf5 yJ0_length_8abf5, Cond.initialized RJ0, Cond.code yJ0_length_8abf5 cJ0_length_8abf5 1 (some .int), Cond.fieldLink RJ0 9 "java/lang/String" "value" "[B", Cond.methodLink RJ0 335 yJ0_coder_7d493, Cond.instanceMethod yJ0_coder_7d493, Cond.selects RJ0 yJ0_coder_7d493 yJ0_coder_7d493, Cond.code yJ0_coder_7d493 cJ0_coder_7d493 1 (some .byte), Cond.fieldLink RJ0 38 "java/lang/String" "COMPACT_STRINGS" "Z", Cond.fieldLink RJ0 15 "java/lang/String" "coder" "B", Cond.methodLink RX5 98 yX2_addPremise, Cond.instanceMethod yX2_addPremise, Cond.selects RX2 yX2_addPremise yX2_addPremise]
def wsX5_premise_r3 : List Cond := [Cond.code yX2_addPremise cX2_addPremise 4 none, Cond.fieldLink RX2 21 "ProofChecker$Rows" "premises" "[I", Cond.methodLink RX2 32 yX2_premiseCount, Cond.methodLink RX5 112 yX2_last, Cond.instanceMethod yX2_last, Cond.selects RX2 yX2_last yX2_last, Cond.code yX2_last cX2_last 1 (some .int), Cond.methodLink RX5 102 yX5_derive, Cond.instanceMethod yX5_derive, Cond.selects RX5 yX5_derive yX5_derive, Cond.code yX5_derive cX5_derive 3 none, Cond.fieldLink RX5 28 "ProofChecker" "stated" "LProofChecker$Statements;", Cond.methodLink RX5 200 yX4_clear, Cond.instanceMethod yX4_clear, Cond.selects RX4 yX4_clear yX4_clear, Cond.initialized RX4, Cond.code yX4_clear cX4_clear 2 none, Cond.methodLink RX4 32 yX4_put_, Cond.instanceMethod yX4_put_, Cond.selects RX4 yX4_put_ yX4_put_, Cond.code yX4_put_ cX4_put_ 6 none, Cond.fieldLink RX4 15 "ProofChecker$Statements" "kinds" "[I", Cond.fieldLink RX4 21 "ProofChecker$Statements" "numbers" "[I", Cond.methodLink RX5 203 yX5_fits]
def wsX5_premise_r4 : List Cond := [Cond.instanceMethod yX5_fits, Cond.selects RX5 yX5_fits yX5_fits, Cond.code yX5_fits cX5_fits 4 (some .boolean), Cond.fieldLink RX5 34 "ProofChecker" "letters" "LProofChecker$Letters;", Cond.methodLink RX5 211 yX1_forget, Cond.instanceMethod yX1_forget, Cond.selects RX1 yX1_forget yX1_forget, Cond.initialized RX1, Cond.code yX1_forget cX1_forget 1 none, Cond.fieldLink RX1 7 "ProofChecker$Letters" "meanings" "[I", Cond.methodLink RX1 13 yJ7_fill_53178, Cond.static yJ7_fill_53178, Cond.initialized RJ7, Cond.code yJ7_fill_53178 cJ7_fill_53178 4 none, Cond.methodLink RX5 214 yX2_premiseAt, Cond.instanceMethod yX2_premiseAt, Cond.selects RX2 yX2_premiseAt yX2_premiseAt, Cond.code yX2_premiseAt cX2_premiseAt 4 (some .int), Cond.methodLink RX5 220 yX5_isAsTold, Cond.instanceMethod yX5_isAsTold, Cond.selects RX5 yX5_isAsTold yX5_isAsTold, Cond.code yX5_isAsTold cX5_isAsTold 5 (some .boolean), Cond.methodLink RX5 139 yX4_kind, Cond.instanceMethod yX4_kind]
def wsX5_premise_r5 : List Cond := [Cond.selects RX4 yX4_kind yX4_kind, Cond.code yX4_kind cX4_kind 2 (some .int), Cond.methodLink RX5 224 yX5_signAt, Cond.static yX5_signAt, Cond.code yX5_signAt cX5_signAt 2 (some .char), Cond.methodLink RX5 248 yJ0_length_8abf5, Cond.methodLink RX5 251 yJ0_charAt_5068e, Cond.instanceMethod yJ0_charAt_5068e, Cond.selects RJ0 yJ0_charAt_5068e yJ0_charAt_5068e, Cond.code yJ0_charAt_5068e cJ0_charAt_5068e 2 (some .char), Cond.methodLink RJ0 492 yJ0_isLatin1_aae02, Cond.instanceMethod yJ0_isLatin1_aae02, Cond.selects RJ0 yJ0_isLatin1_aae02 yJ0_isLatin1_aae02, Cond.code yJ0_isLatin1_aae02 cJ0_isLatin1_aae02 1 (some .boolean), Cond.methodLink RJ0 495 yJ1_charAt_3b067, Cond.static yJ1_charAt_3b067, Cond.initialized RJ1, Cond.code yJ1_charAt_3b067 cJ1_charAt_3b067 2 (some .char), Cond.methodLink RJ1 9 yJ0_checkIndex_df160, Cond.static yJ0_checkIndex_df160, Cond.code yJ0_checkIndex_df160 cJ0_checkIndex_df160 2 none, Cond.fieldLink RJ0 1053 "jdk/internal/util/Preconditions" "SIOOBE_FORMATTER" "Ljava/util/function/BiFunction;", Cond.methodLink RJ0 1059 yJ3_checkIndex_8e157, Cond.static yJ3_checkIndex_8e157]
def wsX5_premise_r6 : List Cond := [Cond.initialized RJ3, Cond.code yJ3_checkIndex_8e157 cJ3_checkIndex_8e157 3 (some .int), Cond.methodLink RJ0 498 yJ2_charAt_3b067, Cond.static yJ2_charAt_3b067, Cond.initialized RJ2, Cond.code yJ2_charAt_3b067 cJ2_charAt_3b067 2 (some .char), Cond.methodLink RJ2 67 yJ2_checkIndex_2214a, Cond.static yJ2_checkIndex_2214a, Cond.code yJ2_checkIndex_2214a cJ2_checkIndex_2214a 2 none, Cond.methodLink RJ2 48 yJ2_length_9d52b, Cond.static yJ2_length_9d52b, Cond.code yJ2_length_9d52b cJ2_length_9d52b 1 (some .int), Cond.methodLink RJ2 414 yJ0_checkIndex_df160, Cond.methodLink RJ2 71 yJ2_getChar_3b067, Cond.static yJ2_getChar_3b067, Cond.code yJ2_getChar_3b067 cJ2_getChar_3b067 2 (some .char), Cond.fieldLink RJ2 44 "java/lang/StringUTF16" "$assertionsDisabled" "Z", Cond.fieldLink RJ2 59 "java/lang/StringUTF16" "HI_BYTE_SHIFT" "I", Cond.fieldLink RJ2 63 "java/lang/StringUTF16" "LO_BYTE_SHIFT" "I", Cond.methodLink RX5 228 yX1_kindFor, Cond.static yX1_kindFor, Cond.code yX1_kindFor cX1_kindFor 1 (some .int), Cond.methodLink RX5 142 yX4_number, Cond.instanceMethod yX4_number]
def wsX5_premise_r7 : List Cond := [Cond.selects RX4 yX4_number yX4_number, Cond.code yX4_number cX4_number 4 (some .int), Cond.methodLink RX5 232 yX1_agree, Cond.instanceMethod yX1_agree, Cond.selects RX1 yX1_agree yX1_agree, Cond.code yX1_agree cX1_agree 3 (some .boolean), Cond.methodLink RX1 19 yX1_meaning, Cond.instanceMethod yX1_meaning, Cond.selects RX1 yX1_meaning yX1_meaning, Cond.code yX1_meaning cX1_meaning 2 (some .int), Cond.methodLink RX5 207 yX5_conclude, Cond.instanceMethod yX5_conclude, Cond.selects RX5 yX5_conclude yX5_conclude, Cond.code yX5_conclude cX5_conclude 4 none, Cond.fieldLink RX5 187 "ProofChecker$Rule" "AXIOM" "LProofChecker$Rule;", Cond.fieldLink RX5 14 "ProofChecker" "axioms" "LProofChecker$Statements;", Cond.fieldLink RX5 191 "ProofChecker$Rule" "GIVEN" "LProofChecker$Rule;", Cond.fieldLink RX5 194 "ProofChecker$Rule" "ANYTHING" "LProofChecker$Rule;", Cond.fieldLink RX5 18 "ProofChecker" "triples" "LProofChecker$Statements;", Cond.fieldLink RX5 197 "ProofChecker$Rule" "ITSELF" "LProofChecker$Rule;", Cond.methodLink RX5 236 yX2_instance, Cond.instanceMethod yX2_instance, Cond.selects RX2 yX2_instance yX2_instance, Cond.code yX2_instance cX2_instance 2 (some .int)]
def wsX5_premise_r8 : List Cond := [Cond.fieldLink RX2 15 "ProofChecker$Rows" "instances" "[I", Cond.methodLink RX5 129 yX4_put, Cond.instanceMethod yX4_put, Cond.selects RX4 yX4_put yX4_put, Cond.code yX4_put cX4_put 4 none, Cond.methodLink RX4 28 yX4_kind, Cond.methodLink RX4 40 yX4_number, Cond.methodLink RX5 242 yX1_meaning, Cond.methodLink RX5 245 yX4_put_]
def wsX5_premise : List Cond := .code yX5_premise cX5_premise 5 (some .int) :: ((wsX5_premise_r1 ++ (wsX5_premise_r2 ++ (wsX5_premise_r3 ++ (wsX5_premise_r4 ++ (wsX5_premise_r5 ++ (wsX5_premise_r6 ++ (wsX5_premise_r7 ++ wsX5_premise_r8))))))) ++ wsX50 ++ wsX20 ++ wsX40 ++ wsX10)
def wsX5_markProof : List Cond := .code yX5_markProof cX5_markProof 5 none :: ([.fieldLink RX5 45 "ProofChecker" "needed" "[Z", .fieldLink RX5 24 "ProofChecker" "laid" "LProofChecker$Rows;", .methodLink RX5 85 yX2_has, .instanceMethod yX2_has, .selects RX2 yX2_has yX2_has, .initialized RX2, .code yX2_has cX2_has 2 (some .boolean), .fieldLink RX2 24 "ProofChecker$Rows" "last" "I", .methodLink RX5 108 yX2_premiseCount, .instanceMethod yX2_premiseCount, .selects RX2 yX2_premiseCount yX2_premiseCount, .code yX2_premiseCount cX2_premiseCount 2 (some .int), .fieldLink RX2 18 "ProofChecker$Rows" "premiseCounts" "[I", .methodLink RX2 28 yX2_has, .methodLink RX5 214 yX2_premiseAt, .instanceMethod yX2_premiseAt, .selects RX2 yX2_premiseAt yX2_premiseAt, .code yX2_premiseAt cX2_premiseAt 4 (some .int), .fieldLink RX2 21 "ProofChecker$Rows" "premises" "[I", .methodLink RX2 32 yX2_premiseCount] ++ wsX50 ++ wsX20)
def wsX5_leastBroken : List Cond := .code yX5_leastBroken cX5_leastBroken 3 (some .int) :: ([.fieldLink RX5 45 "ProofChecker" "needed" "[Z", .fieldLink RX5 28 "ProofChecker" "stated" "LProofChecker$Statements;", .methodLink RX5 121 yX4_has, .instanceMethod yX4_has, .selects RX4 yX4_has yX4_has, .initialized RX4, .code yX4_has cX4_has 2 (some .boolean), .methodLink RX4 28 yX4_kind, .instanceMethod yX4_kind, .selects RX4 yX4_kind yX4_kind, .code yX4_kind cX4_kind 2 (some .int), .fieldLink RX4 15 "ProofChecker$Statements" "kinds" "[I"] ++ wsX50 ++ wsX40)
def wsX5_check_r1 : List Cond := [Cond.fieldLink RX5 24 "ProofChecker" "laid" "LProofChecker$Rows;", Cond.fieldLink RX5 53 "ProofChecker" "broken" "I", Cond.fieldLink RX5 28 "ProofChecker" "stated" "LProofChecker$Statements;", Cond.methodLink RX5 85 yX2_has, Cond.instanceMethod yX2_has, Cond.selects RX2 yX2_has yX2_has, Cond.initialized RX2, Cond.code yX2_has cX2_has 2 (some .boolean), Cond.fieldLink RX2 24 "ProofChecker$Rows" "last" "I", Cond.methodLink RX5 115 yX5_markProof, Cond.instanceMethod yX5_markProof, Cond.selects RX5 yX5_markProof yX5_markProof, Cond.initialized RX5, Cond.code yX5_markProof cX5_markProof 5 none, Cond.fieldLink RX5 45 "ProofChecker" "needed" "[Z", Cond.methodLink RX5 108 yX2_premiseCount, Cond.instanceMethod yX2_premiseCount, Cond.selects RX2 yX2_premiseCount yX2_premiseCount, Cond.code yX2_premiseCount cX2_premiseCount 2 (some .int), Cond.fieldLink RX2 18 "ProofChecker$Rows" "premiseCounts" "[I", Cond.methodLink RX2 28 yX2_has, Cond.methodLink RX5 214 yX2_premiseAt, Cond.instanceMethod yX2_premiseAt, Cond.selects RX2 yX2_premiseAt yX2_premiseAt]
def wsX5_check_r2 : List Cond := [Cond.code yX2_premiseAt cX2_premiseAt 4 (some .int), Cond.fieldLink RX2 21 "ProofChecker$Rows" "premises" "[I", Cond.methodLink RX2 32 yX2_premiseCount, Cond.methodLink RX5 118 yX5_leastBroken, Cond.instanceMethod yX5_leastBroken, Cond.selects RX5 yX5_leastBroken yX5_leastBroken, Cond.code yX5_leastBroken cX5_leastBroken 3 (some .int), Cond.methodLink RX5 121 yX4_has, Cond.instanceMethod yX4_has, Cond.selects RX4 yX4_has yX4_has, Cond.initialized RX4, Cond.code yX4_has cX4_has 2 (some .boolean), Cond.methodLink RX4 28 yX4_kind, Cond.instanceMethod yX4_kind, Cond.selects RX4 yX4_kind yX4_kind, Cond.code yX4_kind cX4_kind 2 (some .int), Cond.fieldLink RX4 15 "ProofChecker$Statements" "kinds" "[I"]
def wsX5_check : List Cond := .code yX5_check cX5_check 2 (some .int) :: ((wsX5_check_r1 ++ wsX5_check_r2) ++ wsX50 ++ wsX20 ++ wsX40)
def wsX5_broken : List Cond := .code yX5_broken cX5_broken 1 (some .int) :: ([.fieldLink RX5 53 "ProofChecker" "broken" "I"] ++ wsX50)
def wsX5_rows_r1 : List Cond := [Cond.fieldLink RX5 24 "ProofChecker" "laid" "LProofChecker$Rows;", Cond.fieldLink RX5 45 "ProofChecker" "needed" "[Z", Cond.methodLink RX5 85 yX2_has, Cond.instanceMethod yX2_has, Cond.selects RX2 yX2_has yX2_has, Cond.initialized RX2, Cond.code yX2_has cX2_has 2 (some .boolean), Cond.fieldLink RX2 24 "ProofChecker$Rows" "last" "I", Cond.methodLink RX5 115 yX5_markProof, Cond.instanceMethod yX5_markProof, Cond.selects RX5 yX5_markProof yX5_markProof, Cond.initialized RX5, Cond.code yX5_markProof cX5_markProof 5 none, Cond.methodLink RX5 108 yX2_premiseCount, Cond.instanceMethod yX2_premiseCount, Cond.selects RX2 yX2_premiseCount yX2_premiseCount, Cond.code yX2_premiseCount cX2_premiseCount 2 (some .int), Cond.fieldLink RX2 18 "ProofChecker$Rows" "premiseCounts" "[I", Cond.methodLink RX2 28 yX2_has, Cond.methodLink RX5 214 yX2_premiseAt, Cond.instanceMethod yX2_premiseAt, Cond.selects RX2 yX2_premiseAt yX2_premiseAt, Cond.code yX2_premiseAt cX2_premiseAt 4 (some .int), Cond.fieldLink RX2 21 "ProofChecker$Rows" "premises" "[I"]
def wsX5_rows_r2 : List Cond := [Cond.methodLink RX2 32 yX2_premiseCount]
def wsX5_rows : List Cond := .code yX5_rows cX5_rows 4 (some .int) :: ((wsX5_rows_r1 ++ wsX5_rows_r2) ++ wsX50 ++ wsX20)
def wsX5_sizeAbovePremises_r1 : List Cond := [Cond.fieldLink RX5 24 "ProofChecker" "laid" "LProofChecker$Rows;", Cond.fieldLink RX5 49 "ProofChecker" "reckoned" "[I", Cond.constantLong RX5 252 (1000000000), Cond.methodLink RX5 254 Lib.MathLoose.min_long.x, Cond.static Lib.MathLoose.min_long.x, Cond.initialized "java/lang/Math", Cond.code Lib.MathLoose.min_long.x Lib.MathLoose.min_long.code 4 (some .long), Cond.methodLink RX5 108 yX2_premiseCount, Cond.instanceMethod yX2_premiseCount, Cond.selects RX2 yX2_premiseCount yX2_premiseCount, Cond.initialized RX2, Cond.code yX2_premiseCount cX2_premiseCount 2 (some .int), Cond.fieldLink RX2 18 "ProofChecker$Rows" "premiseCounts" "[I", Cond.methodLink RX2 28 yX2_has, Cond.instanceMethod yX2_has, Cond.selects RX2 yX2_has yX2_has, Cond.code yX2_has cX2_has 2 (some .boolean), Cond.fieldLink RX2 24 "ProofChecker$Rows" "last" "I", Cond.methodLink RX5 214 yX2_premiseAt, Cond.instanceMethod yX2_premiseAt, Cond.selects RX2 yX2_premiseAt yX2_premiseAt, Cond.code yX2_premiseAt cX2_premiseAt 4 (some .int), Cond.fieldLink RX2 21 "ProofChecker$Rows" "premises" "[I", Cond.methodLink RX2 32 yX2_premiseCount]
def wsX5_sizeAbovePremises_r2 : List Cond := [Cond.methodLink RX5 85 yX2_has]
def wsX5_sizeAbovePremises : List Cond := .code yX5_sizeAbovePremises cX5_sizeAbovePremises 6 (some .int) :: ((wsX5_sizeAbovePremises_r1 ++ wsX5_sizeAbovePremises_r2) ++ wsX50 ++ wsX20)
def wsX5_size_r1 : List Cond := [Cond.fieldLink RX5 24 "ProofChecker" "laid" "LProofChecker$Rows;", Cond.fieldLink RX5 49 "ProofChecker" "reckoned" "[I", Cond.methodLink RX5 85 yX2_has, Cond.instanceMethod yX2_has, Cond.selects RX2 yX2_has yX2_has, Cond.initialized RX2, Cond.code yX2_has cX2_has 2 (some .boolean), Cond.fieldLink RX2 24 "ProofChecker$Rows" "last" "I", Cond.methodLink RX5 122 yX5_sizeAbovePremises, Cond.instanceMethod yX5_sizeAbovePremises, Cond.selects RX5 yX5_sizeAbovePremises yX5_sizeAbovePremises, Cond.initialized RX5, Cond.code yX5_sizeAbovePremises cX5_sizeAbovePremises 6 (some .int), Cond.constantLong RX5 252 (1000000000), Cond.methodLink RX5 254 Lib.MathLoose.min_long.x, Cond.static Lib.MathLoose.min_long.x, Cond.initialized "java/lang/Math", Cond.code Lib.MathLoose.min_long.x Lib.MathLoose.min_long.code 4 (some .long), Cond.methodLink RX5 108 yX2_premiseCount, Cond.instanceMethod yX2_premiseCount, Cond.selects RX2 yX2_premiseCount yX2_premiseCount, Cond.code yX2_premiseCount cX2_premiseCount 2 (some .int), Cond.fieldLink RX2 18 "ProofChecker$Rows" "premiseCounts" "[I", Cond.methodLink RX2 28 yX2_has]
def wsX5_size_r2 : List Cond := [Cond.methodLink RX5 214 yX2_premiseAt, Cond.instanceMethod yX2_premiseAt, Cond.selects RX2 yX2_premiseAt yX2_premiseAt, Cond.code yX2_premiseAt cX2_premiseAt 4 (some .int), Cond.fieldLink RX2 21 "ProofChecker$Rows" "premises" "[I", Cond.methodLink RX2 32 yX2_premiseCount]
def wsX5_size : List Cond := .code yX5_size cX5_size 3 (some .int) :: ((wsX5_size_r1 ++ wsX5_size_r2) ++ wsX50 ++ wsX20)
def wsX5_drop_r1 : List Cond := [Cond.fieldLink RX5 24 "ProofChecker" "laid" "LProofChecker$Rows;", Cond.fieldLink RX5 45 "ProofChecker" "needed" "[Z", Cond.fieldLink RX5 49 "ProofChecker" "reckoned" "[I", Cond.fieldLink RX5 28 "ProofChecker" "stated" "LProofChecker$Statements;", Cond.fieldLink RX5 53 "ProofChecker" "broken" "I", Cond.methodLink RX5 85 yX2_has, Cond.instanceMethod yX2_has, Cond.selects RX2 yX2_has yX2_has, Cond.initialized RX2, Cond.code yX2_has cX2_has 2 (some .boolean), Cond.fieldLink RX2 24 "ProofChecker$Rows" "last" "I", Cond.methodLink RX5 115 yX5_markProof, Cond.instanceMethod yX5_markProof, Cond.selects RX5 yX5_markProof yX5_markProof, Cond.initialized RX5, Cond.code yX5_markProof cX5_markProof 5 none, Cond.methodLink RX5 108 yX2_premiseCount, Cond.instanceMethod yX2_premiseCount, Cond.selects RX2 yX2_premiseCount yX2_premiseCount, Cond.code yX2_premiseCount cX2_premiseCount 2 (some .int), Cond.fieldLink RX2 18 "ProofChecker$Rows" "premiseCounts" "[I", Cond.methodLink RX2 28 yX2_has, Cond.methodLink RX5 214 yX2_premiseAt, Cond.instanceMethod yX2_premiseAt]
def wsX5_drop_r2 : List Cond := [Cond.selects RX2 yX2_premiseAt yX2_premiseAt, Cond.code yX2_premiseAt cX2_premiseAt 4 (some .int), Cond.fieldLink RX2 21 "ProofChecker$Rows" "premises" "[I", Cond.methodLink RX2 32 yX2_premiseCount, Cond.methodLink RX5 125 yX2_move, Cond.instanceMethod yX2_move, Cond.selects RX2 yX2_move yX2_move, Cond.code yX2_move cX2_move 8 none, Cond.fieldLink RX2 9 "ProofChecker$Rows" "ruleNumbers" "[I", Cond.fieldLink RX2 15 "ProofChecker$Rows" "instances" "[I", Cond.methodLink RX5 129 yX4_put, Cond.instanceMethod yX4_put, Cond.selects RX4 yX4_put yX4_put, Cond.initialized RX4, Cond.code yX4_put cX4_put 4 none, Cond.methodLink RX4 28 yX4_kind, Cond.instanceMethod yX4_kind, Cond.selects RX4 yX4_kind yX4_kind, Cond.code yX4_kind cX4_kind 2 (some .int), Cond.fieldLink RX4 15 "ProofChecker$Statements" "kinds" "[I", Cond.methodLink RX4 40 yX4_number, Cond.instanceMethod yX4_number, Cond.selects RX4 yX4_number yX4_number, Cond.code yX4_number cX4_number 4 (some .int)]
def wsX5_drop_r3 : List Cond := [Cond.fieldLink RX4 21 "ProofChecker$Statements" "numbers" "[I", Cond.methodLink RX4 32 yX4_put_, Cond.instanceMethod yX4_put_, Cond.selects RX4 yX4_put_ yX4_put_, Cond.code yX4_put_ cX4_put_ 6 none, Cond.methodLink RX5 133 yX2_keepOnly, Cond.instanceMethod yX2_keepOnly, Cond.selects RX2 yX2_keepOnly yX2_keepOnly, Cond.code yX2_keepOnly cX2_keepOnly 2 none, Cond.methodLink RX2 36 Lib.Math.min.name, Cond.static Lib.Math.min.name, Cond.initialized "java/lang/Math", Cond.code Lib.Math.min.name Lib.Math.min.code 2 (some .int), Cond.methodLink RX2 42 Lib.Math.max.name, Cond.static Lib.Math.max.name, Cond.code Lib.Math.max.name Lib.Math.max.code 2 (some .int)]
def wsX5_drop : List Cond := .code yX5_drop cX5_drop 4 (some .int) :: ((wsX5_drop_r1 ++ (wsX5_drop_r2 ++ wsX5_drop_r3)) ++ wsX50 ++ wsX20 ++ wsX40)
def wsX5_name : List Cond := .code yX5_name cX5_name 2 (some .int) :: ([.fieldLink RX5 24 "ProofChecker" "laid" "LProofChecker$Rows;", .methodLink RX5 85 yX2_has, .instanceMethod yX2_has, .selects RX2 yX2_has yX2_has, .initialized RX2, .code yX2_has cX2_has 2 (some .boolean), .fieldLink RX2 24 "ProofChecker$Rows" "last" "I", .methodLink RX5 136 yX2_ruleNumber, .instanceMethod yX2_ruleNumber, .selects RX2 yX2_ruleNumber yX2_ruleNumber, .code yX2_ruleNumber cX2_ruleNumber 2 (some .int), .fieldLink RX2 9 "ProofChecker$Rows" "ruleNumbers" "[I", .methodLink RX2 28 yX2_has] ++ wsX50 ++ wsX20)
def wsX5_states : List Cond := .code yX5_states cX5_states 3 (some .int) :: ([.fieldLink RX5 24 "ProofChecker" "laid" "LProofChecker$Rows;", .fieldLink RX5 28 "ProofChecker" "stated" "LProofChecker$Statements;", .methodLink RX5 85 yX2_has, .instanceMethod yX2_has, .selects RX2 yX2_has yX2_has, .initialized RX2, .code yX2_has cX2_has 2 (some .boolean), .fieldLink RX2 24 "ProofChecker$Rows" "last" "I", .methodLink RX5 139 yX4_kind, .instanceMethod yX4_kind, .selects RX4 yX4_kind yX4_kind, .initialized RX4, .code yX4_kind cX4_kind 2 (some .int), .fieldLink RX4 15 "ProofChecker$Statements" "kinds" "[I", .methodLink RX5 142 yX4_number, .instanceMethod yX4_number, .selects RX4 yX4_number yX4_number, .code yX4_number cX4_number 4 (some .int), .fieldLink RX4 21 "ProofChecker$Statements" "numbers" "[I"] ++ wsX50 ++ wsX20 ++ wsX40)
def wsJ8_hugeLength_7cf53 : List Cond := .code yJ8_hugeLength_7cf53 cJ8_hugeLength_7cf53 3 (some .int) :: ([.constant RJ8 200 (2147483639)])
def wsJ8_newLength_cabcc : List Cond := .code yJ8_newLength_cabcc cJ8_newLength_cabcc 4 (some .int) :: ([.methodLink RJ8 194 Lib.Math.max.name, .static Lib.Math.max.name, .initialized "java/lang/Math", .code Lib.Math.max.name Lib.Math.max.code 2 (some .int), .constant RJ8 200 (2147483639), .methodLink RJ8 201 yJ8_hugeLength_7cf53, .static yJ8_hugeLength_7cf53, .initialized RJ8, .code yJ8_hugeLength_7cf53 cJ8_hugeLength_7cf53 3 (some .int)])
def wsJ5_newCapacity_0f7a4 : List Cond := .code yJ5_newCapacity_0f7a4 cJ5_newCapacity_0f7a4 6 (some .int) :: ([.fieldLink RJ5 15 "java/lang/AbstractStringBuilder" "value" "[B", .fieldLink RJ5 22 "java/lang/AbstractStringBuilder" "coder" "B", .constant RJ5 39 (2147483647), .methodLink RJ5 114 yJ8_newLength_cabcc, .static yJ8_newLength_cabcc, .initialized RJ8, .code yJ8_newLength_cabcc cJ8_newLength_cabcc 4 (some .int), .methodLink RJ8 194 Lib.Math.max.name, .static Lib.Math.max.name, .initialized "java/lang/Math", .code Lib.Math.max.name Lib.Math.max.code 2 (some .int), .constant RJ8 200 (2147483639), .methodLink RJ8 201 yJ8_hugeLength_7cf53, .static yJ8_hugeLength_7cf53, .code yJ8_hugeLength_7cf53 cJ8_hugeLength_7cf53 3 (some .int)] ++ wsJ40)
def wsJ7_copyOf_9075b : List Cond := .code yJ7_copyOf_9075b cJ7_copyOf_9075b 3 (some (.array .byte)) :: ([.methodLink RJ7 310 ⟨"[B", "clone", "()Ljava/lang/Object;"⟩, .sameMethod "[B" "java/lang/Object" "clone" "()Ljava/lang/Object;", .native ⟨"java/lang/Object", "clone", "()Ljava/lang/Object;"⟩, .instanceMethod ⟨"java/lang/Object", "clone", "()Ljava/lang/Object;"⟩, .selects "[B" ⟨"[B", "clone", "()Ljava/lang/Object;"⟩ ⟨"java/lang/Object", "clone", "()Ljava/lang/Object;"⟩, .classLink RJ7 311 "[B", .arrayClass .byte, .methodLink RJ7 304 Lib.Math.min.name, .static Lib.Math.min.name, .initialized "java/lang/Math", .code Lib.Math.min.name Lib.Math.min.code 2 (some .int), .methodLink RJ7 150 arraycopyName, .native arraycopyName, .static arraycopyName, .initialized "java/lang/System"])
def wsJ5_ensureCapacityInternal_d00df_r1 : List Cond := [Cond.fieldLink RJ5 15 "java/lang/AbstractStringBuilder" "value" "[B", Cond.fieldLink RJ5 22 "java/lang/AbstractStringBuilder" "coder" "B", Cond.methodLink RJ5 104 ⟨"java/lang/AbstractStringBuilder", "newCapacity", "(I)I"⟩, Cond.sameMethod "java/lang/AbstractStringBuilder" "java/lang/AbstractStringBuilder" "newCapacity" "(I)I", Cond.selects RJ4 ⟨"java/lang/AbstractStringBuilder", "newCapacity", "(I)I"⟩ yJ5_newCapacity_0f7a4, Cond.instanceMethod yJ5_newCapacity_0f7a4, Cond.initialized RJ5, Cond.code yJ5_newCapacity_0f7a4 cJ5_newCapacity_0f7a4 6 (some .int), Cond.constant RJ5 39 (2147483647), Cond.methodLink RJ5 114 yJ8_newLength_cabcc, Cond.static yJ8_newLength_cabcc, Cond.initialized RJ8, Cond.code yJ8_newLength_cabcc cJ8_newLength_cabcc 4 (some .int), Cond.methodLink RJ8 194 Lib.Math.max.name, Cond.static Lib.Math.max.name, Cond.initialized "java/lang/Math", Cond.code Lib.Math.max.name Lib.Math.max.code 2 (some .int), Cond.constant RJ8 200 (2147483639), Cond.methodLink RJ8 201 yJ8_hugeLength_7cf53, Cond.static yJ8_hugeLength_7cf53, Cond.code yJ8_hugeLength_7cf53 cJ8_hugeLength_7cf53 3 (some .int), Cond.methodLink RJ5 108 yJ7_copyOf_9075b, Cond.static yJ7_copyOf_9075b, Cond.initialized RJ7]
def wsJ5_ensureCapacityInternal_d00df_r2 : List Cond := [Cond.code yJ7_copyOf_9075b cJ7_copyOf_9075b 3 (some (.array .byte)), Cond.methodLink RJ7 310 ⟨"[B", "clone", "()Ljava/lang/Object;"⟩, Cond.sameMethod "[B" "java/lang/Object" "clone" "()Ljava/lang/Object;", Cond.native ⟨"java/lang/Object", "clone", "()Ljava/lang/Object;"⟩, Cond.instanceMethod ⟨"java/lang/Object", "clone", "()Ljava/lang/Object;"⟩, Cond.selects "[B" ⟨"[B", "clone", "()Ljava/lang/Object;"⟩ ⟨"java/lang/Object", "clone", "()Ljava/lang/Object;"⟩, Cond.classLink RJ7 311 "[B", Cond.arrayClass .byte, Cond.methodLink RJ7 304 Lib.Math.min.name, Cond.static Lib.Math.min.name, Cond.code Lib.Math.min.name Lib.Math.min.code 2 (some .int), Cond.methodLink RJ7 150 arraycopyName, Cond.native arraycopyName, Cond.static arraycopyName, Cond.initialized "java/lang/System"]
def wsJ5_ensureCapacityInternal_d00df : List Cond := .code yJ5_ensureCapacityInternal_d00df cJ5_ensureCapacityInternal_d00df 3 none :: ((wsJ5_ensureCapacityInternal_d00df_r1 ++ wsJ5_ensureCapacityInternal_d00df_r2) ++ wsJ40)
def wsJ5_isLatin1_aae02 : List Cond := .code yJ5_isLatin1_aae02 cJ5_isLatin1_aae02 1 (some .boolean) :: ([.fieldLink RJ5 18 "java/lang/String" "COMPACT_STRINGS" "Z", .fieldLink RJ5 22 "java/lang/AbstractStringBuilder" "coder" "B"] ++ wsJ40)
def wsJ7_rangeCheck_23922 : List Cond := .code yJ7_rangeCheck_23922 cJ7_rangeCheck_23922 3 none :: ([])
def wsJ7_fill_eb02e : List Cond := .code yJ7_fill_eb02e cJ7_fill_eb02e 5 none :: ([.methodLink RJ7 13 yJ7_rangeCheck_23922, .static yJ7_rangeCheck_23922, .initialized RJ7, .code yJ7_rangeCheck_23922 cJ7_rangeCheck_23922 3 none])
def wsJ1_fillNull_b72d1 : List Cond := .code yJ1_fillNull_b72d1 cJ1_fillNull_b72d1 3 none :: ([.methodLink RJ1 236 yJ7_fill_eb02e, .static yJ7_fill_eb02e, .initialized RJ7, .code yJ7_fill_eb02e cJ7_fill_eb02e 5 none, .methodLink RJ7 13 yJ7_rangeCheck_23922, .static yJ7_rangeCheck_23922, .code yJ7_rangeCheck_23922 cJ7_rangeCheck_23922 3 none])
def wsJ2_fillNull_b72d1 : List Cond := .code yJ2_fillNull_b72d1 cJ2_fillNull_b72d1 3 none :: ([.methodLink RJ2 380 yJ7_fill_eb02e, .static yJ7_fill_eb02e, .initialized RJ7, .code yJ7_fill_eb02e cJ7_fill_eb02e 5 none, .methodLink RJ7 13 yJ7_rangeCheck_23922, .static yJ7_rangeCheck_23922, .code yJ7_rangeCheck_23922 cJ7_rangeCheck_23922 3 none])
def wsJ5_setLength_d00df_r1 : List Cond := [Cond.fieldLink RJ5 79 "java/lang/AbstractStringBuilder" "count" "I", Cond.fieldLink RJ5 15 "java/lang/AbstractStringBuilder" "value" "[B", Cond.fieldLink RJ5 73 "java/lang/AbstractStringBuilder" "maybeLatin1" "Z", Cond.methodLink RJ5 100 ⟨"java/lang/AbstractStringBuilder", "ensureCapacityInternal", "(I)V"⟩, Cond.sameMethod "java/lang/AbstractStringBuilder" "java/lang/AbstractStringBuilder" "ensureCapacityInternal" "(I)V", Cond.selects RJ4 ⟨"java/lang/AbstractStringBuilder", "ensureCapacityInternal", "(I)V"⟩ yJ5_ensureCapacityInternal_d00df, Cond.instanceMethod yJ5_ensureCapacityInternal_d00df, Cond.initialized RJ5, Cond.code yJ5_ensureCapacityInternal_d00df cJ5_ensureCapacityInternal_d00df 3 none, Cond.fieldLink RJ5 22 "java/lang/AbstractStringBuilder" "coder" "B", Cond.methodLink RJ5 104 ⟨"java/lang/AbstractStringBuilder", "newCapacity", "(I)I"⟩, Cond.sameMethod "java/lang/AbstractStringBuilder" "java/lang/AbstractStringBuilder" "newCapacity" "(I)I", Cond.selects RJ4 ⟨"java/lang/AbstractStringBuilder", "newCapacity", "(I)I"⟩ yJ5_newCapacity_0f7a4, Cond.instanceMethod yJ5_newCapacity_0f7a4, Cond.code yJ5_newCapacity_0f7a4 cJ5_newCapacity_0f7a4 6 (some .int), Cond.constant RJ5 39 (2147483647), Cond.methodLink RJ5 114 yJ8_newLength_cabcc, Cond.static yJ8_newLength_cabcc, Cond.initialized RJ8, Cond.code yJ8_newLength_cabcc cJ8_newLength_cabcc 4 (some .int), Cond.methodLink RJ8 194 Lib.Math.max.name, Cond.static Lib.Math.max.name, Cond.initialized "java/lang/Math", Cond.code Lib.Math.max.name Lib.Math.max.code 2 (some .int)]
def wsJ5_setLength_d00df_r2 : List Cond := [Cond.constant RJ8 200 (2147483639), Cond.methodLink RJ8 201 yJ8_hugeLength_7cf53, Cond.static yJ8_hugeLength_7cf53, Cond.code yJ8_hugeLength_7cf53 cJ8_hugeLength_7cf53 3 (some .int), Cond.methodLink RJ5 108 yJ7_copyOf_9075b, Cond.static yJ7_copyOf_9075b, Cond.initialized RJ7, Cond.code yJ7_copyOf_9075b cJ7_copyOf_9075b 3 (some (.array .byte)), Cond.methodLink RJ7 310 ⟨"[B", "clone", "()Ljava/lang/Object;"⟩, Cond.sameMethod "[B" "java/lang/Object" "clone" "()Ljava/lang/Object;", Cond.native ⟨"java/lang/Object", "clone", "()Ljava/lang/Object;"⟩, Cond.instanceMethod ⟨"java/lang/Object", "clone", "()Ljava/lang/Object;"⟩, Cond.selects "[B" ⟨"[B", "clone", "()Ljava/lang/Object;"⟩ ⟨"java/lang/Object", "clone", "()Ljava/lang/Object;"⟩, Cond.classLink RJ7 311 "[B", Cond.arrayClass .byte, Cond.methodLink RJ7 304 Lib.Math.min.name, Cond.static Lib.Math.min.name, Cond.code Lib.Math.min.name Lib.Math.min.code 2 (some .int), Cond.methodLink RJ7 150 arraycopyName, Cond.native arraycopyName, Cond.static arraycopyName, Cond.initialized "java/lang/System", Cond.methodLink RJ5 83 ⟨"java/lang/AbstractStringBuilder", "isLatin1", "()Z"⟩, Cond.sameMethod "java/lang/AbstractStringBuilder" "java/lang/AbstractStringBuilder" "isLatin1" "()Z"]
def wsJ5_setLength_d00df_r3 : List Cond := [Cond.selects RJ4 ⟨"java/lang/AbstractStringBuilder", "isLatin1", "()Z"⟩ yJ5_isLatin1_aae02, Cond.instanceMethod yJ5_isLatin1_aae02, Cond.code yJ5_isLatin1_aae02 cJ5_isLatin1_aae02 1 (some .boolean), Cond.fieldLink RJ5 18 "java/lang/String" "COMPACT_STRINGS" "Z", Cond.methodLink RJ5 133 yJ1_fillNull_b72d1, Cond.static yJ1_fillNull_b72d1, Cond.initialized RJ1, Cond.code yJ1_fillNull_b72d1 cJ1_fillNull_b72d1 3 none, Cond.methodLink RJ1 236 yJ7_fill_eb02e, Cond.static yJ7_fill_eb02e, Cond.code yJ7_fill_eb02e cJ7_fill_eb02e 5 none, Cond.methodLink RJ7 13 yJ7_rangeCheck_23922, Cond.static yJ7_rangeCheck_23922, Cond.code yJ7_rangeCheck_23922 cJ7_rangeCheck_23922 3 none, Cond.methodLink RJ5 137 yJ2_fillNull_b72d1, Cond.static yJ2_fillNull_b72d1, Cond.initialized RJ2, Cond.code yJ2_fillNull_b72d1 cJ2_fillNull_b72d1 3 none, Cond.methodLink RJ2 380 yJ7_fill_eb02e]
def wsJ5_setLength_d00df : List Cond := .code yJ5_setLength_d00df cJ5_setLength_d00df 2 none :: ((wsJ5_setLength_d00df_r1 ++ (wsJ5_setLength_d00df_r2 ++ wsJ5_setLength_d00df_r3)) ++ wsJ40)
def wsJ4_setLength_d00df_r1 : List Cond := [Cond.methodLink RJ4 333 yJ5_setLength_d00df, Cond.sameMethod "java/lang/AbstractStringBuilder" "java/lang/AbstractStringBuilder" "setLength" "(I)V", Cond.superclass RJ4 RJ5, Cond.instanceMethod yJ5_setLength_d00df, Cond.initialized RJ5, Cond.code yJ5_setLength_d00df cJ5_setLength_d00df 2 none, Cond.fieldLink RJ5 79 "java/lang/AbstractStringBuilder" "count" "I", Cond.fieldLink RJ5 15 "java/lang/AbstractStringBuilder" "value" "[B", Cond.fieldLink RJ5 73 "java/lang/AbstractStringBuilder" "maybeLatin1" "Z", Cond.methodLink RJ5 100 ⟨"java/lang/AbstractStringBuilder", "ensureCapacityInternal", "(I)V"⟩, Cond.sameMethod "java/lang/AbstractStringBuilder" "java/lang/AbstractStringBuilder" "ensureCapacityInternal" "(I)V", Cond.selects RJ4 ⟨"java/lang/AbstractStringBuilder", "ensureCapacityInternal", "(I)V"⟩ yJ5_ensureCapacityInternal_d00df, Cond.instanceMethod yJ5_ensureCapacityInternal_d00df, Cond.code yJ5_ensureCapacityInternal_d00df cJ5_ensureCapacityInternal_d00df 3 none, Cond.fieldLink RJ5 22 "java/lang/AbstractStringBuilder" "coder" "B", Cond.methodLink RJ5 104 ⟨"java/lang/AbstractStringBuilder", "newCapacity", "(I)I"⟩, Cond.sameMethod "java/lang/AbstractStringBuilder" "java/lang/AbstractStringBuilder" "newCapacity" "(I)I", Cond.selects RJ4 ⟨"java/lang/AbstractStringBuilder", "newCapacity", "(I)I"⟩ yJ5_newCapacity_0f7a4, Cond.instanceMethod yJ5_newCapacity_0f7a4, Cond.code yJ5_newCapacity_0f7a4 cJ5_newCapacity_0f7a4 6 (some .int), Cond.constant RJ5 39 (2147483647), Cond.methodLink RJ5 114 yJ8_newLength_cabcc, Cond.static yJ8_newLength_cabcc, Cond.initialized RJ8]
def wsJ4_setLength_d00df_r2 : List Cond := [Cond.code yJ8_newLength_cabcc cJ8_newLength_cabcc 4 (some .int), Cond.methodLink RJ8 194 Lib.Math.max.name, Cond.static Lib.Math.max.name, Cond.initialized "java/lang/Math", Cond.code Lib.Math.max.name Lib.Math.max.code 2 (some .int), Cond.constant RJ8 200 (2147483639), Cond.methodLink RJ8 201 yJ8_hugeLength_7cf53, Cond.static yJ8_hugeLength_7cf53, Cond.code yJ8_hugeLength_7cf53 cJ8_hugeLength_7cf53 3 (some .int), Cond.methodLink RJ5 108 yJ7_copyOf_9075b, Cond.static yJ7_copyOf_9075b, Cond.initialized RJ7, Cond.code yJ7_copyOf_9075b cJ7_copyOf_9075b 3 (some (.array .byte)), Cond.methodLink RJ7 310 ⟨"[B", "clone", "()Ljava/lang/Object;"⟩, Cond.sameMethod "[B" "java/lang/Object" "clone" "()Ljava/lang/Object;", Cond.native ⟨"java/lang/Object", "clone", "()Ljava/lang/Object;"⟩, Cond.instanceMethod ⟨"java/lang/Object", "clone", "()Ljava/lang/Object;"⟩, Cond.selects "[B" ⟨"[B", "clone", "()Ljava/lang/Object;"⟩ ⟨"java/lang/Object", "clone", "()Ljava/lang/Object;"⟩, Cond.classLink RJ7 311 "[B", Cond.arrayClass .byte, Cond.methodLink RJ7 304 Lib.Math.min.name, Cond.static Lib.Math.min.name, Cond.code Lib.Math.min.name Lib.Math.min.code 2 (some .int), Cond.methodLink RJ7 150 arraycopyName]
def wsJ4_setLength_d00df_r3 : List Cond := [Cond.native arraycopyName, Cond.static arraycopyName, Cond.initialized "java/lang/System", Cond.methodLink RJ5 83 ⟨"java/lang/AbstractStringBuilder", "isLatin1", "()Z"⟩, Cond.sameMethod "java/lang/AbstractStringBuilder" "java/lang/AbstractStringBuilder" "isLatin1" "()Z", Cond.selects RJ4 ⟨"java/lang/AbstractStringBuilder", "isLatin1", "()Z"⟩ yJ5_isLatin1_aae02, Cond.instanceMethod yJ5_isLatin1_aae02, Cond.code yJ5_isLatin1_aae02 cJ5_isLatin1_aae02 1 (some .boolean), Cond.fieldLink RJ5 18 "java/lang/String" "COMPACT_STRINGS" "Z", Cond.methodLink RJ5 133 yJ1_fillNull_b72d1, Cond.static yJ1_fillNull_b72d1, Cond.initialized RJ1, Cond.code yJ1_fillNull_b72d1 cJ1_fillNull_b72d1 3 none, Cond.methodLink RJ1 236 yJ7_fill_eb02e, Cond.static yJ7_fill_eb02e, Cond.code yJ7_fill_eb02e cJ7_fill_eb02e 5 none, Cond.methodLink RJ7 13 yJ7_rangeCheck_23922, Cond.static yJ7_rangeCheck_23922, Cond.code yJ7_rangeCheck_23922 cJ7_rangeCheck_23922 3 none, Cond.methodLink RJ5 137 yJ2_fillNull_b72d1, Cond.static yJ2_fillNull_b72d1, Cond.initialized RJ2, Cond.code yJ2_fillNull_b72d1 cJ2_fillNull_b72d1 3 none, Cond.methodLink RJ2 380 yJ7_fill_eb02e]
def wsJ4_setLength_d00df : List Cond := .code yJ4_setLength_d00df cJ4_setLength_d00df 2 none :: ((wsJ4_setLength_d00df_r1 ++ (wsJ4_setLength_d00df_r2 ++ wsJ4_setLength_d00df_r3)) ++ wsJ40)
def wsJ6_stringSize_0f7a4 : List Cond := .code yJ6_stringSize_0f7a4 cJ6_stringSize_0f7a4 4 (some .int) :: ([])
def wsJ6_getChars_ba4f3 : List Cond := .code yJ6_getChars_ba4f3 cJ6_getChars_ba4f3 7 (some .int) :: ([.fieldLink RJ6 83 "java/lang/Integer" "DigitOnes" "[B", .fieldLink RJ6 87 "java/lang/Integer" "DigitTens" "[B"])
def wsJ3_checkFromToIndex_8c36e : List Cond := .code yJ3_checkFromToIndex_8c36e cJ3_checkFromToIndex_8c36e 4 (some .int) :: ([])
def wsJ0_checkBoundsBeginEnd_23922 : List Cond := .code yJ0_checkBoundsBeginEnd_23922 cJ0_checkBoundsBeginEnd_23922 3 none :: ([.fieldLink RJ0 1053 "jdk/internal/util/Preconditions" "SIOOBE_FORMATTER" "Ljava/util/function/BiFunction;", .methodLink RJ0 1062 yJ3_checkFromToIndex_8c36e, .static yJ3_checkFromToIndex_8c36e, .initialized RJ3, .code yJ3_checkFromToIndex_8c36e cJ3_checkFromToIndex_8c36e 4 (some .int)])
def wsJ2_checkBoundsBeginEnd_d044e : List Cond := .code yJ2_checkBoundsBeginEnd_d044e cJ2_checkBoundsBeginEnd_d044e 3 none :: ([.methodLink RJ2 48 yJ2_length_9d52b, .static yJ2_length_9d52b, .initialized RJ2, .code yJ2_length_9d52b cJ2_length_9d52b 1 (some .int), .methodLink RJ2 241 yJ0_checkBoundsBeginEnd_23922, .static yJ0_checkBoundsBeginEnd_23922, .initialized RJ0, .code yJ0_checkBoundsBeginEnd_23922 cJ0_checkBoundsBeginEnd_23922 3 none, .fieldLink RJ0 1053 "jdk/internal/util/Preconditions" "SIOOBE_FORMATTER" "Ljava/util/function/BiFunction;", .methodLink RJ0 1062 yJ3_checkFromToIndex_8c36e, .static yJ3_checkFromToIndex_8c36e, .initialized RJ3, .code yJ3_checkFromToIndex_8c36e cJ3_checkFromToIndex_8c36e 4 (some .int)])
def wsJ2_putChar_b72d1 : List Cond := .code yJ2_putChar_b72d1 cJ2_putChar_b72d1 3 none :: ([.fieldLink RJ2 44 "java/lang/StringUTF16" "$assertionsDisabled" "Z", .fieldLink RJ2 59 "java/lang/StringUTF16" "HI_BYTE_SHIFT" "I", .fieldLink RJ2 63 "java/lang/StringUTF16" "LO_BYTE_SHIFT" "I", .methodLink RJ2 48 yJ2_length_9d52b, .static yJ2_length_9d52b, .initialized RJ2, .code yJ2_length_9d52b cJ2_length_9d52b 1 (some .int)])
def wsJ2_getChars_ba4f3 : List Cond := .code yJ2_getChars_ba4f3 cJ2_getChars_ba4f3 7 (some .int) :: ([.fieldLink RJ2 403 "java/lang/Integer" "DigitOnes" "[B", .fieldLink RJ2 407 "java/lang/Integer" "DigitTens" "[B", .methodLink RJ2 111 yJ2_putChar_b72d1, .static yJ2_putChar_b72d1, .initialized RJ2, .code yJ2_putChar_b72d1 cJ2_putChar_b72d1 3 none, .fieldLink RJ2 44 "java/lang/StringUTF16" "$assertionsDisabled" "Z", .fieldLink RJ2 59 "java/lang/StringUTF16" "HI_BYTE_SHIFT" "I", .fieldLink RJ2 63 "java/lang/StringUTF16" "LO_BYTE_SHIFT" "I", .methodLink RJ2 48 yJ2_length_9d52b, .static yJ2_length_9d52b, .code yJ2_length_9d52b cJ2_length_9d52b 1 (some .int)])
def wsJ2_getChars_46870_r1 : List Cond := [Cond.fieldLink RJ2 44 "java/lang/StringUTF16" "$assertionsDisabled" "Z", Cond.methodLink RJ2 96 yJ2_checkBoundsBeginEnd_d044e, Cond.static yJ2_checkBoundsBeginEnd_d044e, Cond.initialized RJ2, Cond.code yJ2_checkBoundsBeginEnd_d044e cJ2_checkBoundsBeginEnd_d044e 3 none, Cond.methodLink RJ2 48 yJ2_length_9d52b, Cond.static yJ2_length_9d52b, Cond.code yJ2_length_9d52b cJ2_length_9d52b 1 (some .int), Cond.methodLink RJ2 241 yJ0_checkBoundsBeginEnd_23922, Cond.static yJ0_checkBoundsBeginEnd_23922, Cond.initialized RJ0, Cond.code yJ0_checkBoundsBeginEnd_23922 cJ0_checkBoundsBeginEnd_23922 3 none, Cond.fieldLink RJ0 1053 "jdk/internal/util/Preconditions" "SIOOBE_FORMATTER" "Ljava/util/function/BiFunction;", Cond.methodLink RJ0 1062 yJ3_checkFromToIndex_8c36e, Cond.static yJ3_checkFromToIndex_8c36e, Cond.initialized RJ3, Cond.code yJ3_checkFromToIndex_8c36e cJ3_checkFromToIndex_8c36e 4 (some .int), Cond.methodLink RJ2 393 yJ2_getChars_ba4f3, Cond.static yJ2_getChars_ba4f3, Cond.code yJ2_getChars_ba4f3 cJ2_getChars_ba4f3 7 (some .int), Cond.fieldLink RJ2 403 "java/lang/Integer" "DigitOnes" "[B", Cond.fieldLink RJ2 407 "java/lang/Integer" "DigitTens" "[B", Cond.methodLink RJ2 111 yJ2_putChar_b72d1, Cond.static yJ2_putChar_b72d1]
def wsJ2_getChars_46870_r2 : List Cond := [Cond.code yJ2_putChar_b72d1 cJ2_putChar_b72d1 3 none, Cond.fieldLink RJ2 59 "java/lang/StringUTF16" "HI_BYTE_SHIFT" "I", Cond.fieldLink RJ2 63 "java/lang/StringUTF16" "LO_BYTE_SHIFT" "I"]
def wsJ2_getChars_46870 : List Cond := .code yJ2_getChars_46870 cJ2_getChars_46870 5 (some .int) :: ((wsJ2_getChars_46870_r1 ++ wsJ2_getChars_46870_r2))
def wsJ5_append_c97b9_r1 : List Cond := [Cond.fieldLink RJ5 79 "java/lang/AbstractStringBuilder" "count" "I", Cond.fieldLink RJ5 15 "java/lang/AbstractStringBuilder" "value" "[B", Cond.methodLink RJ5 245 yJ6_stringSize_0f7a4, Cond.static yJ6_stringSize_0f7a4, Cond.initialized RJ6, Cond.code yJ6_stringSize_0f7a4 cJ6_stringSize_0f7a4 4 (some .int), Cond.methodLink RJ5 100 ⟨"java/lang/AbstractStringBuilder", "ensureCapacityInternal", "(I)V"⟩, Cond.sameMethod "java/lang/AbstractStringBuilder" "java/lang/AbstractStringBuilder" "ensureCapacityInternal" "(I)V", Cond.selects RJ4 ⟨"java/lang/AbstractStringBuilder", "ensureCapacityInternal", "(I)V"⟩ yJ5_ensureCapacityInternal_d00df, Cond.instanceMethod yJ5_ensureCapacityInternal_d00df, Cond.initialized RJ5, Cond.code yJ5_ensureCapacityInternal_d00df cJ5_ensureCapacityInternal_d00df 3 none, Cond.fieldLink RJ5 22 "java/lang/AbstractStringBuilder" "coder" "B", Cond.methodLink RJ5 104 ⟨"java/lang/AbstractStringBuilder", "newCapacity", "(I)I"⟩, Cond.sameMethod "java/lang/AbstractStringBuilder" "java/lang/AbstractStringBuilder" "newCapacity" "(I)I", Cond.selects RJ4 ⟨"java/lang/AbstractStringBuilder", "newCapacity", "(I)I"⟩ yJ5_newCapacity_0f7a4, Cond.instanceMethod yJ5_newCapacity_0f7a4, Cond.code yJ5_newCapacity_0f7a4 cJ5_newCapacity_0f7a4 6 (some .int), Cond.constant RJ5 39 (2147483647), Cond.methodLink RJ5 114 yJ8_newLength_cabcc, Cond.static yJ8_newLength_cabcc, Cond.initialized RJ8, Cond.code yJ8_newLength_cabcc cJ8_newLength_cabcc 4 (some .int), Cond.methodLink RJ8 194 Lib.Math.max.name]
def wsJ5_append_c97b9_r2 : List Cond := [Cond.static Lib.Math.max.name, Cond.initialized "java/lang/Math", Cond.code Lib.Math.max.name Lib.Math.max.code 2 (some .int), Cond.constant RJ8 200 (2147483639), Cond.methodLink RJ8 201 yJ8_hugeLength_7cf53, Cond.static yJ8_hugeLength_7cf53, Cond.code yJ8_hugeLength_7cf53 cJ8_hugeLength_7cf53 3 (some .int), Cond.methodLink RJ5 108 yJ7_copyOf_9075b, Cond.static yJ7_copyOf_9075b, Cond.initialized RJ7, Cond.code yJ7_copyOf_9075b cJ7_copyOf_9075b 3 (some (.array .byte)), Cond.methodLink RJ7 310 ⟨"[B", "clone", "()Ljava/lang/Object;"⟩, Cond.sameMethod "[B" "java/lang/Object" "clone" "()Ljava/lang/Object;", Cond.native ⟨"java/lang/Object", "clone", "()Ljava/lang/Object;"⟩, Cond.instanceMethod ⟨"java/lang/Object", "clone", "()Ljava/lang/Object;"⟩, Cond.selects "[B" ⟨"[B", "clone", "()Ljava/lang/Object;"⟩ ⟨"java/lang/Object", "clone", "()Ljava/lang/Object;"⟩, Cond.classLink RJ7 311 "[B", Cond.arrayClass .byte, Cond.methodLink RJ7 304 Lib.Math.min.name, Cond.static Lib.Math.min.name, Cond.code Lib.Math.min.name Lib.Math.min.code 2 (some .int), Cond.methodLink RJ7 150 arraycopyName, Cond.native arraycopyName, Cond.static arraycopyName]
def wsJ5_append_c97b9_r3 : List Cond := [Cond.initialized "java/lang/System", Cond.methodLink RJ5 83 ⟨"java/lang/AbstractStringBuilder", "isLatin1", "()Z"⟩, Cond.sameMethod "java/lang/AbstractStringBuilder" "java/lang/AbstractStringBuilder" "isLatin1" "()Z", Cond.selects RJ4 ⟨"java/lang/AbstractStringBuilder", "isLatin1", "()Z"⟩ yJ5_isLatin1_aae02, Cond.instanceMethod yJ5_isLatin1_aae02, Cond.code yJ5_isLatin1_aae02 cJ5_isLatin1_aae02 1 (some .boolean), Cond.fieldLink RJ5 18 "java/lang/String" "COMPACT_STRINGS" "Z", Cond.methodLink RJ5 248 yJ6_getChars_ba4f3, Cond.static yJ6_getChars_ba4f3, Cond.code yJ6_getChars_ba4f3 cJ6_getChars_ba4f3 7 (some .int), Cond.fieldLink RJ6 83 "java/lang/Integer" "DigitOnes" "[B", Cond.fieldLink RJ6 87 "java/lang/Integer" "DigitTens" "[B", Cond.methodLink RJ5 251 yJ2_getChars_46870, Cond.static yJ2_getChars_46870, Cond.initialized RJ2, Cond.code yJ2_getChars_46870 cJ2_getChars_46870 5 (some .int), Cond.fieldLink RJ2 44 "java/lang/StringUTF16" "$assertionsDisabled" "Z", Cond.methodLink RJ2 96 yJ2_checkBoundsBeginEnd_d044e, Cond.static yJ2_checkBoundsBeginEnd_d044e, Cond.code yJ2_checkBoundsBeginEnd_d044e cJ2_checkBoundsBeginEnd_d044e 3 none, Cond.methodLink RJ2 48 yJ2_length_9d52b, Cond.static yJ2_length_9d52b, Cond.code yJ2_length_9d52b cJ2_length_9d52b 1 (some .int), Cond.methodLink RJ2 241 yJ0_checkBoundsBeginEnd_23922]
def wsJ5_append_c97b9_r4 : List Cond := [Cond.static yJ0_checkBoundsBeginEnd_23922, Cond.initialized RJ0, Cond.code yJ0_checkBoundsBeginEnd_23922 cJ0_checkBoundsBeginEnd_23922 3 none, Cond.fieldLink RJ0 1053 "jdk/internal/util/Preconditions" "SIOOBE_FORMATTER" "Ljava/util/function/BiFunction;", Cond.methodLink RJ0 1062 yJ3_checkFromToIndex_8c36e, Cond.static yJ3_checkFromToIndex_8c36e, Cond.initialized RJ3, Cond.code yJ3_checkFromToIndex_8c36e cJ3_checkFromToIndex_8c36e 4 (some .int), Cond.methodLink RJ2 393 yJ2_getChars_ba4f3, Cond.static yJ2_getChars_ba4f3, Cond.code yJ2_getChars_ba4f3 cJ2_getChars_ba4f3 7 (some .int), Cond.fieldLink RJ2 403 "java/lang/Integer" "DigitOnes" "[B", Cond.fieldLink RJ2 407 "java/lang/Integer" "DigitTens" "[B", Cond.methodLink RJ2 111 yJ2_putChar_b72d1, Cond.static yJ2_putChar_b72d1, Cond.code yJ2_putChar_b72d1 cJ2_putChar_b72d1 3 none, Cond.fieldLink RJ2 59 "java/lang/StringUTF16" "HI_BYTE_SHIFT" "I", Cond.fieldLink RJ2 63 "java/lang/StringUTF16" "LO_BYTE_SHIFT" "I"]
def wsJ5_append_c97b9 : List Cond := .code yJ5_append_c97b9 cJ5_append_c97b9 4 (some (.object "java/lang/AbstractStringBuilder")) :: ((wsJ5_append_c97b9_r1 ++ (wsJ5_append_c97b9_r2 ++ (wsJ5_append_c97b9_r3 ++ wsJ5_append_c97b9_r4))) ++ wsJ40)
def wsJ4_append_bf812_r1 : List Cond := [Cond.methodLink RJ4 53 yJ5_append_c97b9, Cond.sameMethod "java/lang/AbstractStringBuilder" "java/lang/AbstractStringBuilder" "append" "(I)Ljava/lang/AbstractStringBuilder;", Cond.superclass RJ4 RJ5, Cond.instanceMethod yJ5_append_c97b9, Cond.initialized RJ5, Cond.code yJ5_append_c97b9 cJ5_append_c97b9 4 (some (.object "java/lang/AbstractStringBuilder")), Cond.fieldLink RJ5 79 "java/lang/AbstractStringBuilder" "count" "I", Cond.fieldLink RJ5 15 "java/lang/AbstractStringBuilder" "value" "[B", Cond.methodLink RJ5 245 yJ6_stringSize_0f7a4, Cond.static yJ6_stringSize_0f7a4, Cond.initialized RJ6, Cond.code yJ6_stringSize_0f7a4 cJ6_stringSize_0f7a4 4 (some .int), Cond.methodLink RJ5 100 ⟨"java/lang/AbstractStringBuilder", "ensureCapacityInternal", "(I)V"⟩, Cond.sameMethod "java/lang/AbstractStringBuilder" "java/lang/AbstractStringBuilder" "ensureCapacityInternal" "(I)V", Cond.selects RJ4 ⟨"java/lang/AbstractStringBuilder", "ensureCapacityInternal", "(I)V"⟩ yJ5_ensureCapacityInternal_d00df, Cond.instanceMethod yJ5_ensureCapacityInternal_d00df, Cond.code yJ5_ensureCapacityInternal_d00df cJ5_ensureCapacityInternal_d00df 3 none, Cond.fieldLink RJ5 22 "java/lang/AbstractStringBuilder" "coder" "B", Cond.methodLink RJ5 104 ⟨"java/lang/AbstractStringBuilder", "newCapacity", "(I)I"⟩, Cond.sameMethod "java/lang/AbstractStringBuilder" "java/lang/AbstractStringBuilder" "newCapacity" "(I)I", Cond.selects RJ4 ⟨"java/lang/AbstractStringBuilder", "newCapacity", "(I)I"⟩ yJ5_newCapacity_0f7a4, Cond.instanceMethod yJ5_newCapacity_0f7a4, Cond.code yJ5_newCapacity_0f7a4 cJ5_newCapacity_0f7a4 6 (some .int), Cond.constant RJ5 39 (2147483647)]
def wsJ4_append_bf812_r2 : List Cond := [Cond.methodLink RJ5 114 yJ8_newLength_cabcc, Cond.static yJ8_newLength_cabcc, Cond.initialized RJ8, Cond.code yJ8_newLength_cabcc cJ8_newLength_cabcc 4 (some .int), Cond.methodLink RJ8 194 Lib.Math.max.name, Cond.static Lib.Math.max.name, Cond.initialized "java/lang/Math", Cond.code Lib.Math.max.name Lib.Math.max.code 2 (some .int), Cond.constant RJ8 200 (2147483639), Cond.methodLink RJ8 201 yJ8_hugeLength_7cf53, Cond.static yJ8_hugeLength_7cf53, Cond.code yJ8_hugeLength_7cf53 cJ8_hugeLength_7cf53 3 (some .int), Cond.methodLink RJ5 108 yJ7_copyOf_9075b, Cond.static yJ7_copyOf_9075b, Cond.initialized RJ7, Cond.code yJ7_copyOf_9075b cJ7_copyOf_9075b 3 (some (.array .byte)), Cond.methodLink RJ7 310 ⟨"[B", "clone", "()Ljava/lang/Object;"⟩, Cond.sameMethod "[B" "java/lang/Object" "clone" "()Ljava/lang/Object;", Cond.native ⟨"java/lang/Object", "clone", "()Ljava/lang/Object;"⟩, Cond.instanceMethod ⟨"java/lang/Object", "clone", "()Ljava/lang/Object;"⟩, Cond.selects "[B" ⟨"[B", "clone", "()Ljava/lang/Object;"⟩ ⟨"java/lang/Object", "clone", "()Ljava/lang/Object;"⟩, Cond.classLink RJ7 311 "[B", Cond.arrayClass .byte, Cond.methodLink RJ7 304 Lib.Math.min.name]
def wsJ4_append_bf812_r3 : List Cond := [Cond.static Lib.Math.min.name, Cond.code Lib.Math.min.name Lib.Math.min.code 2 (some .int), Cond.methodLink RJ7 150 arraycopyName, Cond.native arraycopyName, Cond.static arraycopyName, Cond.initialized "java/lang/System", Cond.methodLink RJ5 83 ⟨"java/lang/AbstractStringBuilder", "isLatin1", "()Z"⟩, Cond.sameMethod "java/lang/AbstractStringBuilder" "java/lang/AbstractStringBuilder" "isLatin1" "()Z", Cond.selects RJ4 ⟨"java/lang/AbstractStringBuilder", "isLatin1", "()Z"⟩ yJ5_isLatin1_aae02, Cond.instanceMethod yJ5_isLatin1_aae02, Cond.code yJ5_isLatin1_aae02 cJ5_isLatin1_aae02 1 (some .boolean), Cond.fieldLink RJ5 18 "java/lang/String" "COMPACT_STRINGS" "Z", Cond.methodLink RJ5 248 yJ6_getChars_ba4f3, Cond.static yJ6_getChars_ba4f3, Cond.code yJ6_getChars_ba4f3 cJ6_getChars_ba4f3 7 (some .int), Cond.fieldLink RJ6 83 "java/lang/Integer" "DigitOnes" "[B", Cond.fieldLink RJ6 87 "java/lang/Integer" "DigitTens" "[B", Cond.methodLink RJ5 251 yJ2_getChars_46870, Cond.static yJ2_getChars_46870, Cond.initialized RJ2, Cond.code yJ2_getChars_46870 cJ2_getChars_46870 5 (some .int), Cond.fieldLink RJ2 44 "java/lang/StringUTF16" "$assertionsDisabled" "Z", Cond.methodLink RJ2 96 yJ2_checkBoundsBeginEnd_d044e, Cond.static yJ2_checkBoundsBeginEnd_d044e]
def wsJ4_append_bf812_r4 : List Cond := [Cond.code yJ2_checkBoundsBeginEnd_d044e cJ2_checkBoundsBeginEnd_d044e 3 none, Cond.methodLink RJ2 48 yJ2_length_9d52b, Cond.static yJ2_length_9d52b, Cond.code yJ2_length_9d52b cJ2_length_9d52b 1 (some .int), Cond.methodLink RJ2 241 yJ0_checkBoundsBeginEnd_23922, Cond.static yJ0_checkBoundsBeginEnd_23922, Cond.initialized RJ0, Cond.code yJ0_checkBoundsBeginEnd_23922 cJ0_checkBoundsBeginEnd_23922 3 none, Cond.fieldLink RJ0 1053 "jdk/internal/util/Preconditions" "SIOOBE_FORMATTER" "Ljava/util/function/BiFunction;", Cond.methodLink RJ0 1062 yJ3_checkFromToIndex_8c36e, Cond.static yJ3_checkFromToIndex_8c36e, Cond.initialized RJ3, Cond.code yJ3_checkFromToIndex_8c36e cJ3_checkFromToIndex_8c36e 4 (some .int), Cond.methodLink RJ2 393 yJ2_getChars_ba4f3, Cond.static yJ2_getChars_ba4f3, Cond.code yJ2_getChars_ba4f3 cJ2_getChars_ba4f3 7 (some .int), Cond.fieldLink RJ2 403 "java/lang/Integer" "DigitOnes" "[B", Cond.fieldLink RJ2 407 "java/lang/Integer" "DigitTens" "[B", Cond.methodLink RJ2 111 yJ2_putChar_b72d1, Cond.static yJ2_putChar_b72d1, Cond.code yJ2_putChar_b72d1 cJ2_putChar_b72d1 3 none, Cond.fieldLink RJ2 59 "java/lang/StringUTF16" "HI_BYTE_SHIFT" "I", Cond.fieldLink RJ2 63 "java/lang/StringUTF16" "LO_BYTE_SHIFT" "I"]
def wsJ4_append_bf812 : List Cond := .code yJ4_append_bf812 cJ4_append_bf812 2 (some (.object "java/lang/StringBuilder")) :: ((wsJ4_append_bf812_r1 ++ (wsJ4_append_bf812_r2 ++ (wsJ4_append_bf812_r3 ++ wsJ4_append_bf812_r4))) ++ wsJ40)
def wsJ2_putCharsAt_cd4e5 : List Cond := .code yJ2_putCharsAt_cd4e5 cJ2_putCharsAt_cd4e5 7 (some .int) :: ([.fieldLink RJ2 44 "java/lang/StringUTF16" "$assertionsDisabled" "Z", .methodLink RJ2 96 yJ2_checkBoundsBeginEnd_d044e, .static yJ2_checkBoundsBeginEnd_d044e, .initialized RJ2, .code yJ2_checkBoundsBeginEnd_d044e cJ2_checkBoundsBeginEnd_d044e 3 none, .methodLink RJ2 48 yJ2_length_9d52b, .static yJ2_length_9d52b, .code yJ2_length_9d52b cJ2_length_9d52b 1 (some .int), .methodLink RJ2 241 yJ0_checkBoundsBeginEnd_23922, .static yJ0_checkBoundsBeginEnd_23922, .initialized RJ0, .code yJ0_checkBoundsBeginEnd_23922 cJ0_checkBoundsBeginEnd_23922 3 none, .fieldLink RJ0 1053 "jdk/internal/util/Preconditions" "SIOOBE_FORMATTER" "Ljava/util/function/BiFunction;", .methodLink RJ0 1062 yJ3_checkFromToIndex_8c36e, .static yJ3_checkFromToIndex_8c36e, .initialized RJ3, .code yJ3_checkFromToIndex_8c36e cJ3_checkFromToIndex_8c36e 4 (some .int), .methodLink RJ2 111 yJ2_putChar_b72d1, .static yJ2_putChar_b72d1, .code yJ2_putChar_b72d1 cJ2_putChar_b72d1 3 none, .fieldLink RJ2 59 "java/lang/StringUTF16" "HI_BYTE_SHIFT" "I", .fieldLink RJ2 63 "java/lang/StringUTF16" "LO_BYTE_SHIFT" "I"])
def wsJ5_appendNull_278bc_r1 : List Cond := [Cond.fieldLink RJ5 79 "java/lang/AbstractStringBuilder" "count" "I", Cond.fieldLink RJ5 15 "java/lang/AbstractStringBuilder" "value" "[B", Cond.methodLink RJ5 100 ⟨"java/lang/AbstractStringBuilder", "ensureCapacityInternal", "(I)V"⟩, Cond.sameMethod "java/lang/AbstractStringBuilder" "java/lang/AbstractStringBuilder" "ensureCapacityInternal" "(I)V", Cond.selects RJ4 ⟨"java/lang/AbstractStringBuilder", "ensureCapacityInternal", "(I)V"⟩ yJ5_ensureCapacityInternal_d00df, Cond.instanceMethod yJ5_ensureCapacityInternal_d00df, Cond.initialized RJ5, Cond.code yJ5_ensureCapacityInternal_d00df cJ5_ensureCapacityInternal_d00df 3 none, Cond.fieldLink RJ5 22 "java/lang/AbstractStringBuilder" "coder" "B", Cond.methodLink RJ5 104 ⟨"java/lang/AbstractStringBuilder", "newCapacity", "(I)I"⟩, Cond.sameMethod "java/lang/AbstractStringBuilder" "java/lang/AbstractStringBuilder" "newCapacity" "(I)I", Cond.selects RJ4 ⟨"java/lang/AbstractStringBuilder", "newCapacity", "(I)I"⟩ yJ5_newCapacity_0f7a4, Cond.instanceMethod yJ5_newCapacity_0f7a4, Cond.code yJ5_newCapacity_0f7a4 cJ5_newCapacity_0f7a4 6 (some .int), Cond.constant RJ5 39 (2147483647), Cond.methodLink RJ5 114 yJ8_newLength_cabcc, Cond.static yJ8_newLength_cabcc, Cond.initialized RJ8, Cond.code yJ8_newLength_cabcc cJ8_newLength_cabcc 4 (some .int), Cond.methodLink RJ8 194 Lib.Math.max.name, Cond.static Lib.Math.max.name, Cond.initialized "java/lang/Math", Cond.code Lib.Math.max.name Lib.Math.max.code 2 (some .int), Cond.constant RJ8 200 (2147483639)]
def wsJ5_appendNull_278bc_r2 : List Cond := [Cond.methodLink RJ8 201 yJ8_hugeLength_7cf53, Cond.static yJ8_hugeLength_7cf53, Cond.code yJ8_hugeLength_7cf53 cJ8_hugeLength_7cf53 3 (some .int), Cond.methodLink RJ5 108 yJ7_copyOf_9075b, Cond.static yJ7_copyOf_9075b, Cond.initialized RJ7, Cond.code yJ7_copyOf_9075b cJ7_copyOf_9075b 3 (some (.array .byte)), Cond.methodLink RJ7 310 ⟨"[B", "clone", "()Ljava/lang/Object;"⟩, Cond.sameMethod "[B" "java/lang/Object" "clone" "()Ljava/lang/Object;", Cond.native ⟨"java/lang/Object", "clone", "()Ljava/lang/Object;"⟩, Cond.instanceMethod ⟨"java/lang/Object", "clone", "()Ljava/lang/Object;"⟩, Cond.selects "[B" ⟨"[B", "clone", "()Ljava/lang/Object;"⟩ ⟨"java/lang/Object", "clone", "()Ljava/lang/Object;"⟩, Cond.classLink RJ7 311 "[B", Cond.arrayClass .byte, Cond.methodLink RJ7 304 Lib.Math.min.name, Cond.static Lib.Math.min.name, Cond.code Lib.Math.min.name Lib.Math.min.code 2 (some .int), Cond.methodLink RJ7 150 arraycopyName, Cond.native arraycopyName, Cond.static arraycopyName, Cond.initialized "java/lang/System", Cond.methodLink RJ5 83 ⟨"java/lang/AbstractStringBuilder", "isLatin1", "()Z"⟩, Cond.sameMethod "java/lang/AbstractStringBuilder" "java/lang/AbstractStringBuilder" "isLatin1" "()Z", Cond.selects RJ4 ⟨"java/lang/AbstractStringBuilder", "isLatin1", "()Z"⟩ yJ5_isLatin1_aae02]
def wsJ5_appendNull_278bc_r3 : List Cond := [Cond.instanceMethod yJ5_isLatin1_aae02, Cond.code yJ5_isLatin1_aae02 cJ5_isLatin1_aae02 1 (some .boolean), Cond.fieldLink RJ5 18 "java/lang/String" "COMPACT_STRINGS" "Z", Cond.methodLink RJ5 226 yJ2_putCharsAt_cd4e5, Cond.static yJ2_putCharsAt_cd4e5, Cond.initialized RJ2, Cond.code yJ2_putCharsAt_cd4e5 cJ2_putCharsAt_cd4e5 7 (some .int), Cond.fieldLink RJ2 44 "java/lang/StringUTF16" "$assertionsDisabled" "Z", Cond.methodLink RJ2 96 yJ2_checkBoundsBeginEnd_d044e, Cond.static yJ2_checkBoundsBeginEnd_d044e, Cond.code yJ2_checkBoundsBeginEnd_d044e cJ2_checkBoundsBeginEnd_d044e 3 none, Cond.methodLink RJ2 48 yJ2_length_9d52b, Cond.static yJ2_length_9d52b, Cond.code yJ2_length_9d52b cJ2_length_9d52b 1 (some .int), Cond.methodLink RJ2 241 yJ0_checkBoundsBeginEnd_23922, Cond.static yJ0_checkBoundsBeginEnd_23922, Cond.initialized RJ0, Cond.code yJ0_checkBoundsBeginEnd_23922 cJ0_checkBoundsBeginEnd_23922 3 none, Cond.fieldLink RJ0 1053 "jdk/internal/util/Preconditions" "SIOOBE_FORMATTER" "Ljava/util/function/BiFunction;", Cond.methodLink RJ0 1062 yJ3_checkFromToIndex_8c36e, Cond.static yJ3_checkFromToIndex_8c36e, Cond.initialized RJ3, Cond.code yJ3_checkFromToIndex_8c36e cJ3_checkFromToIndex_8c36e 4 (some .int), Cond.methodLink RJ2 111 yJ2_putChar_b72d1]
def wsJ5_appendNull_278bc_r4 : List Cond := [Cond.static yJ2_putChar_b72d1, Cond.code yJ2_putChar_b72d1 cJ2_putChar_b72d1 3 none, Cond.fieldLink RJ2 59 "java/lang/StringUTF16" "HI_BYTE_SHIFT" "I", Cond.fieldLink RJ2 63 "java/lang/StringUTF16" "LO_BYTE_SHIFT" "I"]
def wsJ5_appendNull_278bc : List Cond := .code yJ5_appendNull_278bc cJ5_appendNull_278bc 3 (some (.object "java/lang/AbstractStringBuilder")) :: ((wsJ5_appendNull_278bc_r1 ++ (wsJ5_appendNull_278bc_r2 ++ (wsJ5_appendNull_278bc_r3 ++ wsJ5_appendNull_278bc_r4))) ++ wsJ40)
def wsJ3_checkFromIndexSize_8c36e : List Cond := .code yJ3_checkFromIndexSize_8c36e cJ3_checkFromIndexSize_8c36e 4 (some .int) :: ([])
def wsJ0_checkBoundsOffCount_cabcc : List Cond := .code yJ0_checkBoundsOffCount_cabcc cJ0_checkBoundsOffCount_cabcc 3 (some .int) :: ([.fieldLink RJ0 1053 "jdk/internal/util/Preconditions" "SIOOBE_FORMATTER" "Ljava/util/function/BiFunction;", .methodLink RJ0 1065 yJ3_checkFromIndexSize_8c36e, .static yJ3_checkFromIndexSize_8c36e, .initialized RJ3, .code yJ3_checkFromIndexSize_8c36e cJ3_checkFromIndexSize_8c36e 4 (some .int)])
def wsJ2_checkBoundsOffCount_d044e : List Cond := .code yJ2_checkBoundsOffCount_d044e cJ2_checkBoundsOffCount_d044e 3 none :: ([.methodLink RJ2 48 yJ2_length_9d52b, .static yJ2_length_9d52b, .initialized RJ2, .code yJ2_length_9d52b cJ2_length_9d52b 1 (some .int), .methodLink RJ2 419 yJ0_checkBoundsOffCount_cabcc, .static yJ0_checkBoundsOffCount_cabcc, .initialized RJ0, .code yJ0_checkBoundsOffCount_cabcc cJ0_checkBoundsOffCount_cabcc 3 (some .int), .fieldLink RJ0 1053 "jdk/internal/util/Preconditions" "SIOOBE_FORMATTER" "Ljava/util/function/BiFunction;", .methodLink RJ0 1065 yJ3_checkFromIndexSize_8c36e, .static yJ3_checkFromIndexSize_8c36e, .initialized RJ3, .code yJ3_checkFromIndexSize_8c36e cJ3_checkFromIndexSize_8c36e 4 (some .int)])
def wsJ2_inflate_0e8fd : List Cond := .code yJ2_inflate_0e8fd cJ2_inflate_0e8fd 6 none :: ([.methodLink RJ2 173 yJ2_checkBoundsOffCount_d044e, .static yJ2_checkBoundsOffCount_d044e, .initialized RJ2, .code yJ2_checkBoundsOffCount_d044e cJ2_checkBoundsOffCount_d044e 3 none, .methodLink RJ2 48 yJ2_length_9d52b, .static yJ2_length_9d52b, .code yJ2_length_9d52b cJ2_length_9d52b 1 (some .int), .methodLink RJ2 419 yJ0_checkBoundsOffCount_cabcc, .static yJ0_checkBoundsOffCount_cabcc, .initialized RJ0, .code yJ0_checkBoundsOffCount_cabcc cJ0_checkBoundsOffCount_cabcc 3 (some .int), .fieldLink RJ0 1053 "jdk/internal/util/Preconditions" "SIOOBE_FORMATTER" "Ljava/util/function/BiFunction;", .methodLink RJ0 1065 yJ3_checkFromIndexSize_8c36e, .static yJ3_checkFromIndexSize_8c36e, .initialized RJ3, .code yJ3_checkFromIndexSize_8c36e cJ3_checkFromIndexSize_8c36e 4 (some .int), .methodLink RJ2 111 yJ2_putChar_b72d1, .static yJ2_putChar_b72d1, .code yJ2_putChar_b72d1 cJ2_putChar_b72d1 3 none, .fieldLink RJ2 44 "java/lang/StringUTF16" "$assertionsDisabled" "Z", .fieldLink RJ2 59 "java/lang/StringUTF16" "HI_BYTE_SHIFT" "I", .fieldLink RJ2 63 "java/lang/StringUTF16" "LO_BYTE_SHIFT" "I"])
def wsJ1_inflate_0e8fd_r1 : List Cond := [Cond.methodLink RJ1 240 yJ2_inflate_0e8fd, Cond.static yJ2_inflate_0e8fd, Cond.initialized RJ2, Cond.code yJ2_inflate_0e8fd cJ2_inflate_0e8fd 6 none, Cond.methodLink RJ2 173 yJ2_checkBoundsOffCount_d044e, Cond.static yJ2_checkBoundsOffCount_d044e, Cond.code yJ2_checkBoundsOffCount_d044e cJ2_checkBoundsOffCount_d044e 3 none, Cond.methodLink RJ2 48 yJ2_length_9d52b, Cond.static yJ2_length_9d52b, Cond.code yJ2_length_9d52b cJ2_length_9d52b 1 (some .int), Cond.methodLink RJ2 419 yJ0_checkBoundsOffCount_cabcc, Cond.static yJ0_checkBoundsOffCount_cabcc, Cond.initialized RJ0, Cond.code yJ0_checkBoundsOffCount_cabcc cJ0_checkBoundsOffCount_cabcc 3 (some .int), Cond.fieldLink RJ0 1053 "jdk/internal/util/Preconditions" "SIOOBE_FORMATTER" "Ljava/util/function/BiFunction;", Cond.methodLink RJ0 1065 yJ3_checkFromIndexSize_8c36e, Cond.static yJ3_checkFromIndexSize_8c36e, Cond.initialized RJ3, Cond.code yJ3_checkFromIndexSize_8c36e cJ3_checkFromIndexSize_8c36e 4 (some .int), Cond.methodLink RJ2 111 yJ2_putChar_b72d1, Cond.static yJ2_putChar_b72d1, Cond.code yJ2_putChar_b72d1 cJ2_putChar_b72d1 3 none, Cond.fieldLink RJ2 44 "java/lang/StringUTF16" "$assertionsDisabled" "Z", Cond.fieldLink RJ2 59 "java/lang/StringUTF16" "HI_BYTE_SHIFT" "I"]
def wsJ1_inflate_0e8fd_r2 : List Cond := [Cond.fieldLink RJ2 63 "java/lang/StringUTF16" "LO_BYTE_SHIFT" "I"]
def wsJ1_inflate_0e8fd : List Cond := .code yJ1_inflate_0e8fd cJ1_inflate_0e8fd 5 none :: ((wsJ1_inflate_0e8fd_r1 ++ wsJ1_inflate_0e8fd_r2))
def wsJ5_inflate_da8c8_r1 : List Cond := [Cond.fieldLink RJ5 15 "java/lang/AbstractStringBuilder" "value" "[B", Cond.fieldLink RJ5 79 "java/lang/AbstractStringBuilder" "count" "I", Cond.fieldLink RJ5 22 "java/lang/AbstractStringBuilder" "coder" "B", Cond.methodLink RJ5 83 ⟨"java/lang/AbstractStringBuilder", "isLatin1", "()Z"⟩, Cond.sameMethod "java/lang/AbstractStringBuilder" "java/lang/AbstractStringBuilder" "isLatin1" "()Z", Cond.selects RJ4 ⟨"java/lang/AbstractStringBuilder", "isLatin1", "()Z"⟩ yJ5_isLatin1_aae02, Cond.instanceMethod yJ5_isLatin1_aae02, Cond.initialized RJ5, Cond.code yJ5_isLatin1_aae02 cJ5_isLatin1_aae02 1 (some .boolean), Cond.fieldLink RJ5 18 "java/lang/String" "COMPACT_STRINGS" "Z", Cond.methodLink RJ5 26 yJ2_newBytesFor_77867, Cond.static yJ2_newBytesFor_77867, Cond.initialized RJ2, Cond.code yJ2_newBytesFor_77867 cJ2_newBytesFor_77867 1 (some (.array .byte)), Cond.arrayClass .byte, Cond.methodLink RJ2 11 yJ2_newBytesLength_0f7a4, Cond.static yJ2_newBytesLength_0f7a4, Cond.code yJ2_newBytesLength_0f7a4 cJ2_newBytesLength_0f7a4 1 (some .int), Cond.constant RJ2 20 (1073741823), Cond.methodLink RJ5 125 yJ1_inflate_0e8fd, Cond.static yJ1_inflate_0e8fd, Cond.initialized RJ1, Cond.code yJ1_inflate_0e8fd cJ1_inflate_0e8fd 5 none, Cond.methodLink RJ1 240 yJ2_inflate_0e8fd]
def wsJ5_inflate_da8c8_r2 : List Cond := [Cond.static yJ2_inflate_0e8fd, Cond.code yJ2_inflate_0e8fd cJ2_inflate_0e8fd 6 none, Cond.methodLink RJ2 173 yJ2_checkBoundsOffCount_d044e, Cond.static yJ2_checkBoundsOffCount_d044e, Cond.code yJ2_checkBoundsOffCount_d044e cJ2_checkBoundsOffCount_d044e 3 none, Cond.methodLink RJ2 48 yJ2_length_9d52b, Cond.static yJ2_length_9d52b, Cond.code yJ2_length_9d52b cJ2_length_9d52b 1 (some .int), Cond.methodLink RJ2 419 yJ0_checkBoundsOffCount_cabcc, Cond.static yJ0_checkBoundsOffCount_cabcc, Cond.initialized RJ0, Cond.code yJ0_checkBoundsOffCount_cabcc cJ0_checkBoundsOffCount_cabcc 3 (some .int), Cond.fieldLink RJ0 1053 "jdk/internal/util/Preconditions" "SIOOBE_FORMATTER" "Ljava/util/function/BiFunction;", Cond.methodLink RJ0 1065 yJ3_checkFromIndexSize_8c36e, Cond.static yJ3_checkFromIndexSize_8c36e, Cond.initialized RJ3, Cond.code yJ3_checkFromIndexSize_8c36e cJ3_checkFromIndexSize_8c36e 4 (some .int), Cond.methodLink RJ2 111 yJ2_putChar_b72d1, Cond.static yJ2_putChar_b72d1, Cond.code yJ2_putChar_b72d1 cJ2_putChar_b72d1 3 none, Cond.fieldLink RJ2 44 "java/lang/StringUTF16" "$assertionsDisabled" "Z", Cond.fieldLink RJ2 59 "java/lang/StringUTF16" "HI_BYTE_SHIFT" "I", Cond.fieldLink RJ2 63 "java/lang/StringUTF16" "LO_BYTE_SHIFT" "I"]
def wsJ5_inflate_da8c8 : List Cond := .code yJ5_inflate_da8c8 cJ5_inflate_da8c8 2 none :: ((wsJ5_inflate_da8c8_r1 ++ wsJ5_inflate_da8c8_r2) ++ wsJ40)
def wsJ5_inflateIfNeededFor_a7421_r1 : List Cond := [Cond.fieldLink RJ5 18 "java/lang/String" "COMPACT_STRINGS" "Z", Cond.fieldLink RJ5 22 "java/lang/AbstractStringBuilder" "coder" "B", Cond.methodLink RJ5 40 yJ0_coder_7d493, Cond.instanceMethod yJ0_coder_7d493, Cond.selects RJ0 yJ0_coder_7d493 yJ0_coder_7d493, Cond.initialized RJ0, Cond.code yJ0_coder_7d493 cJ0_coder_7d493 1 (some .byte), Cond.fieldLink RJ0 38 "java/lang/String" "COMPACT_STRINGS" "Z", Cond.fieldLink RJ0 15 "java/lang/String" "coder" "B", Cond.methodLink RJ5 195 ⟨"java/lang/AbstractStringBuilder", "inflate", "()V"⟩, Cond.sameMethod "java/lang/AbstractStringBuilder" "java/lang/AbstractStringBuilder" "inflate" "()V", Cond.selects RJ4 ⟨"java/lang/AbstractStringBuilder", "inflate", "()V"⟩ yJ5_inflate_da8c8, Cond.instanceMethod yJ5_inflate_da8c8, Cond.initialized RJ5, Cond.code yJ5_inflate_da8c8 cJ5_inflate_da8c8 2 none, Cond.fieldLink RJ5 15 "java/lang/AbstractStringBuilder" "value" "[B", Cond.fieldLink RJ5 79 "java/lang/AbstractStringBuilder" "count" "I", Cond.methodLink RJ5 83 ⟨"java/lang/AbstractStringBuilder", "isLatin1", "()Z"⟩, Cond.sameMethod "java/lang/AbstractStringBuilder" "java/lang/AbstractStringBuilder" "isLatin1" "()Z", Cond.selects RJ4 ⟨"java/lang/AbstractStringBuilder", "isLatin1", "()Z"⟩ yJ5_isLatin1_aae02, Cond.instanceMethod yJ5_isLatin1_aae02, Cond.code yJ5_isLatin1_aae02 cJ5_isLatin1_aae02 1 (some .boolean), Cond.methodLink RJ5 26 yJ2_newBytesFor_77867, Cond.static yJ2_newBytesFor_77867]
def wsJ5_inflateIfNeededFor_a7421_r2 : List Cond := [Cond.initialized RJ2, Cond.code yJ2_newBytesFor_77867 cJ2_newBytesFor_77867 1 (some (.array .byte)), Cond.arrayClass .byte, Cond.methodLink RJ2 11 yJ2_newBytesLength_0f7a4, Cond.static yJ2_newBytesLength_0f7a4, Cond.code yJ2_newBytesLength_0f7a4 cJ2_newBytesLength_0f7a4 1 (some .int), Cond.constant RJ2 20 (1073741823), Cond.methodLink RJ5 125 yJ1_inflate_0e8fd, Cond.static yJ1_inflate_0e8fd, Cond.initialized RJ1, Cond.code yJ1_inflate_0e8fd cJ1_inflate_0e8fd 5 none, Cond.methodLink RJ1 240 yJ2_inflate_0e8fd, Cond.static yJ2_inflate_0e8fd, Cond.code yJ2_inflate_0e8fd cJ2_inflate_0e8fd 6 none, Cond.methodLink RJ2 173 yJ2_checkBoundsOffCount_d044e, Cond.static yJ2_checkBoundsOffCount_d044e, Cond.code yJ2_checkBoundsOffCount_d044e cJ2_checkBoundsOffCount_d044e 3 none, Cond.methodLink RJ2 48 yJ2_length_9d52b, Cond.static yJ2_length_9d52b, Cond.code yJ2_length_9d52b cJ2_length_9d52b 1 (some .int), Cond.methodLink RJ2 419 yJ0_checkBoundsOffCount_cabcc, Cond.static yJ0_checkBoundsOffCount_cabcc, Cond.code yJ0_checkBoundsOffCount_cabcc cJ0_checkBoundsOffCount_cabcc 3 (some .int), Cond.fieldLink RJ0 1053 "jdk/internal/util/Preconditions" "SIOOBE_FORMATTER" "Ljava/util/function/BiFunction;"]
def wsJ5_inflateIfNeededFor_a7421_r3 : List Cond := [Cond.methodLink RJ0 1065 yJ3_checkFromIndexSize_8c36e, Cond.static yJ3_checkFromIndexSize_8c36e, Cond.initialized RJ3, Cond.code yJ3_checkFromIndexSize_8c36e cJ3_checkFromIndexSize_8c36e 4 (some .int), Cond.methodLink RJ2 111 yJ2_putChar_b72d1, Cond.static yJ2_putChar_b72d1, Cond.code yJ2_putChar_b72d1 cJ2_putChar_b72d1 3 none, Cond.fieldLink RJ2 44 "java/lang/StringUTF16" "$assertionsDisabled" "Z", Cond.fieldLink RJ2 59 "java/lang/StringUTF16" "HI_BYTE_SHIFT" "I", Cond.fieldLink RJ2 63 "java/lang/StringUTF16" "LO_BYTE_SHIFT" "I"]
def wsJ5_inflateIfNeededFor_a7421 : List Cond := .code yJ5_inflateIfNeededFor_a7421 cJ5_inflateIfNeededFor_a7421 2 none :: ((wsJ5_inflateIfNeededFor_a7421_r1 ++ (wsJ5_inflateIfNeededFor_a7421_r2 ++ wsJ5_inflateIfNeededFor_a7421_r3)) ++ wsJ40)
def wsJ0_getBytes_840e7_r1 : List Cond := [Cond.fieldLink RJ0 9 "java/lang/String" "value" "[B", Cond.methodLink RJ0 212 arraycopyName, Cond.native arraycopyName, Cond.static arraycopyName, Cond.initialized "java/lang/System", Cond.methodLink RJ0 335 yJ0_coder_7d493, Cond.instanceMethod yJ0_coder_7d493, Cond.selects RJ0 yJ0_coder_7d493 yJ0_coder_7d493, Cond.initialized RJ0, Cond.code yJ0_coder_7d493 cJ0_coder_7d493 1 (some .byte), Cond.fieldLink RJ0 38 "java/lang/String" "COMPACT_STRINGS" "Z", Cond.fieldLink RJ0 15 "java/lang/String" "coder" "B", Cond.methodLink RJ0 106 yJ1_inflate_0e8fd, Cond.static yJ1_inflate_0e8fd, Cond.initialized RJ1, Cond.code yJ1_inflate_0e8fd cJ1_inflate_0e8fd 5 none, Cond.methodLink RJ1 240 yJ2_inflate_0e8fd, Cond.static yJ2_inflate_0e8fd, Cond.initialized RJ2, Cond.code yJ2_inflate_0e8fd cJ2_inflate_0e8fd 6 none, Cond.methodLink RJ2 173 yJ2_checkBoundsOffCount_d044e, Cond.static yJ2_checkBoundsOffCount_d044e, Cond.code yJ2_checkBoundsOffCount_d044e cJ2_checkBoundsOffCount_d044e 3 none, Cond.methodLink RJ2 48 yJ2_length_9d52b]
def wsJ0_getBytes_840e7_r2 : List Cond := [Cond.static yJ2_length_9d52b, Cond.code yJ2_length_9d52b cJ2_length_9d52b 1 (some .int), Cond.methodLink RJ2 419 yJ0_checkBoundsOffCount_cabcc, Cond.static yJ0_checkBoundsOffCount_cabcc, Cond.code yJ0_checkBoundsOffCount_cabcc cJ0_checkBoundsOffCount_cabcc 3 (some .int), Cond.fieldLink RJ0 1053 "jdk/internal/util/Preconditions" "SIOOBE_FORMATTER" "Ljava/util/function/BiFunction;", Cond.methodLink RJ0 1065 yJ3_checkFromIndexSize_8c36e, Cond.static yJ3_checkFromIndexSize_8c36e, Cond.initialized RJ3, Cond.code yJ3_checkFromIndexSize_8c36e cJ3_checkFromIndexSize_8c36e 4 (some .int), Cond.methodLink RJ2 111 yJ2_putChar_b72d1, Cond.static yJ2_putChar_b72d1, Cond.code yJ2_putChar_b72d1 cJ2_putChar_b72d1 3 none, Cond.fieldLink RJ2 44 "java/lang/StringUTF16" "$assertionsDisabled" "Z", Cond.fieldLink RJ2 59 "java/lang/StringUTF16" "HI_BYTE_SHIFT" "I", Cond.fieldLink RJ2 63 "java/lang/StringUTF16" "LO_BYTE_SHIFT" "I"]
def wsJ0_getBytes_840e7 : List Cond := .code yJ0_getBytes_840e7 cJ0_getBytes_840e7 4 none :: ((wsJ0_getBytes_840e7_r1 ++ wsJ0_getBytes_840e7_r2))
def wsJ5_putStringAt_47b60_r1 : List Cond := [Cond.fieldLink RJ5 15 "java/lang/AbstractStringBuilder" "value" "[B", Cond.fieldLink RJ5 22 "java/lang/AbstractStringBuilder" "coder" "B", Cond.methodLink RJ5 397 ⟨"java/lang/AbstractStringBuilder", "inflateIfNeededFor", "(Ljava/lang/String;)V"⟩, Cond.sameMethod "java/lang/AbstractStringBuilder" "java/lang/AbstractStringBuilder" "inflateIfNeededFor" "(Ljava/lang/String;)V", Cond.selects RJ4 ⟨"java/lang/AbstractStringBuilder", "inflateIfNeededFor", "(Ljava/lang/String;)V"⟩ yJ5_inflateIfNeededFor_a7421, Cond.instanceMethod yJ5_inflateIfNeededFor_a7421, Cond.initialized RJ5, Cond.code yJ5_inflateIfNeededFor_a7421 cJ5_inflateIfNeededFor_a7421 2 none, Cond.fieldLink RJ5 18 "java/lang/String" "COMPACT_STRINGS" "Z", Cond.methodLink RJ5 40 yJ0_coder_7d493, Cond.instanceMethod yJ0_coder_7d493, Cond.selects RJ0 yJ0_coder_7d493 yJ0_coder_7d493, Cond.initialized RJ0, Cond.code yJ0_coder_7d493 cJ0_coder_7d493 1 (some .byte), Cond.fieldLink RJ0 38 "java/lang/String" "COMPACT_STRINGS" "Z", Cond.fieldLink RJ0 15 "java/lang/String" "coder" "B", Cond.methodLink RJ5 195 ⟨"java/lang/AbstractStringBuilder", "inflate", "()V"⟩, Cond.sameMethod "java/lang/AbstractStringBuilder" "java/lang/AbstractStringBuilder" "inflate" "()V", Cond.selects RJ4 ⟨"java/lang/AbstractStringBuilder", "inflate", "()V"⟩ yJ5_inflate_da8c8, Cond.instanceMethod yJ5_inflate_da8c8, Cond.code yJ5_inflate_da8c8 cJ5_inflate_da8c8 2 none, Cond.fieldLink RJ5 79 "java/lang/AbstractStringBuilder" "count" "I", Cond.methodLink RJ5 83 ⟨"java/lang/AbstractStringBuilder", "isLatin1", "()Z"⟩, Cond.sameMethod "java/lang/AbstractStringBuilder" "java/lang/AbstractStringBuilder" "isLatin1" "()Z"]
def wsJ5_putStringAt_47b60_r2 : List Cond := [Cond.selects RJ4 ⟨"java/lang/AbstractStringBuilder", "isLatin1", "()Z"⟩ yJ5_isLatin1_aae02, Cond.instanceMethod yJ5_isLatin1_aae02, Cond.code yJ5_isLatin1_aae02 cJ5_isLatin1_aae02 1 (some .boolean), Cond.methodLink RJ5 26 yJ2_newBytesFor_77867, Cond.static yJ2_newBytesFor_77867, Cond.initialized RJ2, Cond.code yJ2_newBytesFor_77867 cJ2_newBytesFor_77867 1 (some (.array .byte)), Cond.arrayClass .byte, Cond.methodLink RJ2 11 yJ2_newBytesLength_0f7a4, Cond.static yJ2_newBytesLength_0f7a4, Cond.code yJ2_newBytesLength_0f7a4 cJ2_newBytesLength_0f7a4 1 (some .int), Cond.constant RJ2 20 (1073741823), Cond.methodLink RJ5 125 yJ1_inflate_0e8fd, Cond.static yJ1_inflate_0e8fd, Cond.initialized RJ1, Cond.code yJ1_inflate_0e8fd cJ1_inflate_0e8fd 5 none, Cond.methodLink RJ1 240 yJ2_inflate_0e8fd, Cond.static yJ2_inflate_0e8fd, Cond.code yJ2_inflate_0e8fd cJ2_inflate_0e8fd 6 none, Cond.methodLink RJ2 173 yJ2_checkBoundsOffCount_d044e, Cond.static yJ2_checkBoundsOffCount_d044e, Cond.code yJ2_checkBoundsOffCount_d044e cJ2_checkBoundsOffCount_d044e 3 none, Cond.methodLink RJ2 48 yJ2_length_9d52b, Cond.static yJ2_length_9d52b]
def wsJ5_putStringAt_47b60_r3 : List Cond := [Cond.code yJ2_length_9d52b cJ2_length_9d52b 1 (some .int), Cond.methodLink RJ2 419 yJ0_checkBoundsOffCount_cabcc, Cond.static yJ0_checkBoundsOffCount_cabcc, Cond.code yJ0_checkBoundsOffCount_cabcc cJ0_checkBoundsOffCount_cabcc 3 (some .int), Cond.fieldLink RJ0 1053 "jdk/internal/util/Preconditions" "SIOOBE_FORMATTER" "Ljava/util/function/BiFunction;", Cond.methodLink RJ0 1065 yJ3_checkFromIndexSize_8c36e, Cond.static yJ3_checkFromIndexSize_8c36e, Cond.initialized RJ3, Cond.code yJ3_checkFromIndexSize_8c36e cJ3_checkFromIndexSize_8c36e 4 (some .int), Cond.methodLink RJ2 111 yJ2_putChar_b72d1, Cond.static yJ2_putChar_b72d1, Cond.code yJ2_putChar_b72d1 cJ2_putChar_b72d1 3 none, Cond.fieldLink RJ2 44 "java/lang/StringUTF16" "$assertionsDisabled" "Z", Cond.fieldLink RJ2 59 "java/lang/StringUTF16" "HI_BYTE_SHIFT" "I", Cond.fieldLink RJ2 63 "java/lang/StringUTF16" "LO_BYTE_SHIFT" "I", Cond.methodLink RJ5 399 yJ0_getBytes_840e7, Cond.instanceMethod yJ0_getBytes_840e7, Cond.selects RJ0 yJ0_getBytes_840e7 yJ0_getBytes_840e7, Cond.code yJ0_getBytes_840e7 cJ0_getBytes_840e7 4 none, Cond.fieldLink RJ0 9 "java/lang/String" "value" "[B", Cond.methodLink RJ0 212 arraycopyName, Cond.native arraycopyName, Cond.static arraycopyName, Cond.initialized "java/lang/System"]
def wsJ5_putStringAt_47b60_r4 : List Cond := [Cond.methodLink RJ0 335 yJ0_coder_7d493, Cond.methodLink RJ0 106 yJ1_inflate_0e8fd]
def wsJ5_putStringAt_47b60 : List Cond := .code yJ5_putStringAt_47b60 cJ5_putStringAt_47b60 3 none :: ((wsJ5_putStringAt_47b60_r1 ++ (wsJ5_putStringAt_47b60_r2 ++ (wsJ5_putStringAt_47b60_r3 ++ wsJ5_putStringAt_47b60_r4))) ++ wsJ40)
def wsJ5_append_cf1ce_r1 : List Cond := [Cond.fieldLink RJ5 79 "java/lang/AbstractStringBuilder" "count" "I", Cond.methodLink RJ5 204 ⟨"java/lang/AbstractStringBuilder", "appendNull", "()Ljava/lang/AbstractStringBuilder;"⟩, Cond.sameMethod "java/lang/AbstractStringBuilder" "java/lang/AbstractStringBuilder" "appendNull" "()Ljava/lang/AbstractStringBuilder;", Cond.selects RJ4 ⟨"java/lang/AbstractStringBuilder", "appendNull", "()Ljava/lang/AbstractStringBuilder;"⟩ yJ5_appendNull_278bc, Cond.instanceMethod yJ5_appendNull_278bc, Cond.initialized RJ5, Cond.code yJ5_appendNull_278bc cJ5_appendNull_278bc 3 (some (.object "java/lang/AbstractStringBuilder")), Cond.fieldLink RJ5 15 "java/lang/AbstractStringBuilder" "value" "[B", Cond.methodLink RJ5 100 ⟨"java/lang/AbstractStringBuilder", "ensureCapacityInternal", "(I)V"⟩, Cond.sameMethod "java/lang/AbstractStringBuilder" "java/lang/AbstractStringBuilder" "ensureCapacityInternal" "(I)V", Cond.selects RJ4 ⟨"java/lang/AbstractStringBuilder", "ensureCapacityInternal", "(I)V"⟩ yJ5_ensureCapacityInternal_d00df, Cond.instanceMethod yJ5_ensureCapacityInternal_d00df, Cond.code yJ5_ensureCapacityInternal_d00df cJ5_ensureCapacityInternal_d00df 3 none, Cond.fieldLink RJ5 22 "java/lang/AbstractStringBuilder" "coder" "B", Cond.methodLink RJ5 104 ⟨"java/lang/AbstractStringBuilder", "newCapacity", "(I)I"⟩, Cond.sameMethod "java/lang/AbstractStringBuilder" "java/lang/AbstractStringBuilder" "newCapacity" "(I)I", Cond.selects RJ4 ⟨"java/lang/AbstractStringBuilder", "newCapacity", "(I)I"⟩ yJ5_newCapacity_0f7a4, Cond.instanceMethod yJ5_newCapacity_0f7a4, Cond.code yJ5_newCapacity_0f7a4 cJ5_newCapacity_0f7a4 6 (some .int), Cond.constant RJ5 39 (2147483647), Cond.methodLink RJ5 114 yJ8_newLength_cabcc, Cond.static yJ8_newLength_cabcc, Cond.initialized RJ8, Cond.code yJ8_newLength_cabcc cJ8_newLength_cabcc 4 (some .int)]
def wsJ5_append_cf1ce_r2 : List Cond := [Cond.methodLink RJ8 194 Lib.Math.max.name, Cond.static Lib.Math.max.name, Cond.initialized "java/lang/Math", Cond.code Lib.Math.max.name Lib.Math.max.code 2 (some .int), Cond.constant RJ8 200 (2147483639), Cond.methodLink RJ8 201 yJ8_hugeLength_7cf53, Cond.static yJ8_hugeLength_7cf53, Cond.code yJ8_hugeLength_7cf53 cJ8_hugeLength_7cf53 3 (some .int), Cond.methodLink RJ5 108 yJ7_copyOf_9075b, Cond.static yJ7_copyOf_9075b, Cond.initialized RJ7, Cond.code yJ7_copyOf_9075b cJ7_copyOf_9075b 3 (some (.array .byte)), Cond.methodLink RJ7 310 ⟨"[B", "clone", "()Ljava/lang/Object;"⟩, Cond.sameMethod "[B" "java/lang/Object" "clone" "()Ljava/lang/Object;", Cond.native ⟨"java/lang/Object", "clone", "()Ljava/lang/Object;"⟩, Cond.instanceMethod ⟨"java/lang/Object", "clone", "()Ljava/lang/Object;"⟩, Cond.selects "[B" ⟨"[B", "clone", "()Ljava/lang/Object;"⟩ ⟨"java/lang/Object", "clone", "()Ljava/lang/Object;"⟩, Cond.classLink RJ7 311 "[B", Cond.arrayClass .byte, Cond.methodLink RJ7 304 Lib.Math.min.name, Cond.static Lib.Math.min.name, Cond.code Lib.Math.min.name Lib.Math.min.code 2 (some .int), Cond.methodLink RJ7 150 arraycopyName, Cond.native arraycopyName]
def wsJ5_append_cf1ce_r3 : List Cond := [Cond.static arraycopyName, Cond.initialized "java/lang/System", Cond.methodLink RJ5 83 ⟨"java/lang/AbstractStringBuilder", "isLatin1", "()Z"⟩, Cond.sameMethod "java/lang/AbstractStringBuilder" "java/lang/AbstractStringBuilder" "isLatin1" "()Z", Cond.selects RJ4 ⟨"java/lang/AbstractStringBuilder", "isLatin1", "()Z"⟩ yJ5_isLatin1_aae02, Cond.instanceMethod yJ5_isLatin1_aae02, Cond.code yJ5_isLatin1_aae02 cJ5_isLatin1_aae02 1 (some .boolean), Cond.fieldLink RJ5 18 "java/lang/String" "COMPACT_STRINGS" "Z", Cond.methodLink RJ5 226 yJ2_putCharsAt_cd4e5, Cond.static yJ2_putCharsAt_cd4e5, Cond.initialized RJ2, Cond.code yJ2_putCharsAt_cd4e5 cJ2_putCharsAt_cd4e5 7 (some .int), Cond.fieldLink RJ2 44 "java/lang/StringUTF16" "$assertionsDisabled" "Z", Cond.methodLink RJ2 96 yJ2_checkBoundsBeginEnd_d044e, Cond.static yJ2_checkBoundsBeginEnd_d044e, Cond.code yJ2_checkBoundsBeginEnd_d044e cJ2_checkBoundsBeginEnd_d044e 3 none, Cond.methodLink RJ2 48 yJ2_length_9d52b, Cond.static yJ2_length_9d52b, Cond.code yJ2_length_9d52b cJ2_length_9d52b 1 (some .int), Cond.methodLink RJ2 241 yJ0_checkBoundsBeginEnd_23922, Cond.static yJ0_checkBoundsBeginEnd_23922, Cond.initialized RJ0, Cond.code yJ0_checkBoundsBeginEnd_23922 cJ0_checkBoundsBeginEnd_23922 3 none, Cond.fieldLink RJ0 1053 "jdk/internal/util/Preconditions" "SIOOBE_FORMATTER" "Ljava/util/function/BiFunction;"]
def wsJ5_append_cf1ce_r4 : List Cond := [Cond.methodLink RJ0 1062 yJ3_checkFromToIndex_8c36e, Cond.static yJ3_checkFromToIndex_8c36e, Cond.initialized RJ3, Cond.code yJ3_checkFromToIndex_8c36e cJ3_checkFromToIndex_8c36e 4 (some .int), Cond.methodLink RJ2 111 yJ2_putChar_b72d1, Cond.static yJ2_putChar_b72d1, Cond.code yJ2_putChar_b72d1 cJ2_putChar_b72d1 3 none, Cond.fieldLink RJ2 59 "java/lang/StringUTF16" "HI_BYTE_SHIFT" "I", Cond.fieldLink RJ2 63 "java/lang/StringUTF16" "LO_BYTE_SHIFT" "I", Cond.methodLink RJ5 32 yJ0_length_8abf5, Cond.instanceMethod yJ0_length_8abf5, Cond.selects RJ0 yJ0_length_8abf5 yJ0_length_8abf5, Cond.code yJ0_length_8abf5 cJ0_length_8abf5 1 (some .int), Cond.fieldLink RJ0 9 "java/lang/String" "value" "[B", Cond.methodLink RJ0 335 yJ0_coder_7d493, Cond.instanceMethod yJ0_coder_7d493, Cond.selects RJ0 yJ0_coder_7d493 yJ0_coder_7d493, Cond.code yJ0_coder_7d493 cJ0_coder_7d493 1 (some .byte), Cond.fieldLink RJ0 38 "java/lang/String" "COMPACT_STRINGS" "Z", Cond.fieldLink RJ0 15 "java/lang/String" "coder" "B", Cond.methodLink RJ5 208 ⟨"java/lang/AbstractStringBuilder", "putStringAt", "(ILjava/lang/String;)V"⟩, Cond.sameMethod "java/lang/AbstractStringBuilder" "java/lang/AbstractStringBuilder" "putStringAt" "(ILjava/lang/String;)V", Cond.selects RJ4 ⟨"java/lang/AbstractStringBuilder", "putStringAt", "(ILjava/lang/String;)V"⟩ yJ5_putStringAt_47b60, Cond.instanceMethod yJ5_putStringAt_47b60]
def wsJ5_append_cf1ce_r5 : List Cond := [Cond.code yJ5_putStringAt_47b60 cJ5_putStringAt_47b60 3 none, Cond.methodLink RJ5 397 ⟨"java/lang/AbstractStringBuilder", "inflateIfNeededFor", "(Ljava/lang/String;)V"⟩, Cond.sameMethod "java/lang/AbstractStringBuilder" "java/lang/AbstractStringBuilder" "inflateIfNeededFor" "(Ljava/lang/String;)V", Cond.selects RJ4 ⟨"java/lang/AbstractStringBuilder", "inflateIfNeededFor", "(Ljava/lang/String;)V"⟩ yJ5_inflateIfNeededFor_a7421, Cond.instanceMethod yJ5_inflateIfNeededFor_a7421, Cond.code yJ5_inflateIfNeededFor_a7421 cJ5_inflateIfNeededFor_a7421 2 none, Cond.methodLink RJ5 40 yJ0_coder_7d493, Cond.methodLink RJ5 195 ⟨"java/lang/AbstractStringBuilder", "inflate", "()V"⟩, Cond.sameMethod "java/lang/AbstractStringBuilder" "java/lang/AbstractStringBuilder" "inflate" "()V", Cond.selects RJ4 ⟨"java/lang/AbstractStringBuilder", "inflate", "()V"⟩ yJ5_inflate_da8c8, Cond.instanceMethod yJ5_inflate_da8c8, Cond.code yJ5_inflate_da8c8 cJ5_inflate_da8c8 2 none, Cond.methodLink RJ5 26 yJ2_newBytesFor_77867, Cond.static yJ2_newBytesFor_77867, Cond.code yJ2_newBytesFor_77867 cJ2_newBytesFor_77867 1 (some (.array .byte)), Cond.methodLink RJ2 11 yJ2_newBytesLength_0f7a4, Cond.static yJ2_newBytesLength_0f7a4, Cond.code yJ2_newBytesLength_0f7a4 cJ2_newBytesLength_0f7a4 1 (some .int), Cond.constant RJ2 20 (1073741823), Cond.methodLink RJ5 125 yJ1_inflate_0e8fd, Cond.static yJ1_inflate_0e8fd, Cond.initialized RJ1, Cond.code yJ1_inflate_0e8fd cJ1_inflate_0e8fd 5 none, Cond.methodLink RJ1 240 yJ2_inflate_0e8fd]
def wsJ5_append_cf1ce_r6 : List Cond := [Cond.static yJ2_inflate_0e8fd, Cond.code yJ2_inflate_0e8fd cJ2_inflate_0e8fd 6 none, Cond.methodLink RJ2 173 yJ2_checkBoundsOffCount_d044e, Cond.static yJ2_checkBoundsOffCount_d044e, Cond.code yJ2_checkBoundsOffCount_d044e cJ2_checkBoundsOffCount_d044e 3 none, Cond.methodLink RJ2 419 yJ0_checkBoundsOffCount_cabcc, Cond.static yJ0_checkBoundsOffCount_cabcc, Cond.code yJ0_checkBoundsOffCount_cabcc cJ0_checkBoundsOffCount_cabcc 3 (some .int), Cond.methodLink RJ0 1065 yJ3_checkFromIndexSize_8c36e, Cond.static yJ3_checkFromIndexSize_8c36e, Cond.code yJ3_checkFromIndexSize_8c36e cJ3_checkFromIndexSize_8c36e 4 (some .int), Cond.methodLink RJ5 399 yJ0_getBytes_840e7, Cond.instanceMethod yJ0_getBytes_840e7, Cond.selects RJ0 yJ0_getBytes_840e7 yJ0_getBytes_840e7, Cond.code yJ0_getBytes_840e7 cJ0_getBytes_840e7 4 none, Cond.methodLink RJ0 212 arraycopyName, Cond.methodLink RJ0 106 yJ1_inflate_0e8fd]
def wsJ5_append_cf1ce : List Cond := .code yJ5_append_cf1ce cJ5_append_cf1ce 3 (some (.object "java/lang/AbstractStringBuilder")) :: ((wsJ5_append_cf1ce_r1 ++ (wsJ5_append_cf1ce_r2 ++ (wsJ5_append_cf1ce_r3 ++ (wsJ5_append_cf1ce_r4 ++ (wsJ5_append_cf1ce_r5 ++ wsJ5_append_cf1ce_r6))))) ++ wsJ40)
def wsJ4_append_15ec4_r1 : List Cond := [Cond.methodLink RJ4 29 yJ5_append_cf1ce, Cond.sameMethod "java/lang/AbstractStringBuilder" "java/lang/AbstractStringBuilder" "append" "(Ljava/lang/String;)Ljava/lang/AbstractStringBuilder;", Cond.superclass RJ4 RJ5, Cond.instanceMethod yJ5_append_cf1ce, Cond.initialized RJ5, Cond.code yJ5_append_cf1ce cJ5_append_cf1ce 3 (some (.object "java/lang/AbstractStringBuilder")), Cond.fieldLink RJ5 79 "java/lang/AbstractStringBuilder" "count" "I", Cond.methodLink RJ5 204 ⟨"java/lang/AbstractStringBuilder", "appendNull", "()Ljava/lang/AbstractStringBuilder;"⟩, Cond.sameMethod "java/lang/AbstractStringBuilder" "java/lang/AbstractStringBuilder" "appendNull" "()Ljava/lang/AbstractStringBuilder;", Cond.selects RJ4 ⟨"java/lang/AbstractStringBuilder", "appendNull", "()Ljava/lang/AbstractStringBuilder;"⟩ yJ5_appendNull_278bc, Cond.instanceMethod yJ5_appendNull_278bc, Cond.code yJ5_appendNull_278bc cJ5_appendNull_278bc 3 (some (.object "java/lang/AbstractStringBuilder")), Cond.fieldLink RJ5 15 "java/lang/AbstractStringBuilder" "value" "[B", Cond.methodLink RJ5 100 ⟨"java/lang/AbstractStringBuilder", "ensureCapacityInternal", "(I)V"⟩, Cond.sameMethod "java/lang/AbstractStringBuilder" "java/lang/AbstractStringBuilder" "ensureCapacityInternal" "(I)V", Cond.selects RJ4 ⟨"java/lang/AbstractStringBuilder", "ensureCapacityInternal", "(I)V"⟩ yJ5_ensureCapacityInternal_d00df, Cond.instanceMethod yJ5_ensureCapacityInternal_d00df, Cond.code yJ5_ensureCapacityInternal_d00df cJ5_ensureCapacityInternal_d00df 3 none, Cond.fieldLink RJ5 22 "java/lang/AbstractStringBuilder" "coder" "B", Cond.methodLink RJ5 104 ⟨"java/lang/AbstractStringBuilder", "newCapacity", "(I)I"⟩, Cond.sameMethod "java/lang/AbstractStringBuilder" "java/lang/AbstractStringBuilder" "newCapacity" "(I)I", Cond.selects RJ4 ⟨"java/lang/AbstractStringBuilder", "newCapacity", "(I)I"⟩ yJ5_newCapacity_0f7a4, Cond.instanceMethod yJ5_newCapacity_0f7a4, Cond.code yJ5_newCapacity_0f7a4 cJ5_newCapacity_0f7a4 6 (some .int)]
def wsJ4_append_15ec4_r2 : List Cond := [Cond.constant RJ5 39 (2147483647), Cond.methodLink RJ5 114 yJ8_newLength_cabcc, Cond.static yJ8_newLength_cabcc, Cond.initialized RJ8, Cond.code yJ8_newLength_cabcc cJ8_newLength_cabcc 4 (some .int), Cond.methodLink RJ8 194 Lib.Math.max.name, Cond.static Lib.Math.max.name, Cond.initialized "java/lang/Math", Cond.code Lib.Math.max.name Lib.Math.max.code 2 (some .int), Cond.constant RJ8 200 (2147483639), Cond.methodLink RJ8 201 yJ8_hugeLength_7cf53, Cond.static yJ8_hugeLength_7cf53, Cond.code yJ8_hugeLength_7cf53 cJ8_hugeLength_7cf53 3 (some .int), Cond.methodLink RJ5 108 yJ7_copyOf_9075b, Cond.static yJ7_copyOf_9075b, Cond.initialized RJ7, Cond.code yJ7_copyOf_9075b cJ7_copyOf_9075b 3 (some (.array .byte)), Cond.methodLink RJ7 310 ⟨"[B", "clone", "()Ljava/lang/Object;"⟩, Cond.sameMethod "[B" "java/lang/Object" "clone" "()Ljava/lang/Object;", Cond.native ⟨"java/lang/Object", "clone", "()Ljava/lang/Object;"⟩, Cond.instanceMethod ⟨"java/lang/Object", "clone", "()Ljava/lang/Object;"⟩, Cond.selects "[B" ⟨"[B", "clone", "()Ljava/lang/Object;"⟩ ⟨"java/lang/Object", "clone", "()Ljava/lang/Object;"⟩, Cond.classLink RJ7 311 "[B", Cond.arrayClass .byte]
def wsJ4_append_15ec4_r3 : List Cond := [Cond.methodLink RJ7 304 Lib.Math.min.name, Cond.static Lib.Math.min.name, Cond.code Lib.Math.min.name Lib.Math.min.code 2 (some .int), Cond.methodLink RJ7 150 arraycopyName, Cond.native arraycopyName, Cond.static arraycopyName, Cond.initialized "java/lang/System", Cond.methodLink RJ5 83 ⟨"java/lang/AbstractStringBuilder", "isLatin1", "()Z"⟩, Cond.sameMethod "java/lang/AbstractStringBuilder" "java/lang/AbstractStringBuilder" "isLatin1" "()Z", Cond.selects RJ4 ⟨"java/lang/AbstractStringBuilder", "isLatin1", "()Z"⟩ yJ5_isLatin1_aae02, Cond.instanceMethod yJ5_isLatin1_aae02, Cond.code yJ5_isLatin1_aae02 cJ5_isLatin1_aae02 1 (some .boolean), Cond.fieldLink RJ5 18 "java/lang/String" "COMPACT_STRINGS" "Z", Cond.methodLink RJ5 226 yJ2_putCharsAt_cd4e5, Cond.static yJ2_putCharsAt_cd4e5, Cond.initialized RJ2, Cond.code yJ2_putCharsAt_cd4e5 cJ2_putCharsAt_cd4e5 7 (some .int), Cond.fieldLink RJ2 44 "java/lang/StringUTF16" "$assertionsDisabled" "Z", Cond.methodLink RJ2 96 yJ2_checkBoundsBeginEnd_d044e, Cond.static yJ2_checkBoundsBeginEnd_d044e, Cond.code yJ2_checkBoundsBeginEnd_d044e cJ2_checkBoundsBeginEnd_d044e 3 none, Cond.methodLink RJ2 48 yJ2_length_9d52b, Cond.static yJ2_length_9d52b, Cond.code yJ2_length_9d52b cJ2_length_9d52b 1 (some .int)]
def wsJ4_append_15ec4_r4 : List Cond := [Cond.methodLink RJ2 241 yJ0_checkBoundsBeginEnd_23922, Cond.static yJ0_checkBoundsBeginEnd_23922, Cond.initialized RJ0, Cond.code yJ0_checkBoundsBeginEnd_23922 cJ0_checkBoundsBeginEnd_23922 3 none, Cond.fieldLink RJ0 1053 "jdk/internal/util/Preconditions" "SIOOBE_FORMATTER" "Ljava/util/function/BiFunction;", Cond.methodLink RJ0 1062 yJ3_checkFromToIndex_8c36e, Cond.static yJ3_checkFromToIndex_8c36e, Cond.initialized RJ3, Cond.code yJ3_checkFromToIndex_8c36e cJ3_checkFromToIndex_8c36e 4 (some .int), Cond.methodLink RJ2 111 yJ2_putChar_b72d1, Cond.static yJ2_putChar_b72d1, Cond.code yJ2_putChar_b72d1 cJ2_putChar_b72d1 3 none, Cond.fieldLink RJ2 59 "java/lang/StringUTF16" "HI_BYTE_SHIFT" "I", Cond.fieldLink RJ2 63 "java/lang/StringUTF16" "LO_BYTE_SHIFT" "I", Cond.methodLink RJ5 32 yJ0_length_8abf5, Cond.instanceMethod yJ0_length_8abf5, Cond.selects RJ0 yJ0_length_8abf5 yJ0_length_8abf5, Cond.code yJ0_length_8abf5 cJ0_length_8abf5 1 (some .int), Cond.fieldLink RJ0 9 "java/lang/String" "value" "[B", Cond.methodLink RJ0 335 yJ0_coder_7d493, Cond.instanceMethod yJ0_coder_7d493, Cond.selects RJ0 yJ0_coder_7d493 yJ0_coder_7d493, Cond.code yJ0_coder_7d493 cJ0_coder_7d493 1 (some .byte), Cond.fieldLink RJ0 38 "java/lang/String" "COMPACT_STRINGS" "Z"]
def wsJ4_append_15ec4_r5 : List Cond := [Cond.fieldLink RJ0 15 "java/lang/String" "coder" "B", Cond.methodLink RJ5 208 ⟨"java/lang/AbstractStringBuilder", "putStringAt", "(ILjava/lang/String;)V"⟩, Cond.sameMethod "java/lang/AbstractStringBuilder" "java/lang/AbstractStringBuilder" "putStringAt" "(ILjava/lang/String;)V", Cond.selects RJ4 ⟨"java/lang/AbstractStringBuilder", "putStringAt", "(ILjava/lang/String;)V"⟩ yJ5_putStringAt_47b60, Cond.instanceMethod yJ5_putStringAt_47b60, Cond.code yJ5_putStringAt_47b60 cJ5_putStringAt_47b60 3 none, Cond.methodLink RJ5 397 ⟨"java/lang/AbstractStringBuilder", "inflateIfNeededFor", "(Ljava/lang/String;)V"⟩, Cond.sameMethod "java/lang/AbstractStringBuilder" "java/lang/AbstractStringBuilder" "inflateIfNeededFor" "(Ljava/lang/String;)V", Cond.selects RJ4 ⟨"java/lang/AbstractStringBuilder", "inflateIfNeededFor", "(Ljava/lang/String;)V"⟩ yJ5_inflateIfNeededFor_a7421, Cond.instanceMethod yJ5_inflateIfNeededFor_a7421, Cond.code yJ5_inflateIfNeededFor_a7421 cJ5_inflateIfNeededFor_a7421 2 none, Cond.methodLink RJ5 40 yJ0_coder_7d493, Cond.methodLink RJ5 195 ⟨"java/lang/AbstractStringBuilder", "inflate", "()V"⟩, Cond.sameMethod "java/lang/AbstractStringBuilder" "java/lang/AbstractStringBuilder" "inflate" "()V", Cond.selects RJ4 ⟨"java/lang/AbstractStringBuilder", "inflate", "()V"⟩ yJ5_inflate_da8c8, Cond.instanceMethod yJ5_inflate_da8c8, Cond.code yJ5_inflate_da8c8 cJ5_inflate_da8c8 2 none, Cond.methodLink RJ5 26 yJ2_newBytesFor_77867, Cond.static yJ2_newBytesFor_77867, Cond.code yJ2_newBytesFor_77867 cJ2_newBytesFor_77867 1 (some (.array .byte)), Cond.methodLink RJ2 11 yJ2_newBytesLength_0f7a4, Cond.static yJ2_newBytesLength_0f7a4, Cond.code yJ2_newBytesLength_0f7a4 cJ2_newBytesLength_0f7a4 1 (some .int), Cond.constant RJ2 20 (1073741823)]
def wsJ4_append_15ec4_r6 : List Cond := [Cond.methodLink RJ5 125 yJ1_inflate_0e8fd, Cond.static yJ1_inflate_0e8fd, Cond.initialized RJ1, Cond.code yJ1_inflate_0e8fd cJ1_inflate_0e8fd 5 none, Cond.methodLink RJ1 240 yJ2_inflate_0e8fd, Cond.static yJ2_inflate_0e8fd, Cond.code yJ2_inflate_0e8fd cJ2_inflate_0e8fd 6 none, Cond.methodLink RJ2 173 yJ2_checkBoundsOffCount_d044e, Cond.static yJ2_checkBoundsOffCount_d044e, Cond.code yJ2_checkBoundsOffCount_d044e cJ2_checkBoundsOffCount_d044e 3 none, Cond.methodLink RJ2 419 yJ0_checkBoundsOffCount_cabcc, Cond.static yJ0_checkBoundsOffCount_cabcc, Cond.code yJ0_checkBoundsOffCount_cabcc cJ0_checkBoundsOffCount_cabcc 3 (some .int), Cond.methodLink RJ0 1065 yJ3_checkFromIndexSize_8c36e, Cond.static yJ3_checkFromIndexSize_8c36e, Cond.code yJ3_checkFromIndexSize_8c36e cJ3_checkFromIndexSize_8c36e 4 (some .int), Cond.methodLink RJ5 399 yJ0_getBytes_840e7, Cond.instanceMethod yJ0_getBytes_840e7, Cond.selects RJ0 yJ0_getBytes_840e7 yJ0_getBytes_840e7, Cond.code yJ0_getBytes_840e7 cJ0_getBytes_840e7 4 none, Cond.methodLink RJ0 212 arraycopyName, Cond.methodLink RJ0 106 yJ1_inflate_0e8fd]
def wsJ4_append_15ec4 : List Cond := .code yJ4_append_15ec4 cJ4_append_15ec4 2 (some (.object "java/lang/StringBuilder")) :: ((wsJ4_append_15ec4_r1 ++ (wsJ4_append_15ec4_r2 ++ (wsJ4_append_15ec4_r3 ++ (wsJ4_append_15ec4_r4 ++ (wsJ4_append_15ec4_r5 ++ wsJ4_append_15ec4_r6))))) ++ wsJ40)
def wsX5_wordingFor : List Cond := .code yX5_wordingFor cX5_wordingFor 3 (some (.object "java/lang/String")) :: ([.fieldLink RX5 28 "ProofChecker" "stated" "LProofChecker$Statements;", .fieldLink RX5 57 "ProofChecker" "KINDS" "[LProofChecker$Kind;", .fieldLink RX5 271 "ProofChecker$Kind" "NOTHING" "LProofChecker$Kind;", .methodLink RX5 139 yX4_kind, .instanceMethod yX4_kind, .selects RX4 yX4_kind yX4_kind, .initialized RX4, .code yX4_kind cX4_kind 2 (some .int), .fieldLink RX4 15 "ProofChecker$Statements" "kinds" "[I", .methodLink RX5 142 yX4_number, .instanceMethod yX4_number, .selects RX4 yX4_number yX4_number, .code yX4_number cX4_number 4 (some .int), .fieldLink RX4 21 "ProofChecker$Statements" "numbers" "[I"] ++ wsX50 ++ wsX40)
def wsJ1_canEncode_fc78d : List Cond := .code yJ1_canEncode_fc78d cJ1_canEncode_fc78d 1 (some .boolean) :: ([])
def wsJ2_putCharSB_b72d1 : List Cond := .code yJ2_putCharSB_b72d1 cJ2_putCharSB_b72d1 3 none :: ([.methodLink RJ2 67 yJ2_checkIndex_2214a, .static yJ2_checkIndex_2214a, .initialized RJ2, .code yJ2_checkIndex_2214a cJ2_checkIndex_2214a 2 none, .methodLink RJ2 48 yJ2_length_9d52b, .static yJ2_length_9d52b, .code yJ2_length_9d52b cJ2_length_9d52b 1 (some .int), .methodLink RJ2 414 yJ0_checkIndex_df160, .static yJ0_checkIndex_df160, .initialized RJ0, .code yJ0_checkIndex_df160 cJ0_checkIndex_df160 2 none, .fieldLink RJ0 1053 "jdk/internal/util/Preconditions" "SIOOBE_FORMATTER" "Ljava/util/function/BiFunction;", .methodLink RJ0 1059 yJ3_checkIndex_8e157, .static yJ3_checkIndex_8e157, .initialized RJ3, .code yJ3_checkIndex_8e157 cJ3_checkIndex_8e157 3 (some .int), .methodLink RJ2 111 yJ2_putChar_b72d1, .static yJ2_putChar_b72d1, .code yJ2_putChar_b72d1 cJ2_putChar_b72d1 3 none, .fieldLink RJ2 44 "java/lang/StringUTF16" "$assertionsDisabled" "Z", .fieldLink RJ2 59 "java/lang/StringUTF16" "HI_BYTE_SHIFT" "I", .fieldLink RJ2 63 "java/lang/StringUTF16" "LO_BYTE_SHIFT" "I"])
def wsJ5_append_3fe6f_r1 : List Cond := [Cond.fieldLink RJ5 79 "java/lang/AbstractStringBuilder" "count" "I", Cond.fieldLink RJ5 15 "java/lang/AbstractStringBuilder" "value" "[B", Cond.methodLink RJ5 100 ⟨"java/lang/AbstractStringBuilder", "ensureCapacityInternal", "(I)V"⟩, Cond.sameMethod "java/lang/AbstractStringBuilder" "java/lang/AbstractStringBuilder" "ensureCapacityInternal" "(I)V", Cond.selects RJ4 ⟨"java/lang/AbstractStringBuilder", "ensureCapacityInternal", "(I)V"⟩ yJ5_ensureCapacityInternal_d00df, Cond.instanceMethod yJ5_ensureCapacityInternal_d00df, Cond.initialized RJ5, Cond.code yJ5_ensureCapacityInternal_d00df cJ5_ensureCapacityInternal_d00df 3 none, Cond.fieldLink RJ5 22 "java/lang/AbstractStringBuilder" "coder" "B", Cond.methodLink RJ5 104 ⟨"java/lang/AbstractStringBuilder", "newCapacity", "(I)I"⟩, Cond.sameMethod "java/lang/AbstractStringBuilder" "java/lang/AbstractStringBuilder" "newCapacity" "(I)I", Cond.selects RJ4 ⟨"java/lang/AbstractStringBuilder", "newCapacity", "(I)I"⟩ yJ5_newCapacity_0f7a4, Cond.instanceMethod yJ5_newCapacity_0f7a4, Cond.code yJ5_newCapacity_0f7a4 cJ5_newCapacity_0f7a4 6 (some .int), Cond.constant RJ5 39 (2147483647), Cond.methodLink RJ5 114 yJ8_newLength_cabcc, Cond.static yJ8_newLength_cabcc, Cond.initialized RJ8, Cond.code yJ8_newLength_cabcc cJ8_newLength_cabcc 4 (some .int), Cond.methodLink RJ8 194 Lib.Math.max.name, Cond.static Lib.Math.max.name, Cond.initialized "java/lang/Math", Cond.code Lib.Math.max.name Lib.Math.max.code 2 (some .int), Cond.constant RJ8 200 (2147483639)]
def wsJ5_append_3fe6f_r2 : List Cond := [Cond.methodLink RJ8 201 yJ8_hugeLength_7cf53, Cond.static yJ8_hugeLength_7cf53, Cond.code yJ8_hugeLength_7cf53 cJ8_hugeLength_7cf53 3 (some .int), Cond.methodLink RJ5 108 yJ7_copyOf_9075b, Cond.static yJ7_copyOf_9075b, Cond.initialized RJ7, Cond.code yJ7_copyOf_9075b cJ7_copyOf_9075b 3 (some (.array .byte)), Cond.methodLink RJ7 310 ⟨"[B", "clone", "()Ljava/lang/Object;"⟩, Cond.sameMethod "[B" "java/lang/Object" "clone" "()Ljava/lang/Object;", Cond.native ⟨"java/lang/Object", "clone", "()Ljava/lang/Object;"⟩, Cond.instanceMethod ⟨"java/lang/Object", "clone", "()Ljava/lang/Object;"⟩, Cond.selects "[B" ⟨"[B", "clone", "()Ljava/lang/Object;"⟩ ⟨"java/lang/Object", "clone", "()Ljava/lang/Object;"⟩, Cond.classLink RJ7 311 "[B", Cond.arrayClass .byte, Cond.methodLink RJ7 304 Lib.Math.min.name, Cond.static Lib.Math.min.name, Cond.code Lib.Math.min.name Lib.Math.min.code 2 (some .int), Cond.methodLink RJ7 150 arraycopyName, Cond.native arraycopyName, Cond.static arraycopyName, Cond.initialized "java/lang/System", Cond.methodLink RJ5 83 ⟨"java/lang/AbstractStringBuilder", "isLatin1", "()Z"⟩, Cond.sameMethod "java/lang/AbstractStringBuilder" "java/lang/AbstractStringBuilder" "isLatin1" "()Z", Cond.selects RJ4 ⟨"java/lang/AbstractStringBuilder", "isLatin1", "()Z"⟩ yJ5_isLatin1_aae02]
def wsJ5_append_3fe6f_r3 : List Cond := [Cond.instanceMethod yJ5_isLatin1_aae02, Cond.code yJ5_isLatin1_aae02 cJ5_isLatin1_aae02 1 (some .boolean), Cond.fieldLink RJ5 18 "java/lang/String" "COMPACT_STRINGS" "Z", Cond.methodLink RJ5 191 yJ1_canEncode_fc78d, Cond.static yJ1_canEncode_fc78d, Cond.initialized RJ1, Cond.code yJ1_canEncode_fc78d cJ1_canEncode_fc78d 1 (some .boolean), Cond.methodLink RJ5 195 ⟨"java/lang/AbstractStringBuilder", "inflate", "()V"⟩, Cond.sameMethod "java/lang/AbstractStringBuilder" "java/lang/AbstractStringBuilder" "inflate" "()V", Cond.selects RJ4 ⟨"java/lang/AbstractStringBuilder", "inflate", "()V"⟩ yJ5_inflate_da8c8, Cond.instanceMethod yJ5_inflate_da8c8, Cond.code yJ5_inflate_da8c8 cJ5_inflate_da8c8 2 none, Cond.methodLink RJ5 26 yJ2_newBytesFor_77867, Cond.static yJ2_newBytesFor_77867, Cond.initialized RJ2, Cond.code yJ2_newBytesFor_77867 cJ2_newBytesFor_77867 1 (some (.array .byte)), Cond.methodLink RJ2 11 yJ2_newBytesLength_0f7a4, Cond.static yJ2_newBytesLength_0f7a4, Cond.code yJ2_newBytesLength_0f7a4 cJ2_newBytesLength_0f7a4 1 (some .int), Cond.constant RJ2 20 (1073741823), Cond.methodLink RJ5 125 yJ1_inflate_0e8fd, Cond.static yJ1_inflate_0e8fd, Cond.code yJ1_inflate_0e8fd cJ1_inflate_0e8fd 5 none, Cond.methodLink RJ1 240 yJ2_inflate_0e8fd]
def wsJ5_append_3fe6f_r4 : List Cond := [Cond.static yJ2_inflate_0e8fd, Cond.code yJ2_inflate_0e8fd cJ2_inflate_0e8fd 6 none, Cond.methodLink RJ2 173 yJ2_checkBoundsOffCount_d044e, Cond.static yJ2_checkBoundsOffCount_d044e, Cond.code yJ2_checkBoundsOffCount_d044e cJ2_checkBoundsOffCount_d044e 3 none, Cond.methodLink RJ2 48 yJ2_length_9d52b, Cond.static yJ2_length_9d52b, Cond.code yJ2_length_9d52b cJ2_length_9d52b 1 (some .int), Cond.methodLink RJ2 419 yJ0_checkBoundsOffCount_cabcc, Cond.static yJ0_checkBoundsOffCount_cabcc, Cond.initialized RJ0, Cond.code yJ0_checkBoundsOffCount_cabcc cJ0_checkBoundsOffCount_cabcc 3 (some .int), Cond.fieldLink RJ0 1053 "jdk/internal/util/Preconditions" "SIOOBE_FORMATTER" "Ljava/util/function/BiFunction;", Cond.methodLink RJ0 1065 yJ3_checkFromIndexSize_8c36e, Cond.static yJ3_checkFromIndexSize_8c36e, Cond.initialized RJ3, Cond.code yJ3_checkFromIndexSize_8c36e cJ3_checkFromIndexSize_8c36e 4 (some .int), Cond.methodLink RJ2 111 yJ2_putChar_b72d1, Cond.static yJ2_putChar_b72d1, Cond.code yJ2_putChar_b72d1 cJ2_putChar_b72d1 3 none, Cond.fieldLink RJ2 44 "java/lang/StringUTF16" "$assertionsDisabled" "Z", Cond.fieldLink RJ2 59 "java/lang/StringUTF16" "HI_BYTE_SHIFT" "I", Cond.fieldLink RJ2 63 "java/lang/StringUTF16" "LO_BYTE_SHIFT" "I", Cond.methodLink RJ5 197 yJ2_putCharSB_b72d1]
def wsJ5_append_3fe6f_r5 : List Cond := [Cond.static yJ2_putCharSB_b72d1, Cond.code yJ2_putCharSB_b72d1 cJ2_putCharSB_b72d1 3 none, Cond.methodLink RJ2 67 yJ2_checkIndex_2214a, Cond.static yJ2_checkIndex_2214a, Cond.code yJ2_checkIndex_2214a cJ2_checkIndex_2214a 2 none, Cond.methodLink RJ2 414 yJ0_checkIndex_df160, Cond.static yJ0_checkIndex_df160, Cond.code yJ0_checkIndex_df160 cJ0_checkIndex_df160 2 none, Cond.methodLink RJ0 1059 yJ3_checkIndex_8e157, Cond.static yJ3_checkIndex_8e157, Cond.code yJ3_checkIndex_8e157 cJ3_checkIndex_8e157 3 (some .int)]
def wsJ5_append_3fe6f : List Cond := .code yJ5_append_3fe6f cJ5_append_3fe6f 2 (some (.object "java/lang/AbstractStringBuilder")) :: ((wsJ5_append_3fe6f_r1 ++ (wsJ5_append_3fe6f_r2 ++ (wsJ5_append_3fe6f_r3 ++ (wsJ5_append_3fe6f_r4 ++ wsJ5_append_3fe6f_r5)))) ++ wsJ40)
def wsJ4_append_cf468_r1 : List Cond := [Cond.methodLink RJ4 50 yJ5_append_3fe6f, Cond.sameMethod "java/lang/AbstractStringBuilder" "java/lang/AbstractStringBuilder" "append" "(C)Ljava/lang/AbstractStringBuilder;", Cond.superclass RJ4 RJ5, Cond.instanceMethod yJ5_append_3fe6f, Cond.initialized RJ5, Cond.code yJ5_append_3fe6f cJ5_append_3fe6f 2 (some (.object "java/lang/AbstractStringBuilder")), Cond.fieldLink RJ5 79 "java/lang/AbstractStringBuilder" "count" "I", Cond.fieldLink RJ5 15 "java/lang/AbstractStringBuilder" "value" "[B", Cond.methodLink RJ5 100 ⟨"java/lang/AbstractStringBuilder", "ensureCapacityInternal", "(I)V"⟩, Cond.sameMethod "java/lang/AbstractStringBuilder" "java/lang/AbstractStringBuilder" "ensureCapacityInternal" "(I)V", Cond.selects RJ4 ⟨"java/lang/AbstractStringBuilder", "ensureCapacityInternal", "(I)V"⟩ yJ5_ensureCapacityInternal_d00df, Cond.instanceMethod yJ5_ensureCapacityInternal_d00df, Cond.code yJ5_ensureCapacityInternal_d00df cJ5_ensureCapacityInternal_d00df 3 none, Cond.fieldLink RJ5 22 "java/lang/AbstractStringBuilder" "coder" "B", Cond.methodLink RJ5 104 ⟨"java/lang/AbstractStringBuilder", "newCapacity", "(I)I"⟩, Cond.sameMethod "java/lang/AbstractStringBuilder" "java/lang/AbstractStringBuilder" "newCapacity" "(I)I", Cond.selects RJ4 ⟨"java/lang/AbstractStringBuilder", "newCapacity", "(I)I"⟩ yJ5_newCapacity_0f7a4, Cond.instanceMethod yJ5_newCapacity_0f7a4, Cond.code yJ5_newCapacity_0f7a4 cJ5_newCapacity_0f7a4 6 (some .int), Cond.constant RJ5 39 (2147483647), Cond.methodLink RJ5 114 yJ8_newLength_cabcc, Cond.static yJ8_newLength_cabcc, Cond.initialized RJ8, Cond.code yJ8_newLength_cabcc cJ8_newLength_cabcc 4 (some .int)]
def wsJ4_append_cf468_r2 : List Cond := [Cond.methodLink RJ8 194 Lib.Math.max.name, Cond.static Lib.Math.max.name, Cond.initialized "java/lang/Math", Cond.code Lib.Math.max.name Lib.Math.max.code 2 (some .int), Cond.constant RJ8 200 (2147483639), Cond.methodLink RJ8 201 yJ8_hugeLength_7cf53, Cond.static yJ8_hugeLength_7cf53, Cond.code yJ8_hugeLength_7cf53 cJ8_hugeLength_7cf53 3 (some .int), Cond.methodLink RJ5 108 yJ7_copyOf_9075b, Cond.static yJ7_copyOf_9075b, Cond.initialized RJ7, Cond.code yJ7_copyOf_9075b cJ7_copyOf_9075b 3 (some (.array .byte)), Cond.methodLink RJ7 310 ⟨"[B", "clone", "()Ljava/lang/Object;"⟩, Cond.sameMethod "[B" "java/lang/Object" "clone" "()Ljava/lang/Object;", Cond.native ⟨"java/lang/Object", "clone", "()Ljava/lang/Object;"⟩, Cond.instanceMethod ⟨"java/lang/Object", "clone", "()Ljava/lang/Object;"⟩, Cond.selects "[B" ⟨"[B", "clone", "()Ljava/lang/Object;"⟩ ⟨"java/lang/Object", "clone", "()Ljava/lang/Object;"⟩, Cond.classLink RJ7 311 "[B", Cond.arrayClass .byte, Cond.methodLink RJ7 304 Lib.Math.min.name, Cond.static Lib.Math.min.name, Cond.code Lib.Math.min.name Lib.Math.min.code 2 (some .int), Cond.methodLink RJ7 150 arraycopyName, Cond.native arraycopyName]
def wsJ4_append_cf468_r3 : List Cond := [Cond.static arraycopyName, Cond.initialized "java/lang/System", Cond.methodLink RJ5 83 ⟨"java/lang/AbstractStringBuilder", "isLatin1", "()Z"⟩, Cond.sameMethod "java/lang/AbstractStringBuilder" "java/lang/AbstractStringBuilder" "isLatin1" "()Z", Cond.selects RJ4 ⟨"java/lang/AbstractStringBuilder", "isLatin1", "()Z"⟩ yJ5_isLatin1_aae02, Cond.instanceMethod yJ5_isLatin1_aae02, Cond.code yJ5_isLatin1_aae02 cJ5_isLatin1_aae02 1 (some .boolean), Cond.fieldLink RJ5 18 "java/lang/String" "COMPACT_STRINGS" "Z", Cond.methodLink RJ5 191 yJ1_canEncode_fc78d, Cond.static yJ1_canEncode_fc78d, Cond.initialized RJ1, Cond.code yJ1_canEncode_fc78d cJ1_canEncode_fc78d 1 (some .boolean), Cond.methodLink RJ5 195 ⟨"java/lang/AbstractStringBuilder", "inflate", "()V"⟩, Cond.sameMethod "java/lang/AbstractStringBuilder" "java/lang/AbstractStringBuilder" "inflate" "()V", Cond.selects RJ4 ⟨"java/lang/AbstractStringBuilder", "inflate", "()V"⟩ yJ5_inflate_da8c8, Cond.instanceMethod yJ5_inflate_da8c8, Cond.code yJ5_inflate_da8c8 cJ5_inflate_da8c8 2 none, Cond.methodLink RJ5 26 yJ2_newBytesFor_77867, Cond.static yJ2_newBytesFor_77867, Cond.initialized RJ2, Cond.code yJ2_newBytesFor_77867 cJ2_newBytesFor_77867 1 (some (.array .byte)), Cond.methodLink RJ2 11 yJ2_newBytesLength_0f7a4, Cond.static yJ2_newBytesLength_0f7a4, Cond.code yJ2_newBytesLength_0f7a4 cJ2_newBytesLength_0f7a4 1 (some .int)]
def wsJ4_append_cf468_r4 : List Cond := [Cond.constant RJ2 20 (1073741823), Cond.methodLink RJ5 125 yJ1_inflate_0e8fd, Cond.static yJ1_inflate_0e8fd, Cond.code yJ1_inflate_0e8fd cJ1_inflate_0e8fd 5 none, Cond.methodLink RJ1 240 yJ2_inflate_0e8fd, Cond.static yJ2_inflate_0e8fd, Cond.code yJ2_inflate_0e8fd cJ2_inflate_0e8fd 6 none, Cond.methodLink RJ2 173 yJ2_checkBoundsOffCount_d044e, Cond.static yJ2_checkBoundsOffCount_d044e, Cond.code yJ2_checkBoundsOffCount_d044e cJ2_checkBoundsOffCount_d044e 3 none, Cond.methodLink RJ2 48 yJ2_length_9d52b, Cond.static yJ2_length_9d52b, Cond.code yJ2_length_9d52b cJ2_length_9d52b 1 (some .int), Cond.methodLink RJ2 419 yJ0_checkBoundsOffCount_cabcc, Cond.static yJ0_checkBoundsOffCount_cabcc, Cond.initialized RJ0, Cond.code yJ0_checkBoundsOffCount_cabcc cJ0_checkBoundsOffCount_cabcc 3 (some .int), Cond.fieldLink RJ0 1053 "jdk/internal/util/Preconditions" "SIOOBE_FORMATTER" "Ljava/util/function/BiFunction;", Cond.methodLink RJ0 1065 yJ3_checkFromIndexSize_8c36e, Cond.static yJ3_checkFromIndexSize_8c36e, Cond.initialized RJ3, Cond.code yJ3_checkFromIndexSize_8c36e cJ3_checkFromIndexSize_8c36e 4 (some .int), Cond.methodLink RJ2 111 yJ2_putChar_b72d1, Cond.static yJ2_putChar_b72d1]
def wsJ4_append_cf468_r5 : List Cond := [Cond.code yJ2_putChar_b72d1 cJ2_putChar_b72d1 3 none, Cond.fieldLink RJ2 44 "java/lang/StringUTF16" "$assertionsDisabled" "Z", Cond.fieldLink RJ2 59 "java/lang/StringUTF16" "HI_BYTE_SHIFT" "I", Cond.fieldLink RJ2 63 "java/lang/StringUTF16" "LO_BYTE_SHIFT" "I", Cond.methodLink RJ5 197 yJ2_putCharSB_b72d1, Cond.static yJ2_putCharSB_b72d1, Cond.code yJ2_putCharSB_b72d1 cJ2_putCharSB_b72d1 3 none, Cond.methodLink RJ2 67 yJ2_checkIndex_2214a, Cond.static yJ2_checkIndex_2214a, Cond.code yJ2_checkIndex_2214a cJ2_checkIndex_2214a 2 none, Cond.methodLink RJ2 414 yJ0_checkIndex_df160, Cond.static yJ0_checkIndex_df160, Cond.code yJ0_checkIndex_df160 cJ0_checkIndex_df160 2 none, Cond.methodLink RJ0 1059 yJ3_checkIndex_8e157, Cond.static yJ3_checkIndex_8e157, Cond.code yJ3_checkIndex_8e157 cJ3_checkIndex_8e157 3 (some .int)]
def wsJ4_append_cf468 : List Cond := .code yJ4_append_cf468 cJ4_append_cf468 2 (some (.object "java/lang/StringBuilder")) :: ((wsJ4_append_cf468_r1 ++ (wsJ4_append_cf468_r2 ++ (wsJ4_append_cf468_r3 ++ (wsJ4_append_cf468_r4 ++ wsJ4_append_cf468_r5)))) ++ wsJ40)
def wsX5_tellStatement_r1 : List Cond := [Cond.fieldLink RX5 41 "ProofChecker" "told" "Ljava/lang/StringBuilder;", Cond.fieldLink RX5 28 "ProofChecker" "stated" "LProofChecker$Statements;", Cond.methodLink RX5 260 yX5_wordingFor, Cond.instanceMethod yX5_wordingFor, Cond.selects RX5 yX5_wordingFor yX5_wordingFor, Cond.initialized RX5, Cond.code yX5_wordingFor cX5_wordingFor 3 (some (.object "java/lang/String")), Cond.fieldLink RX5 57 "ProofChecker" "KINDS" "[LProofChecker$Kind;", Cond.fieldLink RX5 271 "ProofChecker$Kind" "NOTHING" "LProofChecker$Kind;", Cond.methodLink RX5 139 yX4_kind, Cond.instanceMethod yX4_kind, Cond.selects RX4 yX4_kind yX4_kind, Cond.initialized RX4, Cond.code yX4_kind cX4_kind 2 (some .int), Cond.fieldLink RX4 15 "ProofChecker$Statements" "kinds" "[I", Cond.methodLink RX5 142 yX4_number, Cond.instanceMethod yX4_number, Cond.selects RX4 yX4_number yX4_number, Cond.code yX4_number cX4_number 4 (some .int), Cond.fieldLink RX4 21 "ProofChecker$Statements" "numbers" "[I", Cond.methodLink RX5 248 yJ0_length_8abf5, Cond.instanceMethod yJ0_length_8abf5, Cond.selects RJ0 yJ0_length_8abf5 yJ0_length_8abf5, Cond.initialized RJ0]
def wsX5_tellStatement_r2 : List Cond := [Cond.code yJ0_length_8abf5 cJ0_length_8abf5 1 (some .int), Cond.fieldLink RJ0 9 "java/lang/String" "value" "[B", Cond.methodLink RJ0 335 yJ0_coder_7d493, Cond.instanceMethod yJ0_coder_7d493, Cond.selects RJ0 yJ0_coder_7d493 yJ0_coder_7d493, Cond.code yJ0_coder_7d493 cJ0_coder_7d493 1 (some .byte), Cond.fieldLink RJ0 38 "java/lang/String" "COMPACT_STRINGS" "Z", Cond.fieldLink RJ0 15 "java/lang/String" "coder" "B", Cond.methodLink RX5 251 yJ0_charAt_5068e, Cond.instanceMethod yJ0_charAt_5068e, Cond.selects RJ0 yJ0_charAt_5068e yJ0_charAt_5068e, Cond.code yJ0_charAt_5068e cJ0_charAt_5068e 2 (some .char), Cond.methodLink RJ0 492 yJ0_isLatin1_aae02, Cond.instanceMethod yJ0_isLatin1_aae02, Cond.selects RJ0 yJ0_isLatin1_aae02 yJ0_isLatin1_aae02, Cond.code yJ0_isLatin1_aae02 cJ0_isLatin1_aae02 1 (some .boolean), Cond.methodLink RJ0 495 yJ1_charAt_3b067, Cond.static yJ1_charAt_3b067, Cond.initialized RJ1, Cond.code yJ1_charAt_3b067 cJ1_charAt_3b067 2 (some .char), Cond.methodLink RJ1 9 yJ0_checkIndex_df160, Cond.static yJ0_checkIndex_df160, Cond.code yJ0_checkIndex_df160 cJ0_checkIndex_df160 2 none, Cond.fieldLink RJ0 1053 "jdk/internal/util/Preconditions" "SIOOBE_FORMATTER" "Ljava/util/function/BiFunction;"]
def wsX5_tellStatement_r3 : List Cond := [Cond.methodLink RJ0 1059 yJ3_checkIndex_8e157, Cond.static yJ3_checkIndex_8e157, Cond.initialized RJ3, Cond.code yJ3_checkIndex_8e157 cJ3_checkIndex_8e157 3 (some .int), Cond.methodLink RJ0 498 yJ2_charAt_3b067, Cond.static yJ2_charAt_3b067, Cond.initialized RJ2, Cond.code yJ2_charAt_3b067 cJ2_charAt_3b067 2 (some .char), Cond.methodLink RJ2 67 yJ2_checkIndex_2214a, Cond.static yJ2_checkIndex_2214a, Cond.code yJ2_checkIndex_2214a cJ2_checkIndex_2214a 2 none, Cond.methodLink RJ2 48 yJ2_length_9d52b, Cond.static yJ2_length_9d52b, Cond.code yJ2_length_9d52b cJ2_length_9d52b 1 (some .int), Cond.methodLink RJ2 414 yJ0_checkIndex_df160, Cond.methodLink RJ2 71 yJ2_getChar_3b067, Cond.static yJ2_getChar_3b067, Cond.code yJ2_getChar_3b067 cJ2_getChar_3b067 2 (some .char), Cond.fieldLink RJ2 44 "java/lang/StringUTF16" "$assertionsDisabled" "Z", Cond.fieldLink RJ2 59 "java/lang/StringUTF16" "HI_BYTE_SHIFT" "I", Cond.fieldLink RJ2 63 "java/lang/StringUTF16" "LO_BYTE_SHIFT" "I", Cond.methodLink RX5 148 yJ4_append_bf812, Cond.instanceMethod yJ4_append_bf812, Cond.selects RJ4 yJ4_append_bf812 yJ4_append_bf812]
def wsX5_tellStatement_r4 : List Cond := [Cond.initialized RJ4, Cond.code yJ4_append_bf812 cJ4_append_bf812 2 (some (.object "java/lang/StringBuilder")), Cond.methodLink RJ4 53 yJ5_append_c97b9, Cond.sameMethod "java/lang/AbstractStringBuilder" "java/lang/AbstractStringBuilder" "append" "(I)Ljava/lang/AbstractStringBuilder;", Cond.superclass RJ4 RJ5, Cond.instanceMethod yJ5_append_c97b9, Cond.initialized RJ5, Cond.code yJ5_append_c97b9 cJ5_append_c97b9 4 (some (.object "java/lang/AbstractStringBuilder")), Cond.fieldLink RJ5 79 "java/lang/AbstractStringBuilder" "count" "I", Cond.fieldLink RJ5 15 "java/lang/AbstractStringBuilder" "value" "[B", Cond.methodLink RJ5 245 yJ6_stringSize_0f7a4, Cond.static yJ6_stringSize_0f7a4, Cond.initialized RJ6, Cond.code yJ6_stringSize_0f7a4 cJ6_stringSize_0f7a4 4 (some .int), Cond.methodLink RJ5 100 ⟨"java/lang/AbstractStringBuilder", "ensureCapacityInternal", "(I)V"⟩, Cond.sameMethod "java/lang/AbstractStringBuilder" "java/lang/AbstractStringBuilder" "ensureCapacityInternal" "(I)V", Cond.selects RJ4 ⟨"java/lang/AbstractStringBuilder", "ensureCapacityInternal", "(I)V"⟩ yJ5_ensureCapacityInternal_d00df, Cond.instanceMethod yJ5_ensureCapacityInternal_d00df, Cond.code yJ5_ensureCapacityInternal_d00df cJ5_ensureCapacityInternal_d00df 3 none, Cond.fieldLink RJ5 22 "java/lang/AbstractStringBuilder" "coder" "B", Cond.methodLink RJ5 104 ⟨"java/lang/AbstractStringBuilder", "newCapacity", "(I)I"⟩, Cond.sameMethod "java/lang/AbstractStringBuilder" "java/lang/AbstractStringBuilder" "newCapacity" "(I)I", Cond.selects RJ4 ⟨"java/lang/AbstractStringBuilder", "newCapacity", "(I)I"⟩ yJ5_newCapacity_0f7a4, Cond.instanceMethod yJ5_newCapacity_0f7a4]
def wsX5_tellStatement_r5 : List Cond := [Cond.code yJ5_newCapacity_0f7a4 cJ5_newCapacity_0f7a4 6 (some .int), Cond.constant RJ5 39 (2147483647), Cond.methodLink RJ5 114 yJ8_newLength_cabcc, Cond.static yJ8_newLength_cabcc, Cond.initialized RJ8, Cond.code yJ8_newLength_cabcc cJ8_newLength_cabcc 4 (some .int), Cond.methodLink RJ8 194 Lib.Math.max.name, Cond.static Lib.Math.max.name, Cond.initialized "java/lang/Math", Cond.code Lib.Math.max.name Lib.Math.max.code 2 (some .int), Cond.constant RJ8 200 (2147483639), Cond.methodLink RJ8 201 yJ8_hugeLength_7cf53, Cond.static yJ8_hugeLength_7cf53, Cond.code yJ8_hugeLength_7cf53 cJ8_hugeLength_7cf53 3 (some .int), Cond.methodLink RJ5 108 yJ7_copyOf_9075b, Cond.static yJ7_copyOf_9075b, Cond.initialized RJ7, Cond.code yJ7_copyOf_9075b cJ7_copyOf_9075b 3 (some (.array .byte)), Cond.methodLink RJ7 310 ⟨"[B", "clone", "()Ljava/lang/Object;"⟩, Cond.sameMethod "[B" "java/lang/Object" "clone" "()Ljava/lang/Object;", Cond.native ⟨"java/lang/Object", "clone", "()Ljava/lang/Object;"⟩, Cond.instanceMethod ⟨"java/lang/Object", "clone", "()Ljava/lang/Object;"⟩, Cond.selects "[B" ⟨"[B", "clone", "()Ljava/lang/Object;"⟩ ⟨"java/lang/Object", "clone", "()Ljava/lang/Object;"⟩, Cond.classLink RJ7 311 "[B"]
def wsX5_tellStatement_r6 : List Cond := [Cond.arrayClass .byte, Cond.methodLink RJ7 304 Lib.Math.min.name, Cond.static Lib.Math.min.name, Cond.code Lib.Math.min.name Lib.Math.min.code 2 (some .int), Cond.methodLink RJ7 150 arraycopyName, Cond.native arraycopyName, Cond.static arraycopyName, Cond.initialized "java/lang/System", Cond.methodLink RJ5 83 ⟨"java/lang/AbstractStringBuilder", "isLatin1", "()Z"⟩, Cond.sameMethod "java/lang/AbstractStringBuilder" "java/lang/AbstractStringBuilder" "isLatin1" "()Z", Cond.selects RJ4 ⟨"java/lang/AbstractStringBuilder", "isLatin1", "()Z"⟩ yJ5_isLatin1_aae02, Cond.instanceMethod yJ5_isLatin1_aae02, Cond.code yJ5_isLatin1_aae02 cJ5_isLatin1_aae02 1 (some .boolean), Cond.fieldLink RJ5 18 "java/lang/String" "COMPACT_STRINGS" "Z", Cond.methodLink RJ5 248 yJ6_getChars_ba4f3, Cond.static yJ6_getChars_ba4f3, Cond.code yJ6_getChars_ba4f3 cJ6_getChars_ba4f3 7 (some .int), Cond.fieldLink RJ6 83 "java/lang/Integer" "DigitOnes" "[B", Cond.fieldLink RJ6 87 "java/lang/Integer" "DigitTens" "[B", Cond.methodLink RJ5 251 yJ2_getChars_46870, Cond.static yJ2_getChars_46870, Cond.code yJ2_getChars_46870 cJ2_getChars_46870 5 (some .int), Cond.methodLink RJ2 96 yJ2_checkBoundsBeginEnd_d044e, Cond.static yJ2_checkBoundsBeginEnd_d044e]
def wsX5_tellStatement_r7 : List Cond := [Cond.code yJ2_checkBoundsBeginEnd_d044e cJ2_checkBoundsBeginEnd_d044e 3 none, Cond.methodLink RJ2 241 yJ0_checkBoundsBeginEnd_23922, Cond.static yJ0_checkBoundsBeginEnd_23922, Cond.code yJ0_checkBoundsBeginEnd_23922 cJ0_checkBoundsBeginEnd_23922 3 none, Cond.methodLink RJ0 1062 yJ3_checkFromToIndex_8c36e, Cond.static yJ3_checkFromToIndex_8c36e, Cond.code yJ3_checkFromToIndex_8c36e cJ3_checkFromToIndex_8c36e 4 (some .int), Cond.methodLink RJ2 393 yJ2_getChars_ba4f3, Cond.static yJ2_getChars_ba4f3, Cond.code yJ2_getChars_ba4f3 cJ2_getChars_ba4f3 7 (some .int), Cond.fieldLink RJ2 403 "java/lang/Integer" "DigitOnes" "[B", Cond.fieldLink RJ2 407 "java/lang/Integer" "DigitTens" "[B", Cond.methodLink RJ2 111 yJ2_putChar_b72d1, Cond.static yJ2_putChar_b72d1, Cond.code yJ2_putChar_b72d1 cJ2_putChar_b72d1 3 none, Cond.methodLink RX5 169 yJ4_append_cf468, Cond.instanceMethod yJ4_append_cf468, Cond.selects RJ4 yJ4_append_cf468 yJ4_append_cf468, Cond.code yJ4_append_cf468 cJ4_append_cf468 2 (some (.object "java/lang/StringBuilder")), Cond.methodLink RJ4 50 yJ5_append_3fe6f, Cond.sameMethod "java/lang/AbstractStringBuilder" "java/lang/AbstractStringBuilder" "append" "(C)Ljava/lang/AbstractStringBuilder;", Cond.instanceMethod yJ5_append_3fe6f, Cond.code yJ5_append_3fe6f cJ5_append_3fe6f 2 (some (.object "java/lang/AbstractStringBuilder")), Cond.methodLink RJ5 191 yJ1_canEncode_fc78d]
def wsX5_tellStatement_r8 : List Cond := [Cond.static yJ1_canEncode_fc78d, Cond.code yJ1_canEncode_fc78d cJ1_canEncode_fc78d 1 (some .boolean), Cond.methodLink RJ5 195 ⟨"java/lang/AbstractStringBuilder", "inflate", "()V"⟩, Cond.sameMethod "java/lang/AbstractStringBuilder" "java/lang/AbstractStringBuilder" "inflate" "()V", Cond.selects RJ4 ⟨"java/lang/AbstractStringBuilder", "inflate", "()V"⟩ yJ5_inflate_da8c8, Cond.instanceMethod yJ5_inflate_da8c8, Cond.code yJ5_inflate_da8c8 cJ5_inflate_da8c8 2 none, Cond.methodLink RJ5 26 yJ2_newBytesFor_77867, Cond.static yJ2_newBytesFor_77867, Cond.code yJ2_newBytesFor_77867 cJ2_newBytesFor_77867 1 (some (.array .byte)), Cond.methodLink RJ2 11 yJ2_newBytesLength_0f7a4, Cond.static yJ2_newBytesLength_0f7a4, Cond.code yJ2_newBytesLength_0f7a4 cJ2_newBytesLength_0f7a4 1 (some .int), Cond.constant RJ2 20 (1073741823), Cond.methodLink RJ5 125 yJ1_inflate_0e8fd, Cond.static yJ1_inflate_0e8fd, Cond.code yJ1_inflate_0e8fd cJ1_inflate_0e8fd 5 none, Cond.methodLink RJ1 240 yJ2_inflate_0e8fd, Cond.static yJ2_inflate_0e8fd, Cond.code yJ2_inflate_0e8fd cJ2_inflate_0e8fd 6 none, Cond.methodLink RJ2 173 yJ2_checkBoundsOffCount_d044e, Cond.static yJ2_checkBoundsOffCount_d044e, Cond.code yJ2_checkBoundsOffCount_d044e cJ2_checkBoundsOffCount_d044e 3 none, Cond.methodLink RJ2 419 yJ0_checkBoundsOffCount_cabcc]
def wsX5_tellStatement_r9 : List Cond := [Cond.static yJ0_checkBoundsOffCount_cabcc, Cond.code yJ0_checkBoundsOffCount_cabcc cJ0_checkBoundsOffCount_cabcc 3 (some .int), Cond.methodLink RJ0 1065 yJ3_checkFromIndexSize_8c36e, Cond.static yJ3_checkFromIndexSize_8c36e, Cond.code yJ3_checkFromIndexSize_8c36e cJ3_checkFromIndexSize_8c36e 4 (some .int), Cond.methodLink RJ5 197 yJ2_putCharSB_b72d1, Cond.static yJ2_putCharSB_b72d1, Cond.code yJ2_putCharSB_b72d1 cJ2_putCharSB_b72d1 3 none]
def wsX5_tellStatement : List Cond := .code yX5_tellStatement cX5_tellStatement 5 none :: ((wsX5_tellStatement_r1 ++ (wsX5_tellStatement_r2 ++ (wsX5_tellStatement_r3 ++ (wsX5_tellStatement_r4 ++ (wsX5_tellStatement_r5 ++ (wsX5_tellStatement_r6 ++ (wsX5_tellStatement_r7 ++ (wsX5_tellStatement_r8 ++ wsX5_tellStatement_r9)))))))) ++ wsX50 ++ wsX40 ++ wsJ40)
def wsX5_tellPremises_r1 : List Cond := [Cond.fieldLink RX5 24 "ProofChecker" "laid" "LProofChecker$Rows;", Cond.fieldLink RX5 41 "ProofChecker" "told" "Ljava/lang/StringBuilder;", Cond.methodLink RX5 108 yX2_premiseCount, Cond.instanceMethod yX2_premiseCount, Cond.selects RX2 yX2_premiseCount yX2_premiseCount, Cond.initialized RX2, Cond.code yX2_premiseCount cX2_premiseCount 2 (some .int), Cond.fieldLink RX2 18 "ProofChecker$Rows" "premiseCounts" "[I", Cond.methodLink RX2 28 yX2_has, Cond.instanceMethod yX2_has, Cond.selects RX2 yX2_has yX2_has, Cond.code yX2_has cX2_has 2 (some .boolean), Cond.fieldLink RX2 24 "ProofChecker$Rows" "last" "I", Cond.methodLink RX5 154 yJ4_append_15ec4, Cond.instanceMethod yJ4_append_15ec4, Cond.selects RJ4 yJ4_append_15ec4 yJ4_append_15ec4, Cond.initialized RJ4, Cond.code yJ4_append_15ec4 cJ4_append_15ec4 2 (some (.object "java/lang/StringBuilder")), Cond.methodLink RJ4 29 yJ5_append_cf1ce, Cond.sameMethod "java/lang/AbstractStringBuilder" "java/lang/AbstractStringBuilder" "append" "(Ljava/lang/String;)Ljava/lang/AbstractStringBuilder;", Cond.superclass RJ4 RJ5, Cond.instanceMethod yJ5_append_cf1ce, Cond.initialized RJ5, Cond.code yJ5_append_cf1ce cJ5_append_cf1ce 3 (some (.object "java/lang/AbstractStringBuilder"))]
def wsX5_tellPremises_r2 : List Cond := [Cond.fieldLink RJ5 79 "java/lang/AbstractStringBuilder" "count" "I", Cond.methodLink RJ5 204 ⟨"java/lang/AbstractStringBuilder", "appendNull", "()Ljava/lang/AbstractStringBuilder;"⟩, Cond.sameMethod "java/lang/AbstractStringBuilder" "java/lang/AbstractStringBuilder" "appendNull" "()Ljava/lang/AbstractStringBuilder;", Cond.selects RJ4 ⟨"java/lang/AbstractStringBuilder", "appendNull", "()Ljava/lang/AbstractStringBuilder;"⟩ yJ5_appendNull_278bc, Cond.instanceMethod yJ5_appendNull_278bc, Cond.code yJ5_appendNull_278bc cJ5_appendNull_278bc 3 (some (.object "java/lang/AbstractStringBuilder")), Cond.fieldLink RJ5 15 "java/lang/AbstractStringBuilder" "value" "[B", Cond.methodLink RJ5 100 ⟨"java/lang/AbstractStringBuilder", "ensureCapacityInternal", "(I)V"⟩, Cond.sameMethod "java/lang/AbstractStringBuilder" "java/lang/AbstractStringBuilder" "ensureCapacityInternal" "(I)V", Cond.selects RJ4 ⟨"java/lang/AbstractStringBuilder", "ensureCapacityInternal", "(I)V"⟩ yJ5_ensureCapacityInternal_d00df, Cond.instanceMethod yJ5_ensureCapacityInternal_d00df, Cond.code yJ5_ensureCapacityInternal_d00df cJ5_ensureCapacityInternal_d00df 3 none, Cond.fieldLink RJ5 22 "java/lang/AbstractStringBuilder" "coder" "B", Cond.methodLink RJ5 104 ⟨"java/lang/AbstractStringBuilder", "newCapacity", "(I)I"⟩, Cond.sameMethod "java/lang/AbstractStringBuilder" "java/lang/AbstractStringBuilder" "newCapacity" "(I)I", Cond.selects RJ4 ⟨"java/lang/AbstractStringBuilder", "newCapacity", "(I)I"⟩ yJ5_newCapacity_0f7a4, Cond.instanceMethod yJ5_newCapacity_0f7a4, Cond.code yJ5_newCapacity_0f7a4 cJ5_newCapacity_0f7a4 6 (some .int), Cond.constant RJ5 39 (2147483647), Cond.methodLink RJ5 114 yJ8_newLength_cabcc, Cond.static yJ8_newLength_cabcc, Cond.initialized RJ8, Cond.code yJ8_newLength_cabcc cJ8_newLength_cabcc 4 (some .int), Cond.methodLink RJ8 194 Lib.Math.max.name]
def wsX5_tellPremises_r3 : List Cond := [Cond.static Lib.Math.max.name, Cond.initialized "java/lang/Math", Cond.code Lib.Math.max.name Lib.Math.max.code 2 (some .int), Cond.constant RJ8 200 (2147483639), Cond.methodLink RJ8 201 yJ8_hugeLength_7cf53, Cond.static yJ8_hugeLength_7cf53, Cond.code yJ8_hugeLength_7cf53 cJ8_hugeLength_7cf53 3 (some .int), Cond.methodLink RJ5 108 yJ7_copyOf_9075b, Cond.static yJ7_copyOf_9075b, Cond.initialized RJ7, Cond.code yJ7_copyOf_9075b cJ7_copyOf_9075b 3 (some (.array .byte)), Cond.methodLink RJ7 310 ⟨"[B", "clone", "()Ljava/lang/Object;"⟩, Cond.sameMethod "[B" "java/lang/Object" "clone" "()Ljava/lang/Object;", Cond.native ⟨"java/lang/Object", "clone", "()Ljava/lang/Object;"⟩, Cond.instanceMethod ⟨"java/lang/Object", "clone", "()Ljava/lang/Object;"⟩, Cond.selects "[B" ⟨"[B", "clone", "()Ljava/lang/Object;"⟩ ⟨"java/lang/Object", "clone", "()Ljava/lang/Object;"⟩, Cond.classLink RJ7 311 "[B", Cond.arrayClass .byte, Cond.methodLink RJ7 304 Lib.Math.min.name, Cond.static Lib.Math.min.name, Cond.code Lib.Math.min.name Lib.Math.min.code 2 (some .int), Cond.methodLink RJ7 150 arraycopyName, Cond.native arraycopyName, Cond.static arraycopyName]
def wsX5_tellPremises_r4 : List Cond := [Cond.initialized "java/lang/System", Cond.methodLink RJ5 83 ⟨"java/lang/AbstractStringBuilder", "isLatin1", "()Z"⟩, Cond.sameMethod "java/lang/AbstractStringBuilder" "java/lang/AbstractStringBuilder" "isLatin1" "()Z", Cond.selects RJ4 ⟨"java/lang/AbstractStringBuilder", "isLatin1", "()Z"⟩ yJ5_isLatin1_aae02, Cond.instanceMethod yJ5_isLatin1_aae02, Cond.code yJ5_isLatin1_aae02 cJ5_isLatin1_aae02 1 (some .boolean), Cond.fieldLink RJ5 18 "java/lang/String" "COMPACT_STRINGS" "Z", Cond.methodLink RJ5 226 yJ2_putCharsAt_cd4e5, Cond.static yJ2_putCharsAt_cd4e5, Cond.initialized RJ2, Cond.code yJ2_putCharsAt_cd4e5 cJ2_putCharsAt_cd4e5 7 (some .int), Cond.fieldLink RJ2 44 "java/lang/StringUTF16" "$assertionsDisabled" "Z", Cond.methodLink RJ2 96 yJ2_checkBoundsBeginEnd_d044e, Cond.static yJ2_checkBoundsBeginEnd_d044e, Cond.code yJ2_checkBoundsBeginEnd_d044e cJ2_checkBoundsBeginEnd_d044e 3 none, Cond.methodLink RJ2 48 yJ2_length_9d52b, Cond.static yJ2_length_9d52b, Cond.code yJ2_length_9d52b cJ2_length_9d52b 1 (some .int), Cond.methodLink RJ2 241 yJ0_checkBoundsBeginEnd_23922, Cond.static yJ0_checkBoundsBeginEnd_23922, Cond.initialized RJ0, Cond.code yJ0_checkBoundsBeginEnd_23922 cJ0_checkBoundsBeginEnd_23922 3 none, Cond.fieldLink RJ0 1053 "jdk/internal/util/Preconditions" "SIOOBE_FORMATTER" "Ljava/util/function/BiFunction;", Cond.methodLink RJ0 1062 yJ3_checkFromToIndex_8c36e]
def wsX5_tellPremises_r5 : List Cond := [Cond.static yJ3_checkFromToIndex_8c36e, Cond.initialized RJ3, Cond.code yJ3_checkFromToIndex_8c36e cJ3_checkFromToIndex_8c36e 4 (some .int), Cond.methodLink RJ2 111 yJ2_putChar_b72d1, Cond.static yJ2_putChar_b72d1, Cond.code yJ2_putChar_b72d1 cJ2_putChar_b72d1 3 none, Cond.fieldLink RJ2 59 "java/lang/StringUTF16" "HI_BYTE_SHIFT" "I", Cond.fieldLink RJ2 63 "java/lang/StringUTF16" "LO_BYTE_SHIFT" "I", Cond.methodLink RJ5 32 yJ0_length_8abf5, Cond.instanceMethod yJ0_length_8abf5, Cond.selects RJ0 yJ0_length_8abf5 yJ0_length_8abf5, Cond.code yJ0_length_8abf5 cJ0_length_8abf5 1 (some .int), Cond.fieldLink RJ0 9 "java/lang/String" "value" "[B", Cond.methodLink RJ0 335 yJ0_coder_7d493, Cond.instanceMethod yJ0_coder_7d493, Cond.selects RJ0 yJ0_coder_7d493 yJ0_coder_7d493, Cond.code yJ0_coder_7d493 cJ0_coder_7d493 1 (some .byte), Cond.fieldLink RJ0 38 "java/lang/String" "COMPACT_STRINGS" "Z", Cond.fieldLink RJ0 15 "java/lang/String" "coder" "B", Cond.methodLink RJ5 208 ⟨"java/lang/AbstractStringBuilder", "putStringAt", "(ILjava/lang/String;)V"⟩, Cond.sameMethod "java/lang/AbstractStringBuilder" "java/lang/AbstractStringBuilder" "putStringAt" "(ILjava/lang/String;)V", Cond.selects RJ4 ⟨"java/lang/AbstractStringBuilder", "putStringAt", "(ILjava/lang/String;)V"⟩ yJ5_putStringAt_47b60, Cond.instanceMethod yJ5_putStringAt_47b60, Cond.code yJ5_putStringAt_47b60 cJ5_putStringAt_47b60 3 none]
def wsX5_tellPremises_r6 : List Cond := [Cond.methodLink RJ5 397 ⟨"java/lang/AbstractStringBuilder", "inflateIfNeededFor", "(Ljava/lang/String;)V"⟩, Cond.sameMethod "java/lang/AbstractStringBuilder" "java/lang/AbstractStringBuilder" "inflateIfNeededFor" "(Ljava/lang/String;)V", Cond.selects RJ4 ⟨"java/lang/AbstractStringBuilder", "inflateIfNeededFor", "(Ljava/lang/String;)V"⟩ yJ5_inflateIfNeededFor_a7421, Cond.instanceMethod yJ5_inflateIfNeededFor_a7421, Cond.code yJ5_inflateIfNeededFor_a7421 cJ5_inflateIfNeededFor_a7421 2 none, Cond.methodLink RJ5 40 yJ0_coder_7d493, Cond.methodLink RJ5 195 ⟨"java/lang/AbstractStringBuilder", "inflate", "()V"⟩, Cond.sameMethod "java/lang/AbstractStringBuilder" "java/lang/AbstractStringBuilder" "inflate" "()V", Cond.selects RJ4 ⟨"java/lang/AbstractStringBuilder", "inflate", "()V"⟩ yJ5_inflate_da8c8, Cond.instanceMethod yJ5_inflate_da8c8, Cond.code yJ5_inflate_da8c8 cJ5_inflate_da8c8 2 none, Cond.methodLink RJ5 26 yJ2_newBytesFor_77867, Cond.static yJ2_newBytesFor_77867, Cond.code yJ2_newBytesFor_77867 cJ2_newBytesFor_77867 1 (some (.array .byte)), Cond.methodLink RJ2 11 yJ2_newBytesLength_0f7a4, Cond.static yJ2_newBytesLength_0f7a4, Cond.code yJ2_newBytesLength_0f7a4 cJ2_newBytesLength_0f7a4 1 (some .int), Cond.constant RJ2 20 (1073741823), Cond.methodLink RJ5 125 yJ1_inflate_0e8fd, Cond.static yJ1_inflate_0e8fd, Cond.initialized RJ1, Cond.code yJ1_inflate_0e8fd cJ1_inflate_0e8fd 5 none, Cond.methodLink RJ1 240 yJ2_inflate_0e8fd, Cond.static yJ2_inflate_0e8fd]
def wsX5_tellPremises_r7 : List Cond := [Cond.code yJ2_inflate_0e8fd cJ2_inflate_0e8fd 6 none, Cond.methodLink RJ2 173 yJ2_checkBoundsOffCount_d044e, Cond.static yJ2_checkBoundsOffCount_d044e, Cond.code yJ2_checkBoundsOffCount_d044e cJ2_checkBoundsOffCount_d044e 3 none, Cond.methodLink RJ2 419 yJ0_checkBoundsOffCount_cabcc, Cond.static yJ0_checkBoundsOffCount_cabcc, Cond.code yJ0_checkBoundsOffCount_cabcc cJ0_checkBoundsOffCount_cabcc 3 (some .int), Cond.methodLink RJ0 1065 yJ3_checkFromIndexSize_8c36e, Cond.static yJ3_checkFromIndexSize_8c36e, Cond.code yJ3_checkFromIndexSize_8c36e cJ3_checkFromIndexSize_8c36e 4 (some .int), Cond.methodLink RJ5 399 yJ0_getBytes_840e7, Cond.instanceMethod yJ0_getBytes_840e7, Cond.selects RJ0 yJ0_getBytes_840e7 yJ0_getBytes_840e7, Cond.code yJ0_getBytes_840e7 cJ0_getBytes_840e7 4 none, Cond.methodLink RJ0 212 arraycopyName, Cond.methodLink RJ0 106 yJ1_inflate_0e8fd, Cond.methodLink RX5 214 yX2_premiseAt, Cond.instanceMethod yX2_premiseAt, Cond.selects RX2 yX2_premiseAt yX2_premiseAt, Cond.code yX2_premiseAt cX2_premiseAt 4 (some .int), Cond.fieldLink RX2 21 "ProofChecker$Rows" "premises" "[I", Cond.methodLink RX2 32 yX2_premiseCount, Cond.methodLink RX5 148 yJ4_append_bf812, Cond.instanceMethod yJ4_append_bf812]
def wsX5_tellPremises_r8 : List Cond := [Cond.selects RJ4 yJ4_append_bf812 yJ4_append_bf812, Cond.code yJ4_append_bf812 cJ4_append_bf812 2 (some (.object "java/lang/StringBuilder")), Cond.methodLink RJ4 53 yJ5_append_c97b9, Cond.sameMethod "java/lang/AbstractStringBuilder" "java/lang/AbstractStringBuilder" "append" "(I)Ljava/lang/AbstractStringBuilder;", Cond.instanceMethod yJ5_append_c97b9, Cond.code yJ5_append_c97b9 cJ5_append_c97b9 4 (some (.object "java/lang/AbstractStringBuilder")), Cond.methodLink RJ5 245 yJ6_stringSize_0f7a4, Cond.static yJ6_stringSize_0f7a4, Cond.initialized RJ6, Cond.code yJ6_stringSize_0f7a4 cJ6_stringSize_0f7a4 4 (some .int), Cond.methodLink RJ5 248 yJ6_getChars_ba4f3, Cond.static yJ6_getChars_ba4f3, Cond.code yJ6_getChars_ba4f3 cJ6_getChars_ba4f3 7 (some .int), Cond.fieldLink RJ6 83 "java/lang/Integer" "DigitOnes" "[B", Cond.fieldLink RJ6 87 "java/lang/Integer" "DigitTens" "[B", Cond.methodLink RJ5 251 yJ2_getChars_46870, Cond.static yJ2_getChars_46870, Cond.code yJ2_getChars_46870 cJ2_getChars_46870 5 (some .int), Cond.methodLink RJ2 393 yJ2_getChars_ba4f3, Cond.static yJ2_getChars_ba4f3, Cond.code yJ2_getChars_ba4f3 cJ2_getChars_ba4f3 7 (some .int), Cond.fieldLink RJ2 403 "java/lang/Integer" "DigitOnes" "[B", Cond.fieldLink RJ2 407 "java/lang/Integer" "DigitTens" "[B"]
def wsX5_tellPremises : List Cond := .code yX5_tellPremises cX5_tellPremises 3 none :: ((wsX5_tellPremises_r1 ++ (wsX5_tellPremises_r2 ++ (wsX5_tellPremises_r3 ++ (wsX5_tellPremises_r4 ++ (wsX5_tellPremises_r5 ++ (wsX5_tellPremises_r6 ++ (wsX5_tellPremises_r7 ++ wsX5_tellPremises_r8))))))) ++ wsX50 ++ wsX20 ++ wsJ40)
def wsJ5_length_8abf5 : List Cond := .code yJ5_length_8abf5 cJ5_length_8abf5 1 (some .int) :: ([.fieldLink RJ5 79 "java/lang/AbstractStringBuilder" "count" "I"] ++ wsJ40)
def wsJ4_length_8abf5 : List Cond := .code yJ4_length_8abf5 cJ4_length_8abf5 1 (some .int) :: ([.methodLink RJ4 343 yJ5_length_8abf5, .sameMethod "java/lang/AbstractStringBuilder" "java/lang/AbstractStringBuilder" "length" "()I", .superclass RJ4 RJ5, .instanceMethod yJ5_length_8abf5, .initialized RJ5, .code yJ5_length_8abf5 cJ5_length_8abf5 1 (some .int), .fieldLink RJ5 79 "java/lang/AbstractStringBuilder" "count" "I"] ++ wsJ40)
def wsX5_sentence_r1 : List Cond := [Cond.fieldLink RX5 41 "ProofChecker" "told" "Ljava/lang/StringBuilder;", Cond.methodLink RX5 105 yX5_ruleOf, Cond.instanceMethod yX5_ruleOf, Cond.selects RX5 yX5_ruleOf yX5_ruleOf, Cond.initialized RX5, Cond.code yX5_ruleOf cX5_ruleOf 2 (some (.object "ProofChecker$Rule")), Cond.fieldLink RX5 24 "ProofChecker" "laid" "LProofChecker$Rows;", Cond.methodLink RX5 85 yX2_has, Cond.instanceMethod yX2_has, Cond.selects RX2 yX2_has yX2_has, Cond.initialized RX2, Cond.code yX2_has cX2_has 2 (some .boolean), Cond.fieldLink RX2 24 "ProofChecker$Rows" "last" "I", Cond.methodLink RX5 136 yX2_ruleNumber, Cond.instanceMethod yX2_ruleNumber, Cond.selects RX2 yX2_ruleNumber yX2_ruleNumber, Cond.code yX2_ruleNumber cX2_ruleNumber 2 (some .int), Cond.fieldLink RX2 9 "ProofChecker$Rows" "ruleNumbers" "[I", Cond.methodLink RX2 28 yX2_has, Cond.methodLink RX5 77 yX5_ruleNumbered, Cond.static yX5_ruleNumbered, Cond.code yX5_ruleNumbered cX5_ruleNumbered 1 (some (.object "ProofChecker$Rule")), Cond.fieldLink RX5 183 "ProofChecker" "RULES" "[LProofChecker$Rule;", Cond.methodLink RX5 145 yJ4_setLength_d00df]
def wsX5_sentence_r2 : List Cond := [Cond.instanceMethod yJ4_setLength_d00df, Cond.selects RJ4 yJ4_setLength_d00df yJ4_setLength_d00df, Cond.initialized RJ4, Cond.code yJ4_setLength_d00df cJ4_setLength_d00df 2 none, Cond.methodLink RJ4 333 yJ5_setLength_d00df, Cond.sameMethod "java/lang/AbstractStringBuilder" "java/lang/AbstractStringBuilder" "setLength" "(I)V", Cond.superclass RJ4 RJ5, Cond.instanceMethod yJ5_setLength_d00df, Cond.initialized RJ5, Cond.code yJ5_setLength_d00df cJ5_setLength_d00df 2 none, Cond.fieldLink RJ5 79 "java/lang/AbstractStringBuilder" "count" "I", Cond.fieldLink RJ5 15 "java/lang/AbstractStringBuilder" "value" "[B", Cond.fieldLink RJ5 73 "java/lang/AbstractStringBuilder" "maybeLatin1" "Z", Cond.methodLink RJ5 100 ⟨"java/lang/AbstractStringBuilder", "ensureCapacityInternal", "(I)V"⟩, Cond.sameMethod "java/lang/AbstractStringBuilder" "java/lang/AbstractStringBuilder" "ensureCapacityInternal" "(I)V", Cond.selects RJ4 ⟨"java/lang/AbstractStringBuilder", "ensureCapacityInternal", "(I)V"⟩ yJ5_ensureCapacityInternal_d00df, Cond.instanceMethod yJ5_ensureCapacityInternal_d00df, Cond.code yJ5_ensureCapacityInternal_d00df cJ5_ensureCapacityInternal_d00df 3 none, Cond.fieldLink RJ5 22 "java/lang/AbstractStringBuilder" "coder" "B", Cond.methodLink RJ5 104 ⟨"java/lang/AbstractStringBuilder", "newCapacity", "(I)I"⟩, Cond.sameMethod "java/lang/AbstractStringBuilder" "java/lang/AbstractStringBuilder" "newCapacity" "(I)I", Cond.selects RJ4 ⟨"java/lang/AbstractStringBuilder", "newCapacity", "(I)I"⟩ yJ5_newCapacity_0f7a4, Cond.instanceMethod yJ5_newCapacity_0f7a4, Cond.code yJ5_newCapacity_0f7a4 cJ5_newCapacity_0f7a4 6 (some .int)]
def wsX5_sentence_r3 : List Cond := [Cond.constant RJ5 39 (2147483647), Cond.methodLink RJ5 114 yJ8_newLength_cabcc, Cond.static yJ8_newLength_cabcc, Cond.initialized RJ8, Cond.code yJ8_newLength_cabcc cJ8_newLength_cabcc 4 (some .int), Cond.methodLink RJ8 194 Lib.Math.max.name, Cond.static Lib.Math.max.name, Cond.initialized "java/lang/Math", Cond.code Lib.Math.max.name Lib.Math.max.code 2 (some .int), Cond.constant RJ8 200 (2147483639), Cond.methodLink RJ8 201 yJ8_hugeLength_7cf53, Cond.static yJ8_hugeLength_7cf53, Cond.code yJ8_hugeLength_7cf53 cJ8_hugeLength_7cf53 3 (some .int), Cond.methodLink RJ5 108 yJ7_copyOf_9075b, Cond.static yJ7_copyOf_9075b, Cond.initialized RJ7, Cond.code yJ7_copyOf_9075b cJ7_copyOf_9075b 3 (some (.array .byte)), Cond.methodLink RJ7 310 ⟨"[B", "clone", "()Ljava/lang/Object;"⟩, Cond.sameMethod "[B" "java/lang/Object" "clone" "()Ljava/lang/Object;", Cond.native ⟨"java/lang/Object", "clone", "()Ljava/lang/Object;"⟩, Cond.instanceMethod ⟨"java/lang/Object", "clone", "()Ljava/lang/Object;"⟩, Cond.selects "[B" ⟨"[B", "clone", "()Ljava/lang/Object;"⟩ ⟨"java/lang/Object", "clone", "()Ljava/lang/Object;"⟩, Cond.classLink RJ7 311 "[B", Cond.arrayClass .byte]
def wsX5_sentence_r4 : List Cond := [Cond.methodLink RJ7 304 Lib.Math.min.name, Cond.static Lib.Math.min.name, Cond.code Lib.Math.min.name Lib.Math.min.code 2 (some .int), Cond.methodLink RJ7 150 arraycopyName, Cond.native arraycopyName, Cond.static arraycopyName, Cond.initialized "java/lang/System", Cond.methodLink RJ5 83 ⟨"java/lang/AbstractStringBuilder", "isLatin1", "()Z"⟩, Cond.sameMethod "java/lang/AbstractStringBuilder" "java/lang/AbstractStringBuilder" "isLatin1" "()Z", Cond.selects RJ4 ⟨"java/lang/AbstractStringBuilder", "isLatin1", "()Z"⟩ yJ5_isLatin1_aae02, Cond.instanceMethod yJ5_isLatin1_aae02, Cond.code yJ5_isLatin1_aae02 cJ5_isLatin1_aae02 1 (some .boolean), Cond.fieldLink RJ5 18 "java/lang/String" "COMPACT_STRINGS" "Z", Cond.methodLink RJ5 133 yJ1_fillNull_b72d1, Cond.static yJ1_fillNull_b72d1, Cond.initialized RJ1, Cond.code yJ1_fillNull_b72d1 cJ1_fillNull_b72d1 3 none, Cond.methodLink RJ1 236 yJ7_fill_eb02e, Cond.static yJ7_fill_eb02e, Cond.code yJ7_fill_eb02e cJ7_fill_eb02e 5 none, Cond.methodLink RJ7 13 yJ7_rangeCheck_23922, Cond.static yJ7_rangeCheck_23922, Cond.code yJ7_rangeCheck_23922 cJ7_rangeCheck_23922 3 none, Cond.methodLink RJ5 137 yJ2_fillNull_b72d1]
def wsX5_sentence_r5 : List Cond := [Cond.static yJ2_fillNull_b72d1, Cond.initialized RJ2, Cond.code yJ2_fillNull_b72d1 cJ2_fillNull_b72d1 3 none, Cond.methodLink RJ2 380 yJ7_fill_eb02e, Cond.methodLink RX5 148 yJ4_append_bf812, Cond.instanceMethod yJ4_append_bf812, Cond.selects RJ4 yJ4_append_bf812 yJ4_append_bf812, Cond.code yJ4_append_bf812 cJ4_append_bf812 2 (some (.object "java/lang/StringBuilder")), Cond.methodLink RJ4 53 yJ5_append_c97b9, Cond.sameMethod "java/lang/AbstractStringBuilder" "java/lang/AbstractStringBuilder" "append" "(I)Ljava/lang/AbstractStringBuilder;", Cond.instanceMethod yJ5_append_c97b9, Cond.code yJ5_append_c97b9 cJ5_append_c97b9 4 (some (.object "java/lang/AbstractStringBuilder")), Cond.methodLink RJ5 245 yJ6_stringSize_0f7a4, Cond.static yJ6_stringSize_0f7a4, Cond.initialized RJ6, Cond.code yJ6_stringSize_0f7a4 cJ6_stringSize_0f7a4 4 (some .int), Cond.methodLink RJ5 248 yJ6_getChars_ba4f3, Cond.static yJ6_getChars_ba4f3, Cond.code yJ6_getChars_ba4f3 cJ6_getChars_ba4f3 7 (some .int), Cond.fieldLink RJ6 83 "java/lang/Integer" "DigitOnes" "[B", Cond.fieldLink RJ6 87 "java/lang/Integer" "DigitTens" "[B", Cond.methodLink RJ5 251 yJ2_getChars_46870, Cond.static yJ2_getChars_46870, Cond.code yJ2_getChars_46870 cJ2_getChars_46870 5 (some .int)]
def wsX5_sentence_r6 : List Cond := [Cond.fieldLink RJ2 44 "java/lang/StringUTF16" "$assertionsDisabled" "Z", Cond.methodLink RJ2 96 yJ2_checkBoundsBeginEnd_d044e, Cond.static yJ2_checkBoundsBeginEnd_d044e, Cond.code yJ2_checkBoundsBeginEnd_d044e cJ2_checkBoundsBeginEnd_d044e 3 none, Cond.methodLink RJ2 48 yJ2_length_9d52b, Cond.static yJ2_length_9d52b, Cond.code yJ2_length_9d52b cJ2_length_9d52b 1 (some .int), Cond.methodLink RJ2 241 yJ0_checkBoundsBeginEnd_23922, Cond.static yJ0_checkBoundsBeginEnd_23922, Cond.initialized RJ0, Cond.code yJ0_checkBoundsBeginEnd_23922 cJ0_checkBoundsBeginEnd_23922 3 none, Cond.fieldLink RJ0 1053 "jdk/internal/util/Preconditions" "SIOOBE_FORMATTER" "Ljava/util/function/BiFunction;", Cond.methodLink RJ0 1062 yJ3_checkFromToIndex_8c36e, Cond.static yJ3_checkFromToIndex_8c36e, Cond.initialized RJ3, Cond.code yJ3_checkFromToIndex_8c36e cJ3_checkFromToIndex_8c36e 4 (some .int), Cond.methodLink RJ2 393 yJ2_getChars_ba4f3, Cond.static yJ2_getChars_ba4f3, Cond.code yJ2_getChars_ba4f3 cJ2_getChars_ba4f3 7 (some .int), Cond.fieldLink RJ2 403 "java/lang/Integer" "DigitOnes" "[B", Cond.fieldLink RJ2 407 "java/lang/Integer" "DigitTens" "[B", Cond.methodLink RJ2 111 yJ2_putChar_b72d1, Cond.static yJ2_putChar_b72d1, Cond.code yJ2_putChar_b72d1 cJ2_putChar_b72d1 3 none]
def wsX5_sentence_r7 : List Cond := [Cond.fieldLink RJ2 59 "java/lang/StringUTF16" "HI_BYTE_SHIFT" "I", Cond.fieldLink RJ2 63 "java/lang/StringUTF16" "LO_BYTE_SHIFT" "I", Cond.methodLink RX5 154 yJ4_append_15ec4, Cond.instanceMethod yJ4_append_15ec4, Cond.selects RJ4 yJ4_append_15ec4 yJ4_append_15ec4, Cond.code yJ4_append_15ec4 cJ4_append_15ec4 2 (some (.object "java/lang/StringBuilder")), Cond.methodLink RJ4 29 yJ5_append_cf1ce, Cond.sameMethod "java/lang/AbstractStringBuilder" "java/lang/AbstractStringBuilder" "append" "(Ljava/lang/String;)Ljava/lang/AbstractStringBuilder;", Cond.instanceMethod yJ5_append_cf1ce, Cond.code yJ5_append_cf1ce cJ5_append_cf1ce 3 (some (.object "java/lang/AbstractStringBuilder")), Cond.methodLink RJ5 204 ⟨"java/lang/AbstractStringBuilder", "appendNull", "()Ljava/lang/AbstractStringBuilder;"⟩, Cond.sameMethod "java/lang/AbstractStringBuilder" "java/lang/AbstractStringBuilder" "appendNull" "()Ljava/lang/AbstractStringBuilder;", Cond.selects RJ4 ⟨"java/lang/AbstractStringBuilder", "appendNull", "()Ljava/lang/AbstractStringBuilder;"⟩ yJ5_appendNull_278bc, Cond.instanceMethod yJ5_appendNull_278bc, Cond.code yJ5_appendNull_278bc cJ5_appendNull_278bc 3 (some (.object "java/lang/AbstractStringBuilder")), Cond.methodLink RJ5 226 yJ2_putCharsAt_cd4e5, Cond.static yJ2_putCharsAt_cd4e5, Cond.code yJ2_putCharsAt_cd4e5 cJ2_putCharsAt_cd4e5 7 (some .int), Cond.methodLink RJ5 32 yJ0_length_8abf5, Cond.instanceMethod yJ0_length_8abf5, Cond.selects RJ0 yJ0_length_8abf5 yJ0_length_8abf5, Cond.code yJ0_length_8abf5 cJ0_length_8abf5 1 (some .int), Cond.fieldLink RJ0 9 "java/lang/String" "value" "[B", Cond.methodLink RJ0 335 yJ0_coder_7d493]
def wsX5_sentence_r8 : List Cond := [Cond.instanceMethod yJ0_coder_7d493, Cond.selects RJ0 yJ0_coder_7d493 yJ0_coder_7d493, Cond.code yJ0_coder_7d493 cJ0_coder_7d493 1 (some .byte), Cond.fieldLink RJ0 38 "java/lang/String" "COMPACT_STRINGS" "Z", Cond.fieldLink RJ0 15 "java/lang/String" "coder" "B", Cond.methodLink RJ5 208 ⟨"java/lang/AbstractStringBuilder", "putStringAt", "(ILjava/lang/String;)V"⟩, Cond.sameMethod "java/lang/AbstractStringBuilder" "java/lang/AbstractStringBuilder" "putStringAt" "(ILjava/lang/String;)V", Cond.selects RJ4 ⟨"java/lang/AbstractStringBuilder", "putStringAt", "(ILjava/lang/String;)V"⟩ yJ5_putStringAt_47b60, Cond.instanceMethod yJ5_putStringAt_47b60, Cond.code yJ5_putStringAt_47b60 cJ5_putStringAt_47b60 3 none, Cond.methodLink RJ5 397 ⟨"java/lang/AbstractStringBuilder", "inflateIfNeededFor", "(Ljava/lang/String;)V"⟩, Cond.sameMethod "java/lang/AbstractStringBuilder" "java/lang/AbstractStringBuilder" "inflateIfNeededFor" "(Ljava/lang/String;)V", Cond.selects RJ4 ⟨"java/lang/AbstractStringBuilder", "inflateIfNeededFor", "(Ljava/lang/String;)V"⟩ yJ5_inflateIfNeededFor_a7421, Cond.instanceMethod yJ5_inflateIfNeededFor_a7421, Cond.code yJ5_inflateIfNeededFor_a7421 cJ5_inflateIfNeededFor_a7421 2 none, Cond.methodLink RJ5 40 yJ0_coder_7d493, Cond.methodLink RJ5 195 ⟨"java/lang/AbstractStringBuilder", "inflate", "()V"⟩, Cond.sameMethod "java/lang/AbstractStringBuilder" "java/lang/AbstractStringBuilder" "inflate" "()V", Cond.selects RJ4 ⟨"java/lang/AbstractStringBuilder", "inflate", "()V"⟩ yJ5_inflate_da8c8, Cond.instanceMethod yJ5_inflate_da8c8, Cond.code yJ5_inflate_da8c8 cJ5_inflate_da8c8 2 none, Cond.methodLink RJ5 26 yJ2_newBytesFor_77867, Cond.static yJ2_newBytesFor_77867, Cond.code yJ2_newBytesFor_77867 cJ2_newBytesFor_77867 1 (some (.array .byte))]
def wsX5_sentence_r9 : List Cond := [Cond.methodLink RJ2 11 yJ2_newBytesLength_0f7a4, Cond.static yJ2_newBytesLength_0f7a4, Cond.code yJ2_newBytesLength_0f7a4 cJ2_newBytesLength_0f7a4 1 (some .int), Cond.constant RJ2 20 (1073741823), Cond.methodLink RJ5 125 yJ1_inflate_0e8fd, Cond.static yJ1_inflate_0e8fd, Cond.code yJ1_inflate_0e8fd cJ1_inflate_0e8fd 5 none, Cond.methodLink RJ1 240 yJ2_inflate_0e8fd, Cond.static yJ2_inflate_0e8fd, Cond.code yJ2_inflate_0e8fd cJ2_inflate_0e8fd 6 none, Cond.methodLink RJ2 173 yJ2_checkBoundsOffCount_d044e, Cond.static yJ2_checkBoundsOffCount_d044e, Cond.code yJ2_checkBoundsOffCount_d044e cJ2_checkBoundsOffCount_d044e 3 none, Cond.methodLink RJ2 419 yJ0_checkBoundsOffCount_cabcc, Cond.static yJ0_checkBoundsOffCount_cabcc, Cond.code yJ0_checkBoundsOffCount_cabcc cJ0_checkBoundsOffCount_cabcc 3 (some .int), Cond.methodLink RJ0 1065 yJ3_checkFromIndexSize_8c36e, Cond.static yJ3_checkFromIndexSize_8c36e, Cond.code yJ3_checkFromIndexSize_8c36e cJ3_checkFromIndexSize_8c36e 4 (some .int), Cond.methodLink RJ5 399 yJ0_getBytes_840e7, Cond.instanceMethod yJ0_getBytes_840e7, Cond.selects RJ0 yJ0_getBytes_840e7 yJ0_getBytes_840e7, Cond.code yJ0_getBytes_840e7 cJ0_getBytes_840e7 4 none, Cond.methodLink RJ0 212 arraycopyName]
def wsX5_sentence_r10 : List Cond := [Cond.methodLink RJ0 106 yJ1_inflate_0e8fd, Cond.methodLink RX5 157 yX5_tellStatement, Cond.instanceMethod yX5_tellStatement, Cond.selects RX5 yX5_tellStatement yX5_tellStatement, Cond.code yX5_tellStatement cX5_tellStatement 5 none, Cond.fieldLink RX5 28 "ProofChecker" "stated" "LProofChecker$Statements;", Cond.methodLink RX5 260 yX5_wordingFor, Cond.instanceMethod yX5_wordingFor, Cond.selects RX5 yX5_wordingFor yX5_wordingFor, Cond.code yX5_wordingFor cX5_wordingFor 3 (some (.object "java/lang/String")), Cond.fieldLink RX5 57 "ProofChecker" "KINDS" "[LProofChecker$Kind;", Cond.fieldLink RX5 271 "ProofChecker$Kind" "NOTHING" "LProofChecker$Kind;", Cond.methodLink RX5 139 yX4_kind, Cond.instanceMethod yX4_kind, Cond.selects RX4 yX4_kind yX4_kind, Cond.initialized RX4, Cond.code yX4_kind cX4_kind 2 (some .int), Cond.fieldLink RX4 15 "ProofChecker$Statements" "kinds" "[I", Cond.methodLink RX5 142 yX4_number, Cond.instanceMethod yX4_number, Cond.selects RX4 yX4_number yX4_number, Cond.code yX4_number cX4_number 4 (some .int), Cond.fieldLink RX4 21 "ProofChecker$Statements" "numbers" "[I", Cond.methodLink RX5 248 yJ0_length_8abf5]
def wsX5_sentence_r11 : List Cond := [Cond.methodLink RX5 251 yJ0_charAt_5068e, Cond.instanceMethod yJ0_charAt_5068e, Cond.selects RJ0 yJ0_charAt_5068e yJ0_charAt_5068e, Cond.code yJ0_charAt_5068e cJ0_charAt_5068e 2 (some .char), Cond.methodLink RJ0 492 yJ0_isLatin1_aae02, Cond.instanceMethod yJ0_isLatin1_aae02, Cond.selects RJ0 yJ0_isLatin1_aae02 yJ0_isLatin1_aae02, Cond.code yJ0_isLatin1_aae02 cJ0_isLatin1_aae02 1 (some .boolean), Cond.methodLink RJ0 495 yJ1_charAt_3b067, Cond.static yJ1_charAt_3b067, Cond.code yJ1_charAt_3b067 cJ1_charAt_3b067 2 (some .char), Cond.methodLink RJ1 9 yJ0_checkIndex_df160, Cond.static yJ0_checkIndex_df160, Cond.code yJ0_checkIndex_df160 cJ0_checkIndex_df160 2 none, Cond.methodLink RJ0 1059 yJ3_checkIndex_8e157, Cond.static yJ3_checkIndex_8e157, Cond.code yJ3_checkIndex_8e157 cJ3_checkIndex_8e157 3 (some .int), Cond.methodLink RJ0 498 yJ2_charAt_3b067, Cond.static yJ2_charAt_3b067, Cond.code yJ2_charAt_3b067 cJ2_charAt_3b067 2 (some .char), Cond.methodLink RJ2 67 yJ2_checkIndex_2214a, Cond.static yJ2_checkIndex_2214a, Cond.code yJ2_checkIndex_2214a cJ2_checkIndex_2214a 2 none, Cond.methodLink RJ2 414 yJ0_checkIndex_df160]
def wsX5_sentence_r12 : List Cond := [Cond.methodLink RJ2 71 yJ2_getChar_3b067, Cond.static yJ2_getChar_3b067, Cond.code yJ2_getChar_3b067 cJ2_getChar_3b067 2 (some .char), Cond.methodLink RX5 169 yJ4_append_cf468, Cond.instanceMethod yJ4_append_cf468, Cond.selects RJ4 yJ4_append_cf468 yJ4_append_cf468, Cond.code yJ4_append_cf468 cJ4_append_cf468 2 (some (.object "java/lang/StringBuilder")), Cond.methodLink RJ4 50 yJ5_append_3fe6f, Cond.sameMethod "java/lang/AbstractStringBuilder" "java/lang/AbstractStringBuilder" "append" "(C)Ljava/lang/AbstractStringBuilder;", Cond.instanceMethod yJ5_append_3fe6f, Cond.code yJ5_append_3fe6f cJ5_append_3fe6f 2 (some (.object "java/lang/AbstractStringBuilder")), Cond.methodLink RJ5 191 yJ1_canEncode_fc78d, Cond.static yJ1_canEncode_fc78d, Cond.code yJ1_canEncode_fc78d cJ1_canEncode_fc78d 1 (some .boolean), Cond.methodLink RJ5 197 yJ2_putCharSB_b72d1, Cond.static yJ2_putCharSB_b72d1, Cond.code yJ2_putCharSB_b72d1 cJ2_putCharSB_b72d1 3 none, Cond.methodLink RX5 166 yX5_tellPremises, Cond.instanceMethod yX5_tellPremises, Cond.selects RX5 yX5_tellPremises yX5_tellPremises, Cond.code yX5_tellPremises cX5_tellPremises 3 none, Cond.methodLink RX5 108 yX2_premiseCount, Cond.instanceMethod yX2_premiseCount, Cond.selects RX2 yX2_premiseCount yX2_premiseCount]
def wsX5_sentence_r13 : List Cond := [Cond.code yX2_premiseCount cX2_premiseCount 2 (some .int), Cond.fieldLink RX2 18 "ProofChecker$Rows" "premiseCounts" "[I", Cond.methodLink RX5 214 yX2_premiseAt, Cond.instanceMethod yX2_premiseAt, Cond.selects RX2 yX2_premiseAt yX2_premiseAt, Cond.code yX2_premiseAt cX2_premiseAt 4 (some .int), Cond.fieldLink RX2 21 "ProofChecker$Rows" "premises" "[I", Cond.methodLink RX2 32 yX2_premiseCount, Cond.methodLink RX5 172 yJ4_length_8abf5, Cond.instanceMethod yJ4_length_8abf5, Cond.selects RJ4 yJ4_length_8abf5 yJ4_length_8abf5, Cond.code yJ4_length_8abf5 cJ4_length_8abf5 1 (some .int), Cond.methodLink RJ4 343 yJ5_length_8abf5, Cond.sameMethod "java/lang/AbstractStringBuilder" "java/lang/AbstractStringBuilder" "length" "()I", Cond.instanceMethod yJ5_length_8abf5, Cond.code yJ5_length_8abf5 cJ5_length_8abf5 1 (some .int)]
def wsX5_sentence : List Cond := .code yX5_sentence cX5_sentence 3 (some .int) :: ((wsX5_sentence_r1 ++ (wsX5_sentence_r2 ++ (wsX5_sentence_r3 ++ (wsX5_sentence_r4 ++ (wsX5_sentence_r5 ++ (wsX5_sentence_r6 ++ (wsX5_sentence_r7 ++ (wsX5_sentence_r8 ++ (wsX5_sentence_r9 ++ (wsX5_sentence_r10 ++ (wsX5_sentence_r11 ++ (wsX5_sentence_r12 ++ wsX5_sentence_r13)))))))))))) ++ wsX50 ++ wsX20 ++ wsJ40 ++ wsX40)
def wsJ5_charAt_5068e_r1 : List Cond := [Cond.fieldLink RJ5 22 "java/lang/AbstractStringBuilder" "coder" "B", Cond.fieldLink RJ5 15 "java/lang/AbstractStringBuilder" "value" "[B", Cond.fieldLink RJ5 79 "java/lang/AbstractStringBuilder" "count" "I", Cond.methodLink RJ5 138 Lib.Math.min.name, Cond.static Lib.Math.min.name, Cond.initialized "java/lang/Math", Cond.code Lib.Math.min.name Lib.Math.min.code 2 (some .int), Cond.methodLink RJ5 144 yJ0_checkIndex_df160, Cond.static yJ0_checkIndex_df160, Cond.initialized RJ0, Cond.code yJ0_checkIndex_df160 cJ0_checkIndex_df160 2 none, Cond.fieldLink RJ0 1053 "jdk/internal/util/Preconditions" "SIOOBE_FORMATTER" "Ljava/util/function/BiFunction;", Cond.methodLink RJ0 1059 yJ3_checkIndex_8e157, Cond.static yJ3_checkIndex_8e157, Cond.initialized RJ3, Cond.code yJ3_checkIndex_8e157 cJ3_checkIndex_8e157 3 (some .int), Cond.methodLink RJ5 148 yJ2_getChar_3b067, Cond.static yJ2_getChar_3b067, Cond.initialized RJ2, Cond.code yJ2_getChar_3b067 cJ2_getChar_3b067 2 (some .char), Cond.fieldLink RJ2 44 "java/lang/StringUTF16" "$assertionsDisabled" "Z", Cond.fieldLink RJ2 59 "java/lang/StringUTF16" "HI_BYTE_SHIFT" "I", Cond.fieldLink RJ2 63 "java/lang/StringUTF16" "LO_BYTE_SHIFT" "I", Cond.methodLink RJ2 48 yJ2_length_9d52b]
def wsJ5_charAt_5068e_r2 : List Cond := [Cond.static yJ2_length_9d52b, Cond.code yJ2_length_9d52b cJ2_length_9d52b 1 (some .int)]
def wsJ5_charAt_5068e : List Cond := .code yJ5_charAt_5068e cJ5_charAt_5068e 5 (some .char) :: ((wsJ5_charAt_5068e_r1 ++ wsJ5_charAt_5068e_r2) ++ wsJ40)
def wsJ4_charAt_5068e_r1 : List Cond := [Cond.methodLink RJ4 329 yJ5_charAt_5068e, Cond.sameMethod "java/lang/AbstractStringBuilder" "java/lang/AbstractStringBuilder" "charAt" "(I)C", Cond.superclass RJ4 RJ5, Cond.instanceMethod yJ5_charAt_5068e, Cond.initialized RJ5, Cond.code yJ5_charAt_5068e cJ5_charAt_5068e 5 (some .char), Cond.fieldLink RJ5 22 "java/lang/AbstractStringBuilder" "coder" "B", Cond.fieldLink RJ5 15 "java/lang/AbstractStringBuilder" "value" "[B", Cond.fieldLink RJ5 79 "java/lang/AbstractStringBuilder" "count" "I", Cond.methodLink RJ5 138 Lib.Math.min.name, Cond.static Lib.Math.min.name, Cond.initialized "java/lang/Math", Cond.code Lib.Math.min.name Lib.Math.min.code 2 (some .int), Cond.methodLink RJ5 144 yJ0_checkIndex_df160, Cond.static yJ0_checkIndex_df160, Cond.initialized RJ0, Cond.code yJ0_checkIndex_df160 cJ0_checkIndex_df160 2 none, Cond.fieldLink RJ0 1053 "jdk/internal/util/Preconditions" "SIOOBE_FORMATTER" "Ljava/util/function/BiFunction;", Cond.methodLink RJ0 1059 yJ3_checkIndex_8e157, Cond.static yJ3_checkIndex_8e157, Cond.initialized RJ3, Cond.code yJ3_checkIndex_8e157 cJ3_checkIndex_8e157 3 (some .int), Cond.methodLink RJ5 148 yJ2_getChar_3b067, Cond.static yJ2_getChar_3b067]
def wsJ4_charAt_5068e_r2 : List Cond := [Cond.initialized RJ2, Cond.code yJ2_getChar_3b067 cJ2_getChar_3b067 2 (some .char), Cond.fieldLink RJ2 44 "java/lang/StringUTF16" "$assertionsDisabled" "Z", Cond.fieldLink RJ2 59 "java/lang/StringUTF16" "HI_BYTE_SHIFT" "I", Cond.fieldLink RJ2 63 "java/lang/StringUTF16" "LO_BYTE_SHIFT" "I", Cond.methodLink RJ2 48 yJ2_length_9d52b, Cond.static yJ2_length_9d52b, Cond.code yJ2_length_9d52b cJ2_length_9d52b 1 (some .int)]
def wsJ4_charAt_5068e : List Cond := .code yJ4_charAt_5068e cJ4_charAt_5068e 2 (some .char) :: ((wsJ4_charAt_5068e_r1 ++ wsJ4_charAt_5068e_r2) ++ wsJ40)
def wsX5_at_r1 : List Cond := [Cond.fieldLink RX5 41 "ProofChecker" "told" "Ljava/lang/StringBuilder;", Cond.methodLink RX5 172 yJ4_length_8abf5, Cond.instanceMethod yJ4_length_8abf5, Cond.selects RJ4 yJ4_length_8abf5 yJ4_length_8abf5, Cond.initialized RJ4, Cond.code yJ4_length_8abf5 cJ4_length_8abf5 1 (some .int), Cond.methodLink RJ4 343 yJ5_length_8abf5, Cond.sameMethod "java/lang/AbstractStringBuilder" "java/lang/AbstractStringBuilder" "length" "()I", Cond.superclass RJ4 RJ5, Cond.instanceMethod yJ5_length_8abf5, Cond.initialized RJ5, Cond.code yJ5_length_8abf5 cJ5_length_8abf5 1 (some .int), Cond.fieldLink RJ5 79 "java/lang/AbstractStringBuilder" "count" "I", Cond.methodLink RX5 175 yJ4_charAt_5068e, Cond.instanceMethod yJ4_charAt_5068e, Cond.selects RJ4 yJ4_charAt_5068e yJ4_charAt_5068e, Cond.code yJ4_charAt_5068e cJ4_charAt_5068e 2 (some .char), Cond.methodLink RJ4 329 yJ5_charAt_5068e, Cond.sameMethod "java/lang/AbstractStringBuilder" "java/lang/AbstractStringBuilder" "charAt" "(I)C", Cond.instanceMethod yJ5_charAt_5068e, Cond.code yJ5_charAt_5068e cJ5_charAt_5068e 5 (some .char), Cond.fieldLink RJ5 22 "java/lang/AbstractStringBuilder" "coder" "B", Cond.fieldLink RJ5 15 "java/lang/AbstractStringBuilder" "value" "[B", Cond.methodLink RJ5 138 Lib.Math.min.name]
def wsX5_at_r2 : List Cond := [Cond.static Lib.Math.min.name, Cond.initialized "java/lang/Math", Cond.code Lib.Math.min.name Lib.Math.min.code 2 (some .int), Cond.methodLink RJ5 144 yJ0_checkIndex_df160, Cond.static yJ0_checkIndex_df160, Cond.initialized RJ0, Cond.code yJ0_checkIndex_df160 cJ0_checkIndex_df160 2 none, Cond.fieldLink RJ0 1053 "jdk/internal/util/Preconditions" "SIOOBE_FORMATTER" "Ljava/util/function/BiFunction;", Cond.methodLink RJ0 1059 yJ3_checkIndex_8e157, Cond.static yJ3_checkIndex_8e157, Cond.initialized RJ3, Cond.code yJ3_checkIndex_8e157 cJ3_checkIndex_8e157 3 (some .int), Cond.methodLink RJ5 148 yJ2_getChar_3b067, Cond.static yJ2_getChar_3b067, Cond.initialized RJ2, Cond.code yJ2_getChar_3b067 cJ2_getChar_3b067 2 (some .char), Cond.fieldLink RJ2 44 "java/lang/StringUTF16" "$assertionsDisabled" "Z", Cond.fieldLink RJ2 59 "java/lang/StringUTF16" "HI_BYTE_SHIFT" "I", Cond.fieldLink RJ2 63 "java/lang/StringUTF16" "LO_BYTE_SHIFT" "I", Cond.methodLink RJ2 48 yJ2_length_9d52b, Cond.static yJ2_length_9d52b, Cond.code yJ2_length_9d52b cJ2_length_9d52b 1 (some .int)]
def wsX5_at : List Cond := .code yX5_at cX5_at 2 (some .int) :: ((wsX5_at_r1 ++ wsX5_at_r2) ++ wsX50 ++ wsJ40)
def wsX5_concludes_r1 : List Cond := [Cond.fieldLink RX5 24 "ProofChecker" "laid" "LProofChecker$Rows;", Cond.fieldLink RX5 18 "ProofChecker" "triples" "LProofChecker$Statements;", Cond.fieldLink RX5 28 "ProofChecker" "stated" "LProofChecker$Statements;", Cond.methodLink RX5 85 yX2_has, Cond.instanceMethod yX2_has, Cond.selects RX2 yX2_has yX2_has, Cond.initialized RX2, Cond.code yX2_has cX2_has 2 (some .boolean), Cond.fieldLink RX2 24 "ProofChecker$Rows" "last" "I", Cond.methodLink RX5 121 yX4_has, Cond.instanceMethod yX4_has, Cond.selects RX4 yX4_has yX4_has, Cond.initialized RX4, Cond.code yX4_has cX4_has 2 (some .boolean), Cond.methodLink RX4 28 yX4_kind, Cond.instanceMethod yX4_kind, Cond.selects RX4 yX4_kind yX4_kind, Cond.code yX4_kind cX4_kind 2 (some .int), Cond.fieldLink RX4 15 "ProofChecker$Statements" "kinds" "[I", Cond.methodLink RX5 179 yX4_isSame, Cond.instanceMethod yX4_isSame, Cond.selects RX4 yX4_isSame yX4_isSame, Cond.code yX4_isSame cX4_isSame 4 (some .boolean), Cond.methodLink RX4 40 yX4_number]
def wsX5_concludes_r2 : List Cond := [Cond.instanceMethod yX4_number, Cond.selects RX4 yX4_number yX4_number, Cond.code yX4_number cX4_number 4 (some .int), Cond.fieldLink RX4 21 "ProofChecker$Statements" "numbers" "[I", Cond.methodLink RX4 36 yX4_is, Cond.instanceMethod yX4_is, Cond.selects RX4 yX4_is yX4_is, Cond.code yX4_is cX4_is 6 (some .boolean)]
def wsX5_concludes : List Cond := .code yX5_concludes cX5_concludes 3 (some .boolean) :: ((wsX5_concludes_r1 ++ wsX5_concludes_r2) ++ wsX50 ++ wsX20 ++ wsX40)
def wsX6_init_r1 : List Cond := [Cond.methodLink RX6 1 objectInit, Cond.instanceMethod objectInit, Cond.code objectInit ⟨#[0xb1]⟩ 1 none, Cond.arrayClass .long, Cond.constantLong RX6 7 (418632003437), Cond.constantLong RX6 9 (444150998382), Cond.constantLong RX6 11 (115948873149542), Cond.constantLong RX6 13 (422608400247), Cond.constantLong RX6 15 (8102661208121963625), Cond.constantLong RX6 17 (25971), Cond.constantLong RX6 19 (427020088179), Cond.constantLong RX6 21 (8102661208121963641), Cond.constantLong RX6 23 (108187666181747), Cond.constantLong RX6 25 (465557349491), Cond.constantLong RX6 27 (111503598970226), Cond.constantLong RX6 29 (32765938003961704), Cond.constantLong RX6 31 (478694368626), Cond.constantLong RX6 33 (1937203568), Cond.constantLong RX6 35 (435695214956), Cond.constantLong RX6 37 (7302757), Cond.constantLong RX6 39 (418497262196), Cond.constantLong RX6 41 (7237492), Cond.constantLong RX6 43 (7020682409992089191), Cond.constantLong RX6 45 (31084793196801639)]
def wsX6_init_r2 : List Cond := [Cond.constantLong RX6 47 (7165066978583995497), Cond.constantLong RX6 49 (427154829166), Cond.constantLong RX6 51 (109317142573856), Cond.constantLong RX6 53 (512852325408), Cond.constantLong RX6 55 (2335524464695274607), Cond.constantLong RX6 57 (8583970206910739232), Cond.constantLong RX6 59 (30496), Cond.constantLong RX6 61 (2333539051756221216), Cond.constantLong RX6 63 (7022273356252603244), Cond.constantLong RX6 65 (1634956064), Cond.constantLong RX6 67 (2336353775669944436), Cond.constantLong RX6 69 (8007516080650284129), Cond.constantLong RX6 71 (7566112), Cond.constantLong RX6 73 (2333267458273799265), Cond.constantLong RX6 75 (2334957413328778344), Cond.constantLong RX6 77 (491496236904), Cond.constantLong RX6 79 (2334957413328774505), Cond.constantLong RX6 81 (8388065846822920569), Cond.constantLong RX6 83 (543781664), Cond.constantLong RX6 85 (477285543525), Cond.constantLong RX6 87 (2335524464897258528), Cond.constantLong RX6 89 (2335524464712507763), Cond.constantLong RX6 91 (29472), Cond.constantLong RX6 93 (32)]
def wsX6_init_r3 : List Cond := [Cond.constantLong RX6 95 (2335223567922261615), Cond.constantLong RX6 97 (8388070228875045230), Cond.constantLong RX6 99 (9116529483149166), Cond.constantLong RX6 101 (2338608890057290856), Cond.constantLong RX6 103 (111540845371769), Cond.constantLong RX6 105 (11808), Cond.constantLong RX6 107 (189521885472), Cond.constantLong RX6 109 (35624378658080), Cond.constantLong RX6 111 (139073578016), Cond.constantLong RX6 113 (46), Cond.fieldLink RX6 115 "ProofCheckerModel" "phrases" "[J", Cond.arrayClass .int, Cond.fieldLink RX6 121 "ProofCheckerModel" "axioms" "[I", Cond.fieldLink RX6 125 "ProofCheckerModel" "triples" "[I", Cond.fieldLink RX6 128 "ProofCheckerModel" "rules" "[I", Cond.fieldLink RX6 131 "ProofCheckerModel" "instances" "[I", Cond.fieldLink RX6 134 "ProofCheckerModel" "counts" "[I", Cond.fieldLink RX6 137 "ProofCheckerModel" "premises" "[I", Cond.fieldLink RX6 140 "ProofCheckerModel" "stated" "[I", Cond.arrayClass .boolean, Cond.fieldLink RX6 143 "ProofCheckerModel" "marks" "[Z", Cond.fieldLink RX6 147 "ProofCheckerModel" "text" "[I", Cond.fieldLink RX6 150 "ProofCheckerModel" "sizes" "[I", Cond.fieldLink RX6 153 "ProofCheckerModel" "places" "[I"]
def wsX6_init : List Cond := .code yX6_init cX6_init 1 none :: ((wsX6_init_r1 ++ (wsX6_init_r2 ++ wsX6_init_r3)) ++ wsX60)
def wsX6_isTerm : List Cond := .code yX6_isTerm cX6_isTerm 1 (some .boolean) :: ([])
def wsX6_axiom : List Cond := .code yX6_axiom cX6_axiom 5 (some .int) :: ([.fieldLink RX6 160 "ProofCheckerModel" "axiomCount" "I", .fieldLink RX6 121 "ProofCheckerModel" "axioms" "[I", .methodLink RX6 156 yX6_isTerm, .static yX6_isTerm, .initialized RX6, .code yX6_isTerm cX6_isTerm 1 (some .boolean)] ++ wsX60)
def wsX6_triple : List Cond := .code yX6_triple cX6_triple 5 (some .int) :: ([.fieldLink RX6 164 "ProofCheckerModel" "tripleCount" "I", .fieldLink RX6 125 "ProofCheckerModel" "triples" "[I", .methodLink RX6 156 yX6_isTerm, .static yX6_isTerm, .initialized RX6, .code yX6_isTerm cX6_isTerm 1 (some .boolean)] ++ wsX60)
def wsX6_takes : List Cond := .code yX6_takes cX6_takes 1 (some .int) :: ([])
def wsX6_isRow : List Cond := .code yX6_isRow cX6_isRow 2 (some .boolean) :: ([.fieldLink RX6 167 "ProofCheckerModel" "rows" "I"] ++ wsX60)
def wsX6_isInstance : List Cond := .code yX6_isInstance cX6_isInstance 3 (some .boolean) :: ([.fieldLink RX6 160 "ProofCheckerModel" "axiomCount" "I", .fieldLink RX6 164 "ProofCheckerModel" "tripleCount" "I", .methodLink RX6 156 yX6_isTerm, .static yX6_isTerm, .initialized RX6, .code yX6_isTerm cX6_isTerm 1 (some .boolean)] ++ wsX60)
def wsX6_lay : List Cond := .code yX6_lay cX6_lay 3 none :: ([.fieldLink RX6 137 "ProofCheckerModel" "premises" "[I", .fieldLink RX6 134 "ProofCheckerModel" "counts" "[I"] ++ wsX60)
def wsX6_row_r1 : List Cond := [Cond.fieldLink RX6 167 "ProofCheckerModel" "rows" "I", Cond.fieldLink RX6 128 "ProofCheckerModel" "rules" "[I", Cond.fieldLink RX6 131 "ProofCheckerModel" "instances" "[I", Cond.fieldLink RX6 134 "ProofCheckerModel" "counts" "[I", Cond.methodLink RX6 170 yX6_isInstance, Cond.instanceMethod yX6_isInstance, Cond.selects RX6 yX6_isInstance yX6_isInstance, Cond.initialized RX6, Cond.code yX6_isInstance cX6_isInstance 3 (some .boolean), Cond.fieldLink RX6 160 "ProofCheckerModel" "axiomCount" "I", Cond.fieldLink RX6 164 "ProofCheckerModel" "tripleCount" "I", Cond.methodLink RX6 156 yX6_isTerm, Cond.static yX6_isTerm, Cond.code yX6_isTerm cX6_isTerm 1 (some .boolean), Cond.methodLink RX6 174 yX6_isRow, Cond.instanceMethod yX6_isRow, Cond.selects RX6 yX6_isRow yX6_isRow, Cond.code yX6_isRow cX6_isRow 2 (some .boolean), Cond.methodLink RX6 177 yX6_takes, Cond.static yX6_takes, Cond.code yX6_takes cX6_takes 1 (some .int), Cond.methodLink RX6 181 yX6_lay, Cond.instanceMethod yX6_lay, Cond.selects RX6 yX6_lay yX6_lay]
def wsX6_row_r2 : List Cond := [Cond.code yX6_lay cX6_lay 3 none, Cond.fieldLink RX6 137 "ProofCheckerModel" "premises" "[I"]
def wsX6_row : List Cond := .code yX6_row cX6_row 4 (some .int) :: ((wsX6_row_r1 ++ wsX6_row_r2) ++ wsX60)
def wsX6_premise : List Cond := .code yX6_premise cX6_premise 3 (some .int) :: ([.fieldLink RX6 134 "ProofCheckerModel" "counts" "[I", .fieldLink RX6 128 "ProofCheckerModel" "rules" "[I", .methodLink RX6 174 yX6_isRow, .instanceMethod yX6_isRow, .selects RX6 yX6_isRow yX6_isRow, .initialized RX6, .code yX6_isRow cX6_isRow 2 (some .boolean), .fieldLink RX6 167 "ProofCheckerModel" "rows" "I", .methodLink RX6 177 yX6_takes, .static yX6_takes, .code yX6_takes cX6_takes 1 (some .int), .methodLink RX6 181 yX6_lay, .instanceMethod yX6_lay, .selects RX6 yX6_lay yX6_lay, .code yX6_lay cX6_lay 3 none, .fieldLink RX6 137 "ProofCheckerModel" "premises" "[I"] ++ wsX60)
def wsX6_kindOf : List Cond := .code yX6_kindOf cX6_kindOf 2 (some .int) :: ([.fieldLink RX6 140 "ProofCheckerModel" "stated" "[I"] ++ wsX60)
def wsX6_of : List Cond := .code yX6_of cX6_of 4 (some .int) :: ([.fieldLink RX6 140 "ProofCheckerModel" "stated" "[I", .fieldLink RX6 137 "ProofCheckerModel" "premises" "[I"] ++ wsX60)
def wsX6_is : List Cond := .code yX6_is cX6_is 4 (some .boolean) :: ([.methodLink RX6 185 yX6_of, .instanceMethod yX6_of, .selects RX6 yX6_of yX6_of, .initialized RX6, .code yX6_of cX6_of 4 (some .int), .fieldLink RX6 140 "ProofCheckerModel" "stated" "[I", .fieldLink RX6 137 "ProofCheckerModel" "premises" "[I"] ++ wsX60)
def wsX6_state : List Cond := .code yX6_state cX6_state 6 none :: ([.fieldLink RX6 140 "ProofCheckerModel" "stated" "[I"] ++ wsX60)
def wsX6_copy : List Cond := .code yX6_copy cX6_copy 4 none :: ([.methodLink RX6 189 yX6_state, .instanceMethod yX6_state, .selects RX6 yX6_state yX6_state, .initialized RX6, .code yX6_state cX6_state 6 none, .fieldLink RX6 140 "ProofCheckerModel" "stated" "[I"] ++ wsX60)
def wsX6_three : List Cond := .code yX6_three cX6_three 9 none :: ([.fieldLink RX6 128 "ProofCheckerModel" "rules" "[I", .methodLink RX6 185 yX6_of, .instanceMethod yX6_of, .selects RX6 yX6_of yX6_of, .initialized RX6, .code yX6_of cX6_of 4 (some .int), .fieldLink RX6 140 "ProofCheckerModel" "stated" "[I", .fieldLink RX6 137 "ProofCheckerModel" "premises" "[I", .methodLink RX6 204 yX6_is, .instanceMethod yX6_is, .selects RX6 yX6_is yX6_is, .code yX6_is cX6_is 4 (some .boolean), .methodLink RX6 189 yX6_state, .instanceMethod yX6_state, .selects RX6 yX6_state yX6_state, .code yX6_state cX6_state 6 none] ++ wsX60)
def wsX6_chain_r1 : List Cond := [Cond.fieldLink RX6 134 "ProofCheckerModel" "counts" "[I", Cond.fieldLink RX6 128 "ProofCheckerModel" "rules" "[I", Cond.fieldLink RX6 125 "ProofCheckerModel" "triples" "[I", Cond.fieldLink RX6 131 "ProofCheckerModel" "instances" "[I", Cond.methodLink RX6 204 yX6_is, Cond.instanceMethod yX6_is, Cond.selects RX6 yX6_is yX6_is, Cond.initialized RX6, Cond.code yX6_is cX6_is 4 (some .boolean), Cond.methodLink RX6 185 yX6_of, Cond.instanceMethod yX6_of, Cond.selects RX6 yX6_of yX6_of, Cond.code yX6_of cX6_of 4 (some .int), Cond.fieldLink RX6 140 "ProofCheckerModel" "stated" "[I", Cond.fieldLink RX6 137 "ProofCheckerModel" "premises" "[I", Cond.methodLink RX6 189 yX6_state, Cond.instanceMethod yX6_state, Cond.selects RX6 yX6_state yX6_state, Cond.code yX6_state cX6_state 6 none, Cond.methodLink RX6 197 yX6_copy, Cond.instanceMethod yX6_copy, Cond.selects RX6 yX6_copy yX6_copy, Cond.code yX6_copy cX6_copy 4 none, Cond.methodLink RX6 208 yX6_three]
def wsX6_chain_r2 : List Cond := [Cond.instanceMethod yX6_three, Cond.selects RX6 yX6_three yX6_three, Cond.code yX6_three cX6_three 9 none]
def wsX6_chain : List Cond := .code yX6_chain cX6_chain 9 none :: ((wsX6_chain_r1 ++ wsX6_chain_r2) ++ wsX60)
def wsX6_single_r1 : List Cond := [Cond.fieldLink RX6 131 "ProofCheckerModel" "instances" "[I", Cond.fieldLink RX6 128 "ProofCheckerModel" "rules" "[I", Cond.fieldLink RX6 121 "ProofCheckerModel" "axioms" "[I", Cond.fieldLink RX6 125 "ProofCheckerModel" "triples" "[I", Cond.methodLink RX6 197 yX6_copy, Cond.instanceMethod yX6_copy, Cond.selects RX6 yX6_copy yX6_copy, Cond.initialized RX6, Cond.code yX6_copy cX6_copy 4 none, Cond.methodLink RX6 189 yX6_state, Cond.instanceMethod yX6_state, Cond.selects RX6 yX6_state yX6_state, Cond.code yX6_state cX6_state 6 none, Cond.fieldLink RX6 140 "ProofCheckerModel" "stated" "[I", Cond.methodLink RX6 201 yX6_chain, Cond.instanceMethod yX6_chain, Cond.selects RX6 yX6_chain yX6_chain, Cond.code yX6_chain cX6_chain 9 none, Cond.fieldLink RX6 134 "ProofCheckerModel" "counts" "[I", Cond.methodLink RX6 204 yX6_is, Cond.instanceMethod yX6_is, Cond.selects RX6 yX6_is yX6_is, Cond.code yX6_is cX6_is 4 (some .boolean), Cond.methodLink RX6 185 yX6_of]
def wsX6_single_r2 : List Cond := [Cond.instanceMethod yX6_of, Cond.selects RX6 yX6_of yX6_of, Cond.code yX6_of cX6_of 4 (some .int), Cond.fieldLink RX6 137 "ProofCheckerModel" "premises" "[I", Cond.methodLink RX6 208 yX6_three, Cond.instanceMethod yX6_three, Cond.selects RX6 yX6_three yX6_three, Cond.code yX6_three cX6_three 9 none]
def wsX6_single : List Cond := .code yX6_single cX6_single 3 none :: ((wsX6_single_r1 ++ wsX6_single_r2) ++ wsX60)
def wsX6_work_r1 : List Cond := [Cond.fieldLink RX6 134 "ProofCheckerModel" "counts" "[I", Cond.fieldLink RX6 128 "ProofCheckerModel" "rules" "[I", Cond.methodLink RX6 189 yX6_state, Cond.instanceMethod yX6_state, Cond.selects RX6 yX6_state yX6_state, Cond.initialized RX6, Cond.code yX6_state cX6_state 6 none, Cond.fieldLink RX6 140 "ProofCheckerModel" "stated" "[I", Cond.methodLink RX6 177 yX6_takes, Cond.static yX6_takes, Cond.code yX6_takes cX6_takes 1 (some .int), Cond.methodLink RX6 185 yX6_of, Cond.instanceMethod yX6_of, Cond.selects RX6 yX6_of yX6_of, Cond.code yX6_of cX6_of 4 (some .int), Cond.fieldLink RX6 137 "ProofCheckerModel" "premises" "[I", Cond.methodLink RX6 193 yX6_single, Cond.instanceMethod yX6_single, Cond.selects RX6 yX6_single yX6_single, Cond.code yX6_single cX6_single 3 none, Cond.fieldLink RX6 131 "ProofCheckerModel" "instances" "[I", Cond.fieldLink RX6 121 "ProofCheckerModel" "axioms" "[I", Cond.fieldLink RX6 125 "ProofCheckerModel" "triples" "[I", Cond.methodLink RX6 197 yX6_copy]
def wsX6_work_r2 : List Cond := [Cond.instanceMethod yX6_copy, Cond.selects RX6 yX6_copy yX6_copy, Cond.code yX6_copy cX6_copy 4 none, Cond.methodLink RX6 201 yX6_chain, Cond.instanceMethod yX6_chain, Cond.selects RX6 yX6_chain yX6_chain, Cond.code yX6_chain cX6_chain 9 none, Cond.methodLink RX6 204 yX6_is, Cond.instanceMethod yX6_is, Cond.selects RX6 yX6_is yX6_is, Cond.code yX6_is cX6_is 4 (some .boolean), Cond.methodLink RX6 208 yX6_three, Cond.instanceMethod yX6_three, Cond.selects RX6 yX6_three yX6_three, Cond.code yX6_three cX6_three 9 none]
def wsX6_work : List Cond := .code yX6_work cX6_work 5 none :: ((wsX6_work_r1 ++ wsX6_work_r2) ++ wsX60)
def wsX6_mark : List Cond := .code yX6_mark cX6_mark 5 (some .int) :: ([.fieldLink RX6 167 "ProofCheckerModel" "rows" "I", .fieldLink RX6 143 "ProofCheckerModel" "marks" "[Z", .fieldLink RX6 134 "ProofCheckerModel" "counts" "[I", .fieldLink RX6 137 "ProofCheckerModel" "premises" "[I"] ++ wsX60)
def wsX6_check_r1 : List Cond := [Cond.fieldLink RX6 218 "ProofCheckerModel" "broken" "I", Cond.fieldLink RX6 143 "ProofCheckerModel" "marks" "[Z", Cond.fieldLink RX6 134 "ProofCheckerModel" "counts" "[I", Cond.methodLink RX6 174 yX6_isRow, Cond.instanceMethod yX6_isRow, Cond.selects RX6 yX6_isRow yX6_isRow, Cond.initialized RX6, Cond.code yX6_isRow cX6_isRow 2 (some .boolean), Cond.fieldLink RX6 167 "ProofCheckerModel" "rows" "I", Cond.methodLink RX6 212 yX6_mark, Cond.instanceMethod yX6_mark, Cond.selects RX6 yX6_mark yX6_mark, Cond.code yX6_mark cX6_mark 5 (some .int), Cond.fieldLink RX6 137 "ProofCheckerModel" "premises" "[I", Cond.methodLink RX6 215 yX6_work, Cond.instanceMethod yX6_work, Cond.selects RX6 yX6_work yX6_work, Cond.code yX6_work cX6_work 5 none, Cond.fieldLink RX6 128 "ProofCheckerModel" "rules" "[I", Cond.methodLink RX6 189 yX6_state, Cond.instanceMethod yX6_state, Cond.selects RX6 yX6_state yX6_state, Cond.code yX6_state cX6_state 6 none, Cond.fieldLink RX6 140 "ProofCheckerModel" "stated" "[I"]
def wsX6_check_r2 : List Cond := [Cond.methodLink RX6 177 yX6_takes, Cond.static yX6_takes, Cond.code yX6_takes cX6_takes 1 (some .int), Cond.methodLink RX6 185 yX6_of, Cond.instanceMethod yX6_of, Cond.selects RX6 yX6_of yX6_of, Cond.code yX6_of cX6_of 4 (some .int), Cond.methodLink RX6 193 yX6_single, Cond.instanceMethod yX6_single, Cond.selects RX6 yX6_single yX6_single, Cond.code yX6_single cX6_single 3 none, Cond.fieldLink RX6 131 "ProofCheckerModel" "instances" "[I", Cond.fieldLink RX6 121 "ProofCheckerModel" "axioms" "[I", Cond.fieldLink RX6 125 "ProofCheckerModel" "triples" "[I", Cond.methodLink RX6 197 yX6_copy, Cond.instanceMethod yX6_copy, Cond.selects RX6 yX6_copy yX6_copy, Cond.code yX6_copy cX6_copy 4 none, Cond.methodLink RX6 201 yX6_chain, Cond.instanceMethod yX6_chain, Cond.selects RX6 yX6_chain yX6_chain, Cond.code yX6_chain cX6_chain 9 none, Cond.methodLink RX6 204 yX6_is, Cond.instanceMethod yX6_is]
def wsX6_check_r3 : List Cond := [Cond.selects RX6 yX6_is yX6_is, Cond.code yX6_is cX6_is 4 (some .boolean), Cond.methodLink RX6 208 yX6_three, Cond.instanceMethod yX6_three, Cond.selects RX6 yX6_three yX6_three, Cond.code yX6_three cX6_three 9 none, Cond.methodLink RX6 221 yX6_kindOf, Cond.instanceMethod yX6_kindOf, Cond.selects RX6 yX6_kindOf yX6_kindOf, Cond.code yX6_kindOf cX6_kindOf 2 (some .int)]
def wsX6_check : List Cond := .code yX6_check cX6_check 5 (some .int) :: ((wsX6_check_r1 ++ (wsX6_check_r2 ++ wsX6_check_r3)) ++ wsX60)
def wsX6_broken : List Cond := .code yX6_broken cX6_broken 1 (some .int) :: ([.fieldLink RX6 218 "ProofCheckerModel" "broken" "I"] ++ wsX60)
def wsX6_rows : List Cond := .code yX6_rows cX6_rows 2 (some .int) :: ([.methodLink RX6 174 yX6_isRow, .instanceMethod yX6_isRow, .selects RX6 yX6_isRow yX6_isRow, .initialized RX6, .code yX6_isRow cX6_isRow 2 (some .boolean), .fieldLink RX6 167 "ProofCheckerModel" "rows" "I", .methodLink RX6 212 yX6_mark, .instanceMethod yX6_mark, .selects RX6 yX6_mark yX6_mark, .code yX6_mark cX6_mark 5 (some .int), .fieldLink RX6 143 "ProofCheckerModel" "marks" "[Z", .fieldLink RX6 134 "ProofCheckerModel" "counts" "[I", .fieldLink RX6 137 "ProofCheckerModel" "premises" "[I"] ++ wsX60)
def wsX6_size : List Cond := .code yX6_size cX6_size 6 (some .int) :: ([.fieldLink RX6 134 "ProofCheckerModel" "counts" "[I", .fieldLink RX6 150 "ProofCheckerModel" "sizes" "[I", .fieldLink RX6 137 "ProofCheckerModel" "premises" "[I", .constantLong RX6 224 (1000000000), .constant RX6 226 (1000000000), .methodLink RX6 174 yX6_isRow, .instanceMethod yX6_isRow, .selects RX6 yX6_isRow yX6_isRow, .initialized RX6, .code yX6_isRow cX6_isRow 2 (some .boolean), .fieldLink RX6 167 "ProofCheckerModel" "rows" "I"] ++ wsX60)
def wsX6_drop : List Cond := .code yX6_drop cX6_drop 6 (some .int) :: ([.fieldLink RX6 167 "ProofCheckerModel" "rows" "I", .fieldLink RX6 143 "ProofCheckerModel" "marks" "[Z", .fieldLink RX6 153 "ProofCheckerModel" "places" "[I", .fieldLink RX6 128 "ProofCheckerModel" "rules" "[I", .fieldLink RX6 131 "ProofCheckerModel" "instances" "[I", .fieldLink RX6 134 "ProofCheckerModel" "counts" "[I", .fieldLink RX6 137 "ProofCheckerModel" "premises" "[I", .fieldLink RX6 218 "ProofCheckerModel" "broken" "I", .methodLink RX6 174 yX6_isRow, .instanceMethod yX6_isRow, .selects RX6 yX6_isRow yX6_isRow, .initialized RX6, .code yX6_isRow cX6_isRow 2 (some .boolean), .methodLink RX6 212 yX6_mark, .instanceMethod yX6_mark, .selects RX6 yX6_mark yX6_mark, .code yX6_mark cX6_mark 5 (some .int)] ++ wsX60)
def wsX6_name : List Cond := .code yX6_name cX6_name 2 (some .int) :: ([.fieldLink RX6 128 "ProofCheckerModel" "rules" "[I", .methodLink RX6 174 yX6_isRow, .instanceMethod yX6_isRow, .selects RX6 yX6_isRow yX6_isRow, .initialized RX6, .code yX6_isRow cX6_isRow 2 (some .boolean), .fieldLink RX6 167 "ProofCheckerModel" "rows" "I"] ++ wsX60)
def wsX6_states_r1 : List Cond := [Cond.fieldLink RX6 140 "ProofCheckerModel" "stated" "[I", Cond.methodLink RX6 174 yX6_isRow, Cond.instanceMethod yX6_isRow, Cond.selects RX6 yX6_isRow yX6_isRow, Cond.initialized RX6, Cond.code yX6_isRow cX6_isRow 2 (some .boolean), Cond.fieldLink RX6 167 "ProofCheckerModel" "rows" "I", Cond.methodLink RX6 215 yX6_work, Cond.instanceMethod yX6_work, Cond.selects RX6 yX6_work yX6_work, Cond.code yX6_work cX6_work 5 none, Cond.fieldLink RX6 134 "ProofCheckerModel" "counts" "[I", Cond.fieldLink RX6 128 "ProofCheckerModel" "rules" "[I", Cond.methodLink RX6 189 yX6_state, Cond.instanceMethod yX6_state, Cond.selects RX6 yX6_state yX6_state, Cond.code yX6_state cX6_state 6 none, Cond.methodLink RX6 177 yX6_takes, Cond.static yX6_takes, Cond.code yX6_takes cX6_takes 1 (some .int), Cond.methodLink RX6 185 yX6_of, Cond.instanceMethod yX6_of, Cond.selects RX6 yX6_of yX6_of, Cond.code yX6_of cX6_of 4 (some .int)]
def wsX6_states_r2 : List Cond := [Cond.fieldLink RX6 137 "ProofCheckerModel" "premises" "[I", Cond.methodLink RX6 193 yX6_single, Cond.instanceMethod yX6_single, Cond.selects RX6 yX6_single yX6_single, Cond.code yX6_single cX6_single 3 none, Cond.fieldLink RX6 131 "ProofCheckerModel" "instances" "[I", Cond.fieldLink RX6 121 "ProofCheckerModel" "axioms" "[I", Cond.fieldLink RX6 125 "ProofCheckerModel" "triples" "[I", Cond.methodLink RX6 197 yX6_copy, Cond.instanceMethod yX6_copy, Cond.selects RX6 yX6_copy yX6_copy, Cond.code yX6_copy cX6_copy 4 none, Cond.methodLink RX6 201 yX6_chain, Cond.instanceMethod yX6_chain, Cond.selects RX6 yX6_chain yX6_chain, Cond.code yX6_chain cX6_chain 9 none, Cond.methodLink RX6 204 yX6_is, Cond.instanceMethod yX6_is, Cond.selects RX6 yX6_is yX6_is, Cond.code yX6_is cX6_is 4 (some .boolean), Cond.methodLink RX6 208 yX6_three, Cond.instanceMethod yX6_three, Cond.selects RX6 yX6_three yX6_three, Cond.code yX6_three cX6_three 9 none]
def wsX6_states : List Cond := .code yX6_states cX6_states 3 (some .int) :: ((wsX6_states_r1 ++ wsX6_states_r2) ++ wsX60)
def wsX6_concludes_r1 : List Cond := [Cond.fieldLink RX6 164 "ProofCheckerModel" "tripleCount" "I", Cond.fieldLink RX6 140 "ProofCheckerModel" "stated" "[I", Cond.fieldLink RX6 125 "ProofCheckerModel" "triples" "[I", Cond.methodLink RX6 174 yX6_isRow, Cond.instanceMethod yX6_isRow, Cond.selects RX6 yX6_isRow yX6_isRow, Cond.initialized RX6, Cond.code yX6_isRow cX6_isRow 2 (some .boolean), Cond.fieldLink RX6 167 "ProofCheckerModel" "rows" "I", Cond.methodLink RX6 215 yX6_work, Cond.instanceMethod yX6_work, Cond.selects RX6 yX6_work yX6_work, Cond.code yX6_work cX6_work 5 none, Cond.fieldLink RX6 134 "ProofCheckerModel" "counts" "[I", Cond.fieldLink RX6 128 "ProofCheckerModel" "rules" "[I", Cond.methodLink RX6 189 yX6_state, Cond.instanceMethod yX6_state, Cond.selects RX6 yX6_state yX6_state, Cond.code yX6_state cX6_state 6 none, Cond.methodLink RX6 177 yX6_takes, Cond.static yX6_takes, Cond.code yX6_takes cX6_takes 1 (some .int), Cond.methodLink RX6 185 yX6_of, Cond.instanceMethod yX6_of]
def wsX6_concludes_r2 : List Cond := [Cond.selects RX6 yX6_of yX6_of, Cond.code yX6_of cX6_of 4 (some .int), Cond.fieldLink RX6 137 "ProofCheckerModel" "premises" "[I", Cond.methodLink RX6 193 yX6_single, Cond.instanceMethod yX6_single, Cond.selects RX6 yX6_single yX6_single, Cond.code yX6_single cX6_single 3 none, Cond.fieldLink RX6 131 "ProofCheckerModel" "instances" "[I", Cond.fieldLink RX6 121 "ProofCheckerModel" "axioms" "[I", Cond.methodLink RX6 197 yX6_copy, Cond.instanceMethod yX6_copy, Cond.selects RX6 yX6_copy yX6_copy, Cond.code yX6_copy cX6_copy 4 none, Cond.methodLink RX6 201 yX6_chain, Cond.instanceMethod yX6_chain, Cond.selects RX6 yX6_chain yX6_chain, Cond.code yX6_chain cX6_chain 9 none, Cond.methodLink RX6 204 yX6_is, Cond.instanceMethod yX6_is, Cond.selects RX6 yX6_is yX6_is, Cond.code yX6_is cX6_is 4 (some .boolean), Cond.methodLink RX6 208 yX6_three, Cond.instanceMethod yX6_three, Cond.selects RX6 yX6_three yX6_three]
def wsX6_concludes_r3 : List Cond := [Cond.code yX6_three cX6_three 9 none]
def wsX6_concludes : List Cond := .code yX6_concludes cX6_concludes 5 (some .boolean) :: ((wsX6_concludes_r1 ++ (wsX6_concludes_r2 ++ wsX6_concludes_r3)) ++ wsX60)
def wsX6_put : List Cond := .code yX6_put cX6_put 5 none :: ([.fieldLink RX6 115 "ProofCheckerModel" "phrases" "[J", .constantLong RX6 227 (255), .fieldLink RX6 147 "ProofCheckerModel" "text" "[I", .fieldLink RX6 229 "ProofCheckerModel" "size" "I"] ++ wsX60)
def wsX6_number : List Cond := .code yX6_number cX6_number 4 none :: ([.fieldLink RX6 147 "ProofCheckerModel" "text" "[I", .fieldLink RX6 229 "ProofCheckerModel" "size" "I"] ++ wsX60)
def wsX6_wordOf : List Cond := .code yX6_wordOf cX6_wordOf 1 (some .int) :: ([])
def wsX6_statement : List Cond := .code yX6_statement cX6_statement 5 none :: ([.methodLink RX6 232 yX6_put, .instanceMethod yX6_put, .selects RX6 yX6_put yX6_put, .initialized RX6, .code yX6_put cX6_put 5 none, .fieldLink RX6 115 "ProofCheckerModel" "phrases" "[J", .constantLong RX6 227 (255), .fieldLink RX6 147 "ProofCheckerModel" "text" "[I", .fieldLink RX6 229 "ProofCheckerModel" "size" "I", .methodLink RX6 235 yX6_number, .instanceMethod yX6_number, .selects RX6 yX6_number yX6_number, .code yX6_number cX6_number 4 none] ++ wsX60)
def wsX6_sentence_r1 : List Cond := [Cond.fieldLink RX6 229 "ProofCheckerModel" "size" "I", Cond.fieldLink RX6 140 "ProofCheckerModel" "stated" "[I", Cond.fieldLink RX6 128 "ProofCheckerModel" "rules" "[I", Cond.fieldLink RX6 134 "ProofCheckerModel" "counts" "[I", Cond.fieldLink RX6 137 "ProofCheckerModel" "premises" "[I", Cond.methodLink RX6 174 yX6_isRow, Cond.instanceMethod yX6_isRow, Cond.selects RX6 yX6_isRow yX6_isRow, Cond.initialized RX6, Cond.code yX6_isRow cX6_isRow 2 (some .boolean), Cond.fieldLink RX6 167 "ProofCheckerModel" "rows" "I", Cond.methodLink RX6 215 yX6_work, Cond.instanceMethod yX6_work, Cond.selects RX6 yX6_work yX6_work, Cond.code yX6_work cX6_work 5 none, Cond.methodLink RX6 189 yX6_state, Cond.instanceMethod yX6_state, Cond.selects RX6 yX6_state yX6_state, Cond.code yX6_state cX6_state 6 none, Cond.methodLink RX6 177 yX6_takes, Cond.static yX6_takes, Cond.code yX6_takes cX6_takes 1 (some .int), Cond.methodLink RX6 185 yX6_of, Cond.instanceMethod yX6_of]
def wsX6_sentence_r2 : List Cond := [Cond.selects RX6 yX6_of yX6_of, Cond.code yX6_of cX6_of 4 (some .int), Cond.methodLink RX6 193 yX6_single, Cond.instanceMethod yX6_single, Cond.selects RX6 yX6_single yX6_single, Cond.code yX6_single cX6_single 3 none, Cond.fieldLink RX6 131 "ProofCheckerModel" "instances" "[I", Cond.fieldLink RX6 121 "ProofCheckerModel" "axioms" "[I", Cond.fieldLink RX6 125 "ProofCheckerModel" "triples" "[I", Cond.methodLink RX6 197 yX6_copy, Cond.instanceMethod yX6_copy, Cond.selects RX6 yX6_copy yX6_copy, Cond.code yX6_copy cX6_copy 4 none, Cond.methodLink RX6 201 yX6_chain, Cond.instanceMethod yX6_chain, Cond.selects RX6 yX6_chain yX6_chain, Cond.code yX6_chain cX6_chain 9 none, Cond.methodLink RX6 204 yX6_is, Cond.instanceMethod yX6_is, Cond.selects RX6 yX6_is yX6_is, Cond.code yX6_is cX6_is 4 (some .boolean), Cond.methodLink RX6 208 yX6_three, Cond.instanceMethod yX6_three, Cond.selects RX6 yX6_three yX6_three]
def wsX6_sentence_r3 : List Cond := [Cond.code yX6_three cX6_three 9 none, Cond.methodLink RX6 235 yX6_number, Cond.instanceMethod yX6_number, Cond.selects RX6 yX6_number yX6_number, Cond.code yX6_number cX6_number 4 none, Cond.fieldLink RX6 147 "ProofCheckerModel" "text" "[I", Cond.methodLink RX6 232 yX6_put, Cond.instanceMethod yX6_put, Cond.selects RX6 yX6_put yX6_put, Cond.code yX6_put cX6_put 5 none, Cond.fieldLink RX6 115 "ProofCheckerModel" "phrases" "[J", Cond.constantLong RX6 227 (255), Cond.methodLink RX6 238 yX6_statement, Cond.instanceMethod yX6_statement, Cond.selects RX6 yX6_statement yX6_statement, Cond.code yX6_statement cX6_statement 5 none, Cond.methodLink RX6 241 yX6_wordOf, Cond.static yX6_wordOf, Cond.code yX6_wordOf cX6_wordOf 1 (some .int)]
def wsX6_sentence : List Cond := .code yX6_sentence cX6_sentence 3 (some .int) :: ((wsX6_sentence_r1 ++ (wsX6_sentence_r2 ++ wsX6_sentence_r3)) ++ wsX60)
def wsX6_at : List Cond := .code yX6_at cX6_at 2 (some .int) :: ([.fieldLink RX6 229 "ProofCheckerModel" "size" "I", .fieldLink RX6 147 "ProofCheckerModel" "text" "[I"] ++ wsX60)
def wsJ9_max_7cf53 : List Cond := .code yJ9_max_7cf53 cJ9_max_7cf53 2 (some .int) :: ([])
def wsJ9_min_7cf53 : List Cond := .code yJ9_min_7cf53 cJ9_min_7cf53 2 (some .int) :: ([])
def wsJ9_min_f86c9 : List Cond := .code yJ9_min_f86c9 cJ9_min_f86c9 4 (some .long) :: ([])
def wsL_law_r1 : List Cond := [Cond.classLink RL 7 RX5, Cond.instantiable RX5 9, Cond.initialized RX5, Cond.classLink RL 10 RX6, Cond.instantiable RX6 17, Cond.initialized RX6, Cond.methodLink RL 9 yX5_init, Cond.instanceMethod yX5_init, Cond.code yX5_init cX5_init 1 none, Cond.methodLink RX5 1 objectInit, Cond.instanceMethod objectInit, Cond.code objectInit ⟨#[0xb1]⟩ 1 none, Cond.classLink RX5 7 RX4, Cond.instantiable RX4 3, Cond.initialized RX4, Cond.fieldLink RX5 14 "ProofChecker" "axioms" "LProofChecker$Statements;", Cond.fieldLink RX5 18 "ProofChecker" "triples" "LProofChecker$Statements;", Cond.classLink RX5 21 RX2, Cond.instantiable RX2 5, Cond.initialized RX2, Cond.fieldLink RX5 24 "ProofChecker" "laid" "LProofChecker$Rows;", Cond.fieldLink RX5 28 "ProofChecker" "stated" "LProofChecker$Statements;", Cond.classLink RX5 31 RX1, Cond.instantiable RX1 1]
def wsL_law_r2 : List Cond := [Cond.initialized RX1, Cond.fieldLink RX5 34 "ProofChecker" "letters" "LProofChecker$Letters;", Cond.classLink RX5 38 RJ4, Cond.instantiable RJ4 4, Cond.initialized RJ4, Cond.fieldLink RX5 41 "ProofChecker" "told" "Ljava/lang/StringBuilder;", Cond.arrayClass .boolean, Cond.fieldLink RX5 45 "ProofChecker" "needed" "[Z", Cond.arrayClass .int, Cond.fieldLink RX5 49 "ProofChecker" "reckoned" "[I", Cond.fieldLink RX5 53 "ProofChecker" "broken" "I", Cond.methodLink RX5 11 yX4_init, Cond.instanceMethod yX4_init, Cond.code yX4_init cX4_init 3 none, Cond.methodLink RX4 3 objectInit, Cond.methodLink RX4 9 Lib.Math.max.name, Cond.static Lib.Math.max.name, Cond.initialized "java/lang/Math", Cond.code Lib.Math.max.name Lib.Math.max.code 2 (some .int), Cond.fieldLink RX4 15 "ProofChecker$Statements" "kinds" "[I", Cond.fieldLink RX4 21 "ProofChecker$Statements" "numbers" "[I", Cond.fieldLink RX4 24 "ProofChecker$Statements" "count" "I", Cond.instanceMethod yX2_init, Cond.code yX2_init cX2_init 1 none]
def wsL_law_r3 : List Cond := [Cond.methodLink RX2 3 objectInit, Cond.fieldLink RX2 9 "ProofChecker$Rows" "ruleNumbers" "[I", Cond.fieldLink RX2 15 "ProofChecker$Rows" "instances" "[I", Cond.fieldLink RX2 18 "ProofChecker$Rows" "premiseCounts" "[I", Cond.fieldLink RX2 21 "ProofChecker$Rows" "premises" "[I", Cond.fieldLink RX2 24 "ProofChecker$Rows" "last" "I", Cond.instanceMethod yX1_init, Cond.code yX1_init cX1_init 1 none, Cond.methodLink RX1 1 objectInit, Cond.fieldLink RX1 7 "ProofChecker$Letters" "meanings" "[I", Cond.methodLink RX5 40 yJ4_init_da8c8, Cond.instanceMethod yJ4_init_da8c8, Cond.code yJ4_init_da8c8 cJ4_init_da8c8 1 none, Cond.methodLink RJ4 1 yJ5_init_d00df, Cond.instanceMethod yJ5_init_d00df, Cond.initialized RJ5, Cond.code yJ5_init_d00df cJ5_init_d00df 2 none, Cond.methodLink RJ5 3 objectInit, Cond.fieldLink RJ5 18 "java/lang/String" "COMPACT_STRINGS" "Z", Cond.arrayClass .byte, Cond.fieldLink RJ5 15 "java/lang/AbstractStringBuilder" "value" "[B", Cond.fieldLink RJ5 22 "java/lang/AbstractStringBuilder" "coder" "B", Cond.methodLink RJ5 26 yJ2_newBytesFor_77867, Cond.static yJ2_newBytesFor_77867]
def wsL_law_r4 : List Cond := [Cond.initialized RJ2, Cond.code yJ2_newBytesFor_77867 cJ2_newBytesFor_77867 1 (some (.array .byte)), Cond.methodLink RJ2 11 yJ2_newBytesLength_0f7a4, Cond.static yJ2_newBytesLength_0f7a4, Cond.code yJ2_newBytesLength_0f7a4 cJ2_newBytesLength_0f7a4 1 (some .int), Cond.constant RJ2 20 (1073741823), Cond.methodLink RL 12 yX6_init, Cond.instanceMethod yX6_init, Cond.code yX6_init cX6_init 1 none, Cond.methodLink RX6 1 objectInit, Cond.arrayClass .long, Cond.constantLong RX6 7 (418632003437), Cond.constantLong RX6 9 (444150998382), Cond.constantLong RX6 11 (115948873149542), Cond.constantLong RX6 13 (422608400247), Cond.constantLong RX6 15 (8102661208121963625), Cond.constantLong RX6 17 (25971), Cond.constantLong RX6 19 (427020088179), Cond.constantLong RX6 21 (8102661208121963641), Cond.constantLong RX6 23 (108187666181747), Cond.constantLong RX6 25 (465557349491), Cond.constantLong RX6 27 (111503598970226), Cond.constantLong RX6 29 (32765938003961704), Cond.constantLong RX6 31 (478694368626)]
def wsL_law_r5 : List Cond := [Cond.constantLong RX6 33 (1937203568), Cond.constantLong RX6 35 (435695214956), Cond.constantLong RX6 37 (7302757), Cond.constantLong RX6 39 (418497262196), Cond.constantLong RX6 41 (7237492), Cond.constantLong RX6 43 (7020682409992089191), Cond.constantLong RX6 45 (31084793196801639), Cond.constantLong RX6 47 (7165066978583995497), Cond.constantLong RX6 49 (427154829166), Cond.constantLong RX6 51 (109317142573856), Cond.constantLong RX6 53 (512852325408), Cond.constantLong RX6 55 (2335524464695274607), Cond.constantLong RX6 57 (8583970206910739232), Cond.constantLong RX6 59 (30496), Cond.constantLong RX6 61 (2333539051756221216), Cond.constantLong RX6 63 (7022273356252603244), Cond.constantLong RX6 65 (1634956064), Cond.constantLong RX6 67 (2336353775669944436), Cond.constantLong RX6 69 (8007516080650284129), Cond.constantLong RX6 71 (7566112), Cond.constantLong RX6 73 (2333267458273799265), Cond.constantLong RX6 75 (2334957413328778344), Cond.constantLong RX6 77 (491496236904), Cond.constantLong RX6 79 (2334957413328774505)]
def wsL_law_r6 : List Cond := [Cond.constantLong RX6 81 (8388065846822920569), Cond.constantLong RX6 83 (543781664), Cond.constantLong RX6 85 (477285543525), Cond.constantLong RX6 87 (2335524464897258528), Cond.constantLong RX6 89 (2335524464712507763), Cond.constantLong RX6 91 (29472), Cond.constantLong RX6 93 (32), Cond.constantLong RX6 95 (2335223567922261615), Cond.constantLong RX6 97 (8388070228875045230), Cond.constantLong RX6 99 (9116529483149166), Cond.constantLong RX6 101 (2338608890057290856), Cond.constantLong RX6 103 (111540845371769), Cond.constantLong RX6 105 (11808), Cond.constantLong RX6 107 (189521885472), Cond.constantLong RX6 109 (35624378658080), Cond.constantLong RX6 111 (139073578016), Cond.constantLong RX6 113 (46), Cond.fieldLink RX6 115 "ProofCheckerModel" "phrases" "[J", Cond.fieldLink RX6 121 "ProofCheckerModel" "axioms" "[I", Cond.fieldLink RX6 125 "ProofCheckerModel" "triples" "[I", Cond.fieldLink RX6 128 "ProofCheckerModel" "rules" "[I", Cond.fieldLink RX6 131 "ProofCheckerModel" "instances" "[I", Cond.fieldLink RX6 134 "ProofCheckerModel" "counts" "[I", Cond.fieldLink RX6 137 "ProofCheckerModel" "premises" "[I"]
def wsL_law_r7 : List Cond := [Cond.fieldLink RX6 140 "ProofCheckerModel" "stated" "[I", Cond.fieldLink RX6 143 "ProofCheckerModel" "marks" "[Z", Cond.fieldLink RX6 147 "ProofCheckerModel" "text" "[I", Cond.fieldLink RX6 150 "ProofCheckerModel" "sizes" "[I", Cond.fieldLink RX6 153 "ProofCheckerModel" "places" "[I", Cond.methodLink RL 13 yX5_axiom, Cond.instanceMethod yX5_axiom, Cond.selects RX5 yX5_axiom yX5_axiom, Cond.code yX5_axiom cX5_axiom 5 (some .int), Cond.fieldLink RX5 57 "ProofChecker" "KINDS" "[LProofChecker$Kind;", Cond.methodLink RX5 61 yX5_isTerm, Cond.static yX5_isTerm, Cond.code yX5_isTerm cX5_isTerm 1 (some .boolean), Cond.methodLink RX5 70 yX4_add, Cond.instanceMethod yX4_add, Cond.selects RX4 yX4_add yX4_add, Cond.code yX4_add cX4_add 5 (some .int), Cond.methodLink RX4 32 yX4_put_, Cond.instanceMethod yX4_put_, Cond.selects RX4 yX4_put_ yX4_put_, Cond.code yX4_put_ cX4_put_ 6 none, Cond.methodLink RL 17 yX6_axiom, Cond.instanceMethod yX6_axiom, Cond.selects RX6 yX6_axiom yX6_axiom]
def wsL_law_r8 : List Cond := [Cond.code yX6_axiom cX6_axiom 5 (some .int), Cond.fieldLink RX6 160 "ProofCheckerModel" "axiomCount" "I", Cond.methodLink RX6 156 yX6_isTerm, Cond.static yX6_isTerm, Cond.code yX6_isTerm cX6_isTerm 1 (some .boolean), Cond.methodLink RL 18 yX5_triple, Cond.instanceMethod yX5_triple, Cond.selects RX5 yX5_triple yX5_triple, Cond.code yX5_triple cX5_triple 5 (some .int), Cond.methodLink RX5 74 yX4_find, Cond.instanceMethod yX4_find, Cond.selects RX4 yX4_find yX4_find, Cond.code yX4_find cX4_find 6 (some .int), Cond.methodLink RX4 36 yX4_is, Cond.instanceMethod yX4_is, Cond.selects RX4 yX4_is yX4_is, Cond.code yX4_is cX4_is 6 (some .boolean), Cond.methodLink RX4 28 yX4_kind, Cond.instanceMethod yX4_kind, Cond.selects RX4 yX4_kind yX4_kind, Cond.code yX4_kind cX4_kind 2 (some .int), Cond.methodLink RX4 40 yX4_number, Cond.instanceMethod yX4_number, Cond.selects RX4 yX4_number yX4_number]
def wsL_law_r9 : List Cond := [Cond.code yX4_number cX4_number 4 (some .int), Cond.methodLink RL 21 yX6_triple, Cond.instanceMethod yX6_triple, Cond.selects RX6 yX6_triple yX6_triple, Cond.code yX6_triple cX6_triple 5 (some .int), Cond.fieldLink RX6 164 "ProofCheckerModel" "tripleCount" "I", Cond.methodLink RL 22 yX5_row, Cond.instanceMethod yX5_row, Cond.selects RX5 yX5_row yX5_row, Cond.code yX5_row cX5_row 6 (some .int), Cond.methodLink RX5 77 yX5_ruleNumbered, Cond.static yX5_ruleNumbered, Cond.code yX5_ruleNumbered cX5_ruleNumbered 1 (some (.object "ProofChecker$Rule")), Cond.fieldLink RX5 183 "ProofChecker" "RULES" "[LProofChecker$Rule;", Cond.methodLink RX5 81 yX5_isInstance, Cond.instanceMethod yX5_isInstance, Cond.selects RX5 yX5_isInstance yX5_isInstance, Cond.code yX5_isInstance cX5_isInstance 3 (some .boolean), Cond.fieldLink RX5 187 "ProofChecker$Rule" "AXIOM" "LProofChecker$Rule;", Cond.fieldLink RX5 191 "ProofChecker$Rule" "GIVEN" "LProofChecker$Rule;", Cond.fieldLink RX5 194 "ProofChecker$Rule" "ANYTHING" "LProofChecker$Rule;", Cond.fieldLink RX5 197 "ProofChecker$Rule" "ITSELF" "LProofChecker$Rule;", Cond.methodLink RX5 121 yX4_has, Cond.instanceMethod yX4_has]
def wsL_law_r10 : List Cond := [Cond.selects RX4 yX4_has yX4_has, Cond.code yX4_has cX4_has 2 (some .boolean), Cond.methodLink RX5 85 yX2_has, Cond.instanceMethod yX2_has, Cond.selects RX2 yX2_has yX2_has, Cond.code yX2_has cX2_has 2 (some .boolean), Cond.methodLink RX5 88 yX3_takes, Cond.instanceMethod yX3_takes, Cond.selects RX3 yX3_takes yX3_takes, Cond.initialized RX3, Cond.code yX3_takes cX3_takes 1 (some .int), Cond.fieldLink RX3 81 "ProofChecker$Rule" "asks" "Ljava/lang/String;", Cond.methodLink RX3 87 yJ0_length_8abf5, Cond.instanceMethod yJ0_length_8abf5, Cond.selects RJ0 yJ0_length_8abf5 yJ0_length_8abf5, Cond.initialized RJ0, Cond.code yJ0_length_8abf5 cJ0_length_8abf5 1 (some .int), Cond.fieldLink RJ0 9 "java/lang/String" "value" "[B", Cond.methodLink RJ0 335 yJ0_coder_7d493, Cond.instanceMethod yJ0_coder_7d493, Cond.selects RJ0 yJ0_coder_7d493 yJ0_coder_7d493, Cond.code yJ0_coder_7d493 cJ0_coder_7d493 1 (some .byte), Cond.fieldLink RJ0 38 "java/lang/String" "COMPACT_STRINGS" "Z", Cond.fieldLink RJ0 15 "java/lang/String" "coder" "B"]
def wsL_law_r11 : List Cond := [Cond.methodLink RX5 94 yX2_lay, Cond.instanceMethod yX2_lay, Cond.selects RX2 yX2_lay yX2_lay, Cond.code yX2_lay cX2_lay 3 (some .int), Cond.methodLink RX5 98 yX2_addPremise, Cond.instanceMethod yX2_addPremise, Cond.selects RX2 yX2_addPremise yX2_addPremise, Cond.code yX2_addPremise cX2_addPremise 4 none, Cond.methodLink RX2 32 yX2_premiseCount, Cond.instanceMethod yX2_premiseCount, Cond.selects RX2 yX2_premiseCount yX2_premiseCount, Cond.code yX2_premiseCount cX2_premiseCount 2 (some .int), Cond.methodLink RX2 28 yX2_has, Cond.methodLink RX5 102 yX5_derive, Cond.instanceMethod yX5_derive, Cond.selects RX5 yX5_derive yX5_derive, Cond.code yX5_derive cX5_derive 3 none, Cond.methodLink RX5 200 yX4_clear, Cond.instanceMethod yX4_clear, Cond.selects RX4 yX4_clear yX4_clear, Cond.code yX4_clear cX4_clear 2 none, Cond.methodLink RX5 105 yX5_ruleOf, Cond.instanceMethod yX5_ruleOf, Cond.selects RX5 yX5_ruleOf yX5_ruleOf]
def wsL_law_r12 : List Cond := [Cond.code yX5_ruleOf cX5_ruleOf 2 (some (.object "ProofChecker$Rule")), Cond.methodLink RX5 136 yX2_ruleNumber, Cond.instanceMethod yX2_ruleNumber, Cond.selects RX2 yX2_ruleNumber yX2_ruleNumber, Cond.code yX2_ruleNumber cX2_ruleNumber 2 (some .int), Cond.methodLink RX5 203 yX5_fits, Cond.instanceMethod yX5_fits, Cond.selects RX5 yX5_fits yX5_fits, Cond.code yX5_fits cX5_fits 4 (some .boolean), Cond.methodLink RX5 108 yX2_premiseCount, Cond.methodLink RX5 211 yX1_forget, Cond.instanceMethod yX1_forget, Cond.selects RX1 yX1_forget yX1_forget, Cond.code yX1_forget cX1_forget 1 none, Cond.methodLink RX1 13 yJ7_fill_53178, Cond.static yJ7_fill_53178, Cond.initialized RJ7, Cond.code yJ7_fill_53178 cJ7_fill_53178 4 none, Cond.methodLink RX5 214 yX2_premiseAt, Cond.instanceMethod yX2_premiseAt, Cond.selects RX2 yX2_premiseAt yX2_premiseAt, Cond.code yX2_premiseAt cX2_premiseAt 4 (some .int), Cond.methodLink RX5 220 yX5_isAsTold, Cond.instanceMethod yX5_isAsTold]
def wsL_law_r13 : List Cond := [Cond.selects RX5 yX5_isAsTold yX5_isAsTold, Cond.code yX5_isAsTold cX5_isAsTold 5 (some .boolean), Cond.methodLink RX5 139 yX4_kind, Cond.methodLink RX5 224 yX5_signAt, Cond.static yX5_signAt, Cond.code yX5_signAt cX5_signAt 2 (some .char), Cond.methodLink RX5 248 yJ0_length_8abf5, Cond.methodLink RX5 251 yJ0_charAt_5068e, Cond.instanceMethod yJ0_charAt_5068e, Cond.selects RJ0 yJ0_charAt_5068e yJ0_charAt_5068e, Cond.code yJ0_charAt_5068e cJ0_charAt_5068e 2 (some .char), Cond.methodLink RJ0 492 yJ0_isLatin1_aae02, Cond.instanceMethod yJ0_isLatin1_aae02, Cond.selects RJ0 yJ0_isLatin1_aae02 yJ0_isLatin1_aae02, Cond.code yJ0_isLatin1_aae02 cJ0_isLatin1_aae02 1 (some .boolean), Cond.methodLink RJ0 495 yJ1_charAt_3b067, Cond.static yJ1_charAt_3b067, Cond.initialized RJ1, Cond.code yJ1_charAt_3b067 cJ1_charAt_3b067 2 (some .char), Cond.methodLink RJ1 9 yJ0_checkIndex_df160, Cond.static yJ0_checkIndex_df160, Cond.code yJ0_checkIndex_df160 cJ0_checkIndex_df160 2 none, Cond.fieldLink RJ0 1053 "jdk/internal/util/Preconditions" "SIOOBE_FORMATTER" "Ljava/util/function/BiFunction;", Cond.methodLink RJ0 1059 yJ3_checkIndex_8e157]
def wsL_law_r14 : List Cond := [Cond.static yJ3_checkIndex_8e157, Cond.initialized RJ3, Cond.code yJ3_checkIndex_8e157 cJ3_checkIndex_8e157 3 (some .int), Cond.methodLink RJ0 498 yJ2_charAt_3b067, Cond.static yJ2_charAt_3b067, Cond.code yJ2_charAt_3b067 cJ2_charAt_3b067 2 (some .char), Cond.methodLink RJ2 67 yJ2_checkIndex_2214a, Cond.static yJ2_checkIndex_2214a, Cond.code yJ2_checkIndex_2214a cJ2_checkIndex_2214a 2 none, Cond.methodLink RJ2 48 yJ2_length_9d52b, Cond.static yJ2_length_9d52b, Cond.code yJ2_length_9d52b cJ2_length_9d52b 1 (some .int), Cond.methodLink RJ2 414 yJ0_checkIndex_df160, Cond.methodLink RJ2 71 yJ2_getChar_3b067, Cond.static yJ2_getChar_3b067, Cond.code yJ2_getChar_3b067 cJ2_getChar_3b067 2 (some .char), Cond.fieldLink RJ2 44 "java/lang/StringUTF16" "$assertionsDisabled" "Z", Cond.fieldLink RJ2 59 "java/lang/StringUTF16" "HI_BYTE_SHIFT" "I", Cond.fieldLink RJ2 63 "java/lang/StringUTF16" "LO_BYTE_SHIFT" "I", Cond.methodLink RX5 228 yX1_kindFor, Cond.static yX1_kindFor, Cond.code yX1_kindFor cX1_kindFor 1 (some .int), Cond.methodLink RX5 142 yX4_number, Cond.methodLink RX5 232 yX1_agree]
def wsL_law_r15 : List Cond := [Cond.instanceMethod yX1_agree, Cond.selects RX1 yX1_agree yX1_agree, Cond.code yX1_agree cX1_agree 3 (some .boolean), Cond.methodLink RX1 19 yX1_meaning, Cond.instanceMethod yX1_meaning, Cond.selects RX1 yX1_meaning yX1_meaning, Cond.code yX1_meaning cX1_meaning 2 (some .int), Cond.methodLink RX5 207 yX5_conclude, Cond.instanceMethod yX5_conclude, Cond.selects RX5 yX5_conclude yX5_conclude, Cond.code yX5_conclude cX5_conclude 4 none, Cond.methodLink RX5 236 yX2_instance, Cond.instanceMethod yX2_instance, Cond.selects RX2 yX2_instance yX2_instance, Cond.code yX2_instance cX2_instance 2 (some .int), Cond.methodLink RX5 129 yX4_put, Cond.instanceMethod yX4_put, Cond.selects RX4 yX4_put yX4_put, Cond.code yX4_put cX4_put 4 none, Cond.methodLink RX5 242 yX1_meaning, Cond.methodLink RX5 245 yX4_put_, Cond.methodLink RL 25 yX6_row, Cond.instanceMethod yX6_row, Cond.selects RX6 yX6_row yX6_row]
def wsL_law_r16 : List Cond := [Cond.code yX6_row cX6_row 4 (some .int), Cond.fieldLink RX6 167 "ProofCheckerModel" "rows" "I", Cond.methodLink RX6 170 yX6_isInstance, Cond.instanceMethod yX6_isInstance, Cond.selects RX6 yX6_isInstance yX6_isInstance, Cond.code yX6_isInstance cX6_isInstance 3 (some .boolean), Cond.methodLink RX6 174 yX6_isRow, Cond.instanceMethod yX6_isRow, Cond.selects RX6 yX6_isRow yX6_isRow, Cond.code yX6_isRow cX6_isRow 2 (some .boolean), Cond.methodLink RX6 177 yX6_takes, Cond.static yX6_takes, Cond.code yX6_takes cX6_takes 1 (some .int), Cond.methodLink RX6 181 yX6_lay, Cond.instanceMethod yX6_lay, Cond.selects RX6 yX6_lay yX6_lay, Cond.code yX6_lay cX6_lay 3 none, Cond.methodLink RL 26 yX5_premise, Cond.instanceMethod yX5_premise, Cond.selects RX5 yX5_premise yX5_premise, Cond.code yX5_premise cX5_premise 5 (some .int), Cond.methodLink RX5 112 yX2_last, Cond.instanceMethod yX2_last, Cond.selects RX2 yX2_last yX2_last]
def wsL_law_r17 : List Cond := [Cond.code yX2_last cX2_last 1 (some .int), Cond.methodLink RL 30 yX6_premise, Cond.instanceMethod yX6_premise, Cond.selects RX6 yX6_premise yX6_premise, Cond.code yX6_premise cX6_premise 3 (some .int), Cond.methodLink RL 31 yX5_check, Cond.instanceMethod yX5_check, Cond.selects RX5 yX5_check yX5_check, Cond.code yX5_check cX5_check 2 (some .int), Cond.methodLink RX5 115 yX5_markProof, Cond.instanceMethod yX5_markProof, Cond.selects RX5 yX5_markProof yX5_markProof, Cond.code yX5_markProof cX5_markProof 5 none, Cond.methodLink RX5 118 yX5_leastBroken, Cond.instanceMethod yX5_leastBroken, Cond.selects RX5 yX5_leastBroken yX5_leastBroken, Cond.code yX5_leastBroken cX5_leastBroken 3 (some .int), Cond.methodLink RL 35 yX6_check, Cond.instanceMethod yX6_check, Cond.selects RX6 yX6_check yX6_check, Cond.code yX6_check cX6_check 5 (some .int), Cond.fieldLink RX6 218 "ProofCheckerModel" "broken" "I", Cond.methodLink RX6 212 yX6_mark, Cond.instanceMethod yX6_mark]
def wsL_law_r18 : List Cond := [Cond.selects RX6 yX6_mark yX6_mark, Cond.code yX6_mark cX6_mark 5 (some .int), Cond.methodLink RX6 215 yX6_work, Cond.instanceMethod yX6_work, Cond.selects RX6 yX6_work yX6_work, Cond.code yX6_work cX6_work 5 none, Cond.methodLink RX6 189 yX6_state, Cond.instanceMethod yX6_state, Cond.selects RX6 yX6_state yX6_state, Cond.code yX6_state cX6_state 6 none, Cond.methodLink RX6 185 yX6_of, Cond.instanceMethod yX6_of, Cond.selects RX6 yX6_of yX6_of, Cond.code yX6_of cX6_of 4 (some .int), Cond.methodLink RX6 193 yX6_single, Cond.instanceMethod yX6_single, Cond.selects RX6 yX6_single yX6_single, Cond.code yX6_single cX6_single 3 none, Cond.methodLink RX6 197 yX6_copy, Cond.instanceMethod yX6_copy, Cond.selects RX6 yX6_copy yX6_copy, Cond.code yX6_copy cX6_copy 4 none, Cond.methodLink RX6 201 yX6_chain, Cond.instanceMethod yX6_chain]
def wsL_law_r19 : List Cond := [Cond.selects RX6 yX6_chain yX6_chain, Cond.code yX6_chain cX6_chain 9 none, Cond.methodLink RX6 204 yX6_is, Cond.instanceMethod yX6_is, Cond.selects RX6 yX6_is yX6_is, Cond.code yX6_is cX6_is 4 (some .boolean), Cond.methodLink RX6 208 yX6_three, Cond.instanceMethod yX6_three, Cond.selects RX6 yX6_three yX6_three, Cond.code yX6_three cX6_three 9 none, Cond.methodLink RX6 221 yX6_kindOf, Cond.instanceMethod yX6_kindOf, Cond.selects RX6 yX6_kindOf yX6_kindOf, Cond.code yX6_kindOf cX6_kindOf 2 (some .int), Cond.methodLink RL 36 yX5_broken, Cond.instanceMethod yX5_broken, Cond.selects RX5 yX5_broken yX5_broken, Cond.code yX5_broken cX5_broken 1 (some .int), Cond.methodLink RL 40 yX6_broken, Cond.instanceMethod yX6_broken, Cond.selects RX6 yX6_broken yX6_broken, Cond.code yX6_broken cX6_broken 1 (some .int), Cond.methodLink RL 41 yX5_rows, Cond.instanceMethod yX5_rows]
def wsL_law_r20 : List Cond := [Cond.selects RX5 yX5_rows yX5_rows, Cond.code yX5_rows cX5_rows 4 (some .int), Cond.methodLink RL 44 yX6_rows, Cond.instanceMethod yX6_rows, Cond.selects RX6 yX6_rows yX6_rows, Cond.code yX6_rows cX6_rows 2 (some .int), Cond.methodLink RL 45 yX5_size, Cond.instanceMethod yX5_size, Cond.selects RX5 yX5_size yX5_size, Cond.code yX5_size cX5_size 3 (some .int), Cond.methodLink RX5 122 yX5_sizeAbovePremises, Cond.instanceMethod yX5_sizeAbovePremises, Cond.selects RX5 yX5_sizeAbovePremises yX5_sizeAbovePremises, Cond.code yX5_sizeAbovePremises cX5_sizeAbovePremises 6 (some .int), Cond.constantLong RX5 252 (1000000000), Cond.methodLink RX5 254 Lib.MathLoose.min_long.x, Cond.static Lib.MathLoose.min_long.x, Cond.code Lib.MathLoose.min_long.x Lib.MathLoose.min_long.code 4 (some .long), Cond.methodLink RL 48 yX6_size, Cond.instanceMethod yX6_size, Cond.selects RX6 yX6_size yX6_size, Cond.code yX6_size cX6_size 6 (some .int), Cond.constantLong RX6 224 (1000000000), Cond.constant RX6 226 (1000000000)]
def wsL_law_r21 : List Cond := [Cond.methodLink RL 49 yX5_drop, Cond.instanceMethod yX5_drop, Cond.selects RX5 yX5_drop yX5_drop, Cond.code yX5_drop cX5_drop 4 (some .int), Cond.methodLink RX5 125 yX2_move, Cond.instanceMethod yX2_move, Cond.selects RX2 yX2_move yX2_move, Cond.code yX2_move cX2_move 8 none, Cond.methodLink RX5 133 yX2_keepOnly, Cond.instanceMethod yX2_keepOnly, Cond.selects RX2 yX2_keepOnly yX2_keepOnly, Cond.code yX2_keepOnly cX2_keepOnly 2 none, Cond.methodLink RX2 36 Lib.Math.min.name, Cond.static Lib.Math.min.name, Cond.code Lib.Math.min.name Lib.Math.min.code 2 (some .int), Cond.methodLink RX2 42 Lib.Math.max.name, Cond.methodLink RL 52 yX6_drop, Cond.instanceMethod yX6_drop, Cond.selects RX6 yX6_drop yX6_drop, Cond.code yX6_drop cX6_drop 6 (some .int), Cond.methodLink RL 53 yX5_name, Cond.instanceMethod yX5_name, Cond.selects RX5 yX5_name yX5_name, Cond.code yX5_name cX5_name 2 (some .int)]
def wsL_law_r22 : List Cond := [Cond.methodLink RL 56 yX6_name, Cond.instanceMethod yX6_name, Cond.selects RX6 yX6_name yX6_name, Cond.code yX6_name cX6_name 2 (some .int), Cond.methodLink RL 57 yX5_states, Cond.instanceMethod yX5_states, Cond.selects RX5 yX5_states yX5_states, Cond.code yX5_states cX5_states 3 (some .int), Cond.methodLink RL 60 yX6_states, Cond.instanceMethod yX6_states, Cond.selects RX6 yX6_states yX6_states, Cond.code yX6_states cX6_states 3 (some .int), Cond.methodLink RL 61 yX5_sentence, Cond.instanceMethod yX5_sentence, Cond.selects RX5 yX5_sentence yX5_sentence, Cond.code yX5_sentence cX5_sentence 3 (some .int), Cond.methodLink RX5 145 yJ4_setLength_d00df, Cond.instanceMethod yJ4_setLength_d00df, Cond.selects RJ4 yJ4_setLength_d00df yJ4_setLength_d00df, Cond.code yJ4_setLength_d00df cJ4_setLength_d00df 2 none, Cond.methodLink RJ4 333 yJ5_setLength_d00df, Cond.sameMethod "java/lang/AbstractStringBuilder" "java/lang/AbstractStringBuilder" "setLength" "(I)V", Cond.superclass RJ4 RJ5, Cond.instanceMethod yJ5_setLength_d00df]
def wsL_law_r23 : List Cond := [Cond.code yJ5_setLength_d00df cJ5_setLength_d00df 2 none, Cond.fieldLink RJ5 79 "java/lang/AbstractStringBuilder" "count" "I", Cond.fieldLink RJ5 73 "java/lang/AbstractStringBuilder" "maybeLatin1" "Z", Cond.methodLink RJ5 100 ⟨"java/lang/AbstractStringBuilder", "ensureCapacityInternal", "(I)V"⟩, Cond.sameMethod "java/lang/AbstractStringBuilder" "java/lang/AbstractStringBuilder" "ensureCapacityInternal" "(I)V", Cond.selects RJ4 ⟨"java/lang/AbstractStringBuilder", "ensureCapacityInternal", "(I)V"⟩ yJ5_ensureCapacityInternal_d00df, Cond.instanceMethod yJ5_ensureCapacityInternal_d00df, Cond.code yJ5_ensureCapacityInternal_d00df cJ5_ensureCapacityInternal_d00df 3 none, Cond.methodLink RJ5 104 ⟨"java/lang/AbstractStringBuilder", "newCapacity", "(I)I"⟩, Cond.sameMethod "java/lang/AbstractStringBuilder" "java/lang/AbstractStringBuilder" "newCapacity" "(I)I", Cond.selects RJ4 ⟨"java/lang/AbstractStringBuilder", "newCapacity", "(I)I"⟩ yJ5_newCapacity_0f7a4, Cond.instanceMethod yJ5_newCapacity_0f7a4, Cond.code yJ5_newCapacity_0f7a4 cJ5_newCapacity_0f7a4 6 (some .int), Cond.constant RJ5 39 (2147483647), Cond.methodLink RJ5 114 yJ8_newLength_cabcc, Cond.static yJ8_newLength_cabcc, Cond.initialized RJ8, Cond.code yJ8_newLength_cabcc cJ8_newLength_cabcc 4 (some .int), Cond.methodLink RJ8 194 Lib.Math.max.name, Cond.constant RJ8 200 (2147483639), Cond.methodLink RJ8 201 yJ8_hugeLength_7cf53, Cond.static yJ8_hugeLength_7cf53, Cond.code yJ8_hugeLength_7cf53 cJ8_hugeLength_7cf53 3 (some .int), Cond.methodLink RJ5 108 yJ7_copyOf_9075b]
def wsL_law_r24 : List Cond := [Cond.static yJ7_copyOf_9075b, Cond.code yJ7_copyOf_9075b cJ7_copyOf_9075b 3 (some (.array .byte)), Cond.methodLink RJ7 310 ⟨"[B", "clone", "()Ljava/lang/Object;"⟩, Cond.sameMethod "[B" "java/lang/Object" "clone" "()Ljava/lang/Object;", Cond.native ⟨"java/lang/Object", "clone", "()Ljava/lang/Object;"⟩, Cond.instanceMethod ⟨"java/lang/Object", "clone", "()Ljava/lang/Object;"⟩, Cond.selects "[B" ⟨"[B", "clone", "()Ljava/lang/Object;"⟩ ⟨"java/lang/Object", "clone", "()Ljava/lang/Object;"⟩, Cond.classLink RJ7 311 "[B", Cond.methodLink RJ7 304 Lib.Math.min.name, Cond.methodLink RJ7 150 arraycopyName, Cond.native arraycopyName, Cond.static arraycopyName, Cond.initialized "java/lang/System", Cond.methodLink RJ5 83 ⟨"java/lang/AbstractStringBuilder", "isLatin1", "()Z"⟩, Cond.sameMethod "java/lang/AbstractStringBuilder" "java/lang/AbstractStringBuilder" "isLatin1" "()Z", Cond.selects RJ4 ⟨"java/lang/AbstractStringBuilder", "isLatin1", "()Z"⟩ yJ5_isLatin1_aae02, Cond.instanceMethod yJ5_isLatin1_aae02, Cond.code yJ5_isLatin1_aae02 cJ5_isLatin1_aae02 1 (some .boolean), Cond.methodLink RJ5 133 yJ1_fillNull_b72d1, Cond.static yJ1_fillNull_b72d1, Cond.code yJ1_fillNull_b72d1 cJ1_fillNull_b72d1 3 none, Cond.methodLink RJ1 236 yJ7_fill_eb02e, Cond.static yJ7_fill_eb02e, Cond.code yJ7_fill_eb02e cJ7_fill_eb02e 5 none]
def wsL_law_r25 : List Cond := [Cond.methodLink RJ7 13 yJ7_rangeCheck_23922, Cond.static yJ7_rangeCheck_23922, Cond.code yJ7_rangeCheck_23922 cJ7_rangeCheck_23922 3 none, Cond.methodLink RJ5 137 yJ2_fillNull_b72d1, Cond.static yJ2_fillNull_b72d1, Cond.code yJ2_fillNull_b72d1 cJ2_fillNull_b72d1 3 none, Cond.methodLink RJ2 380 yJ7_fill_eb02e, Cond.methodLink RX5 148 yJ4_append_bf812, Cond.instanceMethod yJ4_append_bf812, Cond.selects RJ4 yJ4_append_bf812 yJ4_append_bf812, Cond.code yJ4_append_bf812 cJ4_append_bf812 2 (some (.object "java/lang/StringBuilder")), Cond.methodLink RJ4 53 yJ5_append_c97b9, Cond.sameMethod "java/lang/AbstractStringBuilder" "java/lang/AbstractStringBuilder" "append" "(I)Ljava/lang/AbstractStringBuilder;", Cond.instanceMethod yJ5_append_c97b9, Cond.code yJ5_append_c97b9 cJ5_append_c97b9 4 (some (.object "java/lang/AbstractStringBuilder")), Cond.methodLink RJ5 245 yJ6_stringSize_0f7a4, Cond.static yJ6_stringSize_0f7a4, Cond.initialized RJ6, Cond.code yJ6_stringSize_0f7a4 cJ6_stringSize_0f7a4 4 (some .int), Cond.methodLink RJ5 248 yJ6_getChars_ba4f3, Cond.static yJ6_getChars_ba4f3, Cond.code yJ6_getChars_ba4f3 cJ6_getChars_ba4f3 7 (some .int), Cond.fieldLink RJ6 83 "java/lang/Integer" "DigitOnes" "[B", Cond.fieldLink RJ6 87 "java/lang/Integer" "DigitTens" "[B"]
def wsL_law_r26 : List Cond := [Cond.methodLink RJ5 251 yJ2_getChars_46870, Cond.static yJ2_getChars_46870, Cond.code yJ2_getChars_46870 cJ2_getChars_46870 5 (some .int), Cond.methodLink RJ2 96 yJ2_checkBoundsBeginEnd_d044e, Cond.static yJ2_checkBoundsBeginEnd_d044e, Cond.code yJ2_checkBoundsBeginEnd_d044e cJ2_checkBoundsBeginEnd_d044e 3 none, Cond.methodLink RJ2 241 yJ0_checkBoundsBeginEnd_23922, Cond.static yJ0_checkBoundsBeginEnd_23922, Cond.code yJ0_checkBoundsBeginEnd_23922 cJ0_checkBoundsBeginEnd_23922 3 none, Cond.methodLink RJ0 1062 yJ3_checkFromToIndex_8c36e, Cond.static yJ3_checkFromToIndex_8c36e, Cond.code yJ3_checkFromToIndex_8c36e cJ3_checkFromToIndex_8c36e 4 (some .int), Cond.methodLink RJ2 393 yJ2_getChars_ba4f3, Cond.static yJ2_getChars_ba4f3, Cond.code yJ2_getChars_ba4f3 cJ2_getChars_ba4f3 7 (some .int), Cond.fieldLink RJ2 403 "java/lang/Integer" "DigitOnes" "[B", Cond.fieldLink RJ2 407 "java/lang/Integer" "DigitTens" "[B", Cond.methodLink RJ2 111 yJ2_putChar_b72d1, Cond.static yJ2_putChar_b72d1, Cond.code yJ2_putChar_b72d1 cJ2_putChar_b72d1 3 none, Cond.methodLink RX5 154 yJ4_append_15ec4, Cond.instanceMethod yJ4_append_15ec4, Cond.selects RJ4 yJ4_append_15ec4 yJ4_append_15ec4, Cond.code yJ4_append_15ec4 cJ4_append_15ec4 2 (some (.object "java/lang/StringBuilder"))]
def wsL_law_r27 : List Cond := [Cond.methodLink RJ4 29 yJ5_append_cf1ce, Cond.sameMethod "java/lang/AbstractStringBuilder" "java/lang/AbstractStringBuilder" "append" "(Ljava/lang/String;)Ljava/lang/AbstractStringBuilder;", Cond.instanceMethod yJ5_append_cf1ce, Cond.code yJ5_append_cf1ce cJ5_append_cf1ce 3 (some (.object "java/lang/AbstractStringBuilder")), Cond.methodLink RJ5 204 ⟨"java/lang/AbstractStringBuilder", "appendNull", "()Ljava/lang/AbstractStringBuilder;"⟩, Cond.sameMethod "java/lang/AbstractStringBuilder" "java/lang/AbstractStringBuilder" "appendNull" "()Ljava/lang/AbstractStringBuilder;", Cond.selects RJ4 ⟨"java/lang/AbstractStringBuilder", "appendNull", "()Ljava/lang/AbstractStringBuilder;"⟩ yJ5_appendNull_278bc, Cond.instanceMethod yJ5_appendNull_278bc, Cond.code yJ5_appendNull_278bc cJ5_appendNull_278bc 3 (some (.object "java/lang/AbstractStringBuilder")), Cond.methodLink RJ5 226 yJ2_putCharsAt_cd4e5, Cond.static yJ2_putCharsAt_cd4e5, Cond.code yJ2_putCharsAt_cd4e5 cJ2_putCharsAt_cd4e5 7 (some .int), Cond.methodLink RJ5 32 yJ0_length_8abf5, Cond.methodLink RJ5 208 ⟨"java/lang/AbstractStringBuilder", "putStringAt", "(ILjava/lang/String;)V"⟩, Cond.sameMethod "java/lang/AbstractStringBuilder" "java/lang/AbstractStringBuilder" "putStringAt" "(ILjava/lang/String;)V", Cond.selects RJ4 ⟨"java/lang/AbstractStringBuilder", "putStringAt", "(ILjava/lang/String;)V"⟩ yJ5_putStringAt_47b60, Cond.instanceMethod yJ5_putStringAt_47b60, Cond.code yJ5_putStringAt_47b60 cJ5_putStringAt_47b60 3 none, Cond.methodLink RJ5 397 ⟨"java/lang/AbstractStringBuilder", "inflateIfNeededFor", "(Ljava/lang/String;)V"⟩, Cond.sameMethod "java/lang/AbstractStringBuilder" "java/lang/AbstractStringBuilder" "inflateIfNeededFor" "(Ljava/lang/String;)V", Cond.selects RJ4 ⟨"java/lang/AbstractStringBuilder", "inflateIfNeededFor", "(Ljava/lang/String;)V"⟩ yJ5_inflateIfNeededFor_a7421, Cond.instanceMethod yJ5_inflateIfNeededFor_a7421, Cond.code yJ5_inflateIfNeededFor_a7421 cJ5_inflateIfNeededFor_a7421 2 none, Cond.methodLink RJ5 40 yJ0_coder_7d493]
def wsL_law_r28 : List Cond := [Cond.methodLink RJ5 195 ⟨"java/lang/AbstractStringBuilder", "inflate", "()V"⟩, Cond.sameMethod "java/lang/AbstractStringBuilder" "java/lang/AbstractStringBuilder" "inflate" "()V", Cond.selects RJ4 ⟨"java/lang/AbstractStringBuilder", "inflate", "()V"⟩ yJ5_inflate_da8c8, Cond.instanceMethod yJ5_inflate_da8c8, Cond.code yJ5_inflate_da8c8 cJ5_inflate_da8c8 2 none, Cond.methodLink RJ5 125 yJ1_inflate_0e8fd, Cond.static yJ1_inflate_0e8fd, Cond.code yJ1_inflate_0e8fd cJ1_inflate_0e8fd 5 none, Cond.methodLink RJ1 240 yJ2_inflate_0e8fd, Cond.static yJ2_inflate_0e8fd, Cond.code yJ2_inflate_0e8fd cJ2_inflate_0e8fd 6 none, Cond.methodLink RJ2 173 yJ2_checkBoundsOffCount_d044e, Cond.static yJ2_checkBoundsOffCount_d044e, Cond.code yJ2_checkBoundsOffCount_d044e cJ2_checkBoundsOffCount_d044e 3 none, Cond.methodLink RJ2 419 yJ0_checkBoundsOffCount_cabcc, Cond.static yJ0_checkBoundsOffCount_cabcc, Cond.code yJ0_checkBoundsOffCount_cabcc cJ0_checkBoundsOffCount_cabcc 3 (some .int), Cond.methodLink RJ0 1065 yJ3_checkFromIndexSize_8c36e, Cond.static yJ3_checkFromIndexSize_8c36e, Cond.code yJ3_checkFromIndexSize_8c36e cJ3_checkFromIndexSize_8c36e 4 (some .int), Cond.methodLink RJ5 399 yJ0_getBytes_840e7, Cond.instanceMethod yJ0_getBytes_840e7, Cond.selects RJ0 yJ0_getBytes_840e7 yJ0_getBytes_840e7, Cond.code yJ0_getBytes_840e7 cJ0_getBytes_840e7 4 none]
def wsL_law_r29 : List Cond := [Cond.methodLink RJ0 212 arraycopyName, Cond.methodLink RJ0 106 yJ1_inflate_0e8fd, Cond.methodLink RX5 157 yX5_tellStatement, Cond.instanceMethod yX5_tellStatement, Cond.selects RX5 yX5_tellStatement yX5_tellStatement, Cond.code yX5_tellStatement cX5_tellStatement 5 none, Cond.methodLink RX5 260 yX5_wordingFor, Cond.instanceMethod yX5_wordingFor, Cond.selects RX5 yX5_wordingFor yX5_wordingFor, Cond.code yX5_wordingFor cX5_wordingFor 3 (some (.object "java/lang/String")), Cond.fieldLink RX5 271 "ProofChecker$Kind" "NOTHING" "LProofChecker$Kind;", Cond.methodLink RX5 169 yJ4_append_cf468, Cond.instanceMethod yJ4_append_cf468, Cond.selects RJ4 yJ4_append_cf468 yJ4_append_cf468, Cond.code yJ4_append_cf468 cJ4_append_cf468 2 (some (.object "java/lang/StringBuilder")), Cond.methodLink RJ4 50 yJ5_append_3fe6f, Cond.sameMethod "java/lang/AbstractStringBuilder" "java/lang/AbstractStringBuilder" "append" "(C)Ljava/lang/AbstractStringBuilder;", Cond.instanceMethod yJ5_append_3fe6f, Cond.code yJ5_append_3fe6f cJ5_append_3fe6f 2 (some (.object "java/lang/AbstractStringBuilder")), Cond.methodLink RJ5 191 yJ1_canEncode_fc78d, Cond.static yJ1_canEncode_fc78d, Cond.code yJ1_canEncode_fc78d cJ1_canEncode_fc78d 1 (some .boolean), Cond.methodLink RJ5 197 yJ2_putCharSB_b72d1, Cond.static yJ2_putCharSB_b72d1]
def wsL_law_r30 : List Cond := [Cond.code yJ2_putCharSB_b72d1 cJ2_putCharSB_b72d1 3 none, Cond.methodLink RX5 166 yX5_tellPremises, Cond.instanceMethod yX5_tellPremises, Cond.selects RX5 yX5_tellPremises yX5_tellPremises, Cond.code yX5_tellPremises cX5_tellPremises 3 none, Cond.methodLink RX5 172 yJ4_length_8abf5, Cond.instanceMethod yJ4_length_8abf5, Cond.selects RJ4 yJ4_length_8abf5 yJ4_length_8abf5, Cond.code yJ4_length_8abf5 cJ4_length_8abf5 1 (some .int), Cond.methodLink RJ4 343 yJ5_length_8abf5, Cond.sameMethod "java/lang/AbstractStringBuilder" "java/lang/AbstractStringBuilder" "length" "()I", Cond.instanceMethod yJ5_length_8abf5, Cond.code yJ5_length_8abf5 cJ5_length_8abf5 1 (some .int), Cond.methodLink RL 64 yX6_sentence, Cond.instanceMethod yX6_sentence, Cond.selects RX6 yX6_sentence yX6_sentence, Cond.code yX6_sentence cX6_sentence 3 (some .int), Cond.fieldLink RX6 229 "ProofCheckerModel" "size" "I", Cond.methodLink RX6 235 yX6_number, Cond.instanceMethod yX6_number, Cond.selects RX6 yX6_number yX6_number, Cond.code yX6_number cX6_number 4 none, Cond.methodLink RX6 232 yX6_put, Cond.instanceMethod yX6_put]
def wsL_law_r31 : List Cond := [Cond.selects RX6 yX6_put yX6_put, Cond.code yX6_put cX6_put 5 none, Cond.constantLong RX6 227 (255), Cond.methodLink RX6 238 yX6_statement, Cond.instanceMethod yX6_statement, Cond.selects RX6 yX6_statement yX6_statement, Cond.code yX6_statement cX6_statement 5 none, Cond.methodLink RX6 241 yX6_wordOf, Cond.static yX6_wordOf, Cond.code yX6_wordOf cX6_wordOf 1 (some .int), Cond.methodLink RL 65 yX5_at, Cond.instanceMethod yX5_at, Cond.selects RX5 yX5_at yX5_at, Cond.code yX5_at cX5_at 2 (some .int), Cond.methodLink RX5 175 yJ4_charAt_5068e, Cond.instanceMethod yJ4_charAt_5068e, Cond.selects RJ4 yJ4_charAt_5068e yJ4_charAt_5068e, Cond.code yJ4_charAt_5068e cJ4_charAt_5068e 2 (some .char), Cond.methodLink RJ4 329 yJ5_charAt_5068e, Cond.sameMethod "java/lang/AbstractStringBuilder" "java/lang/AbstractStringBuilder" "charAt" "(I)C", Cond.instanceMethod yJ5_charAt_5068e, Cond.code yJ5_charAt_5068e cJ5_charAt_5068e 5 (some .char), Cond.methodLink RJ5 138 Lib.Math.min.name, Cond.methodLink RJ5 144 yJ0_checkIndex_df160]
def wsL_law_r32 : List Cond := [Cond.methodLink RJ5 148 yJ2_getChar_3b067, Cond.methodLink RL 68 yX6_at, Cond.instanceMethod yX6_at, Cond.selects RX6 yX6_at yX6_at, Cond.code yX6_at cX6_at 2 (some .int), Cond.methodLink RL 69 yX5_concludes, Cond.instanceMethod yX5_concludes, Cond.selects RX5 yX5_concludes yX5_concludes, Cond.code yX5_concludes cX5_concludes 3 (some .boolean), Cond.methodLink RX5 179 yX4_isSame, Cond.instanceMethod yX4_isSame, Cond.selects RX4 yX4_isSame yX4_isSame, Cond.code yX4_isSame cX4_isSame 4 (some .boolean), Cond.methodLink RL 73 yX6_concludes, Cond.instanceMethod yX6_concludes, Cond.selects RX6 yX6_concludes yX6_concludes, Cond.code yX6_concludes cX6_concludes 5 (some .boolean)]
def wsL_law : List Cond := (wsL_law_r1 ++ (wsL_law_r2 ++ (wsL_law_r3 ++ (wsL_law_r4 ++ (wsL_law_r5 ++ (wsL_law_r6 ++ (wsL_law_r7 ++ (wsL_law_r8 ++ (wsL_law_r9 ++ (wsL_law_r10 ++ (wsL_law_r11 ++ (wsL_law_r12 ++ (wsL_law_r13 ++ (wsL_law_r14 ++ (wsL_law_r15 ++ (wsL_law_r16 ++ (wsL_law_r17 ++ (wsL_law_r18 ++ (wsL_law_r19 ++ (wsL_law_r20 ++ (wsL_law_r21 ++ (wsL_law_r22 ++ (wsL_law_r23 ++ (wsL_law_r24 ++ (wsL_law_r25 ++ (wsL_law_r26 ++ (wsL_law_r27 ++ (wsL_law_r28 ++ (wsL_law_r29 ++ (wsL_law_r30 ++ (wsL_law_r31 ++ wsL_law_r32))))))))))))))))))))))))))))))) ++ wsX50 ++ wsX60 ++ wsX40 ++ wsX20 ++ wsX10 ++ wsJ40 ++ ([] : List Cond)
set_option maxRecDepth 20000 in
theorem wsL_law_in : ∀ w ∈ wsL_law, w ∈ lw_tbl := fun w h => (goodIn_p wsL_law [60, 63, 68, 72, 88, 110, 120, 123, 129, 132, 650, 180, 185, 189, 193, 762, 765, 197, 201, 205, 209, 213, 769, 217, 220, 226, 232, 242, 246, 250, 254, 259, 263, 267, 272, 276, 280, 284, 288, 293, 296, 300, 304, 308, 313, 317, 320, 323, 328, 331, 334, 337, 341, 350, 355, 359, 363, 367, 371, 773, 777, 781, 784, 788, 377, 381, 792, 385, 389, 393, 796, 800, 804, 808, 812, 816, 820, 824, 828, 832, 836, 397, 840, 401, 844, 405, 409, 413, 848, 417, 421, 425, 428, 854, 433, 858, 437, 862, 441, 445, 448, 452, 456, 459, 464, 468, 484, 487, 490, 493, 496, 501, 504, 507, 510, 517, 520, 523, 526, 529, 533, 539, 542, 546, 549, 554, 558, 563, 566, 569, 572, 575, 578, 582, 588, 592, 600, 603, 606, 609, 614, 620, 623, 870, 874, 878, 883, 886, 627, 631, 634, 890, 641, 645, 866] (by decide +kernel) (by decide +kernel) w h).1
theorem inX0 : ∀ w ∈ wsX00, w ∈ lw_tbl := by decide +kernel
theorem inlX1 : ∀ w ∈ wsX10, w ∈ wsL_law := fun _ h => List.mem_append_left _ (List.mem_append_left _ (List.mem_append_right _ h))
theorem inX1 : ∀ w ∈ wsX10, w ∈ lw_tbl := fun w h => wsL_law_in w (inlX1 w h)
theorem inlX2 : ∀ w ∈ wsX20, w ∈ wsL_law := fun _ h => List.mem_append_left _ (List.mem_append_left _ (List.mem_append_left _ (List.mem_append_right _ h)))
theorem inX2 : ∀ w ∈ wsX20, w ∈ lw_tbl := fun w h => wsL_law_in w (inlX2 w h)
theorem inX3 : ∀ w ∈ wsX30, w ∈ lw_tbl := by decide +kernel
theorem inlX4 : ∀ w ∈ wsX40, w ∈ wsL_law := fun _ h => List.mem_append_left _ (List.mem_append_left _ (List.mem_append_left _ (List.mem_append_left _ (List.mem_append_right _ h))))
theorem inX4 : ∀ w ∈ wsX40, w ∈ lw_tbl := fun w h => wsL_law_in w (inlX4 w h)
theorem inlX5 : ∀ w ∈ wsX50, w ∈ wsL_law := fun _ h => List.mem_append_left _ (List.mem_append_left _ (List.mem_append_left _ (List.mem_append_left _ (List.mem_append_left _ (List.mem_append_left _ (List.mem_append_right _ h))))))
theorem inX5 : ∀ w ∈ wsX50, w ∈ lw_tbl := fun w h => wsL_law_in w (inlX5 w h)
theorem inlX6 : ∀ w ∈ wsX60, w ∈ wsL_law := fun _ h => List.mem_append_left _ (List.mem_append_left _ (List.mem_append_left _ (List.mem_append_left _ (List.mem_append_left _ (List.mem_append_right _ h)))))
theorem inX6 : ∀ w ∈ wsX60, w ∈ lw_tbl := fun w h => wsL_law_in w (inlX6 w h)
theorem inJx145de : ∀ w ∈ wsJx145de0, w ∈ lw_tbl := by decide +kernel
theorem inJ5 : ∀ w ∈ wsJ50, w ∈ lw_tbl := by decide +kernel
theorem inJx2cfe8 : ∀ w ∈ wsJx2cfe80, w ∈ lw_tbl := by decide +kernel
theorem inJx9f9b0 : ∀ w ∈ wsJx9f9b00, w ∈ lw_tbl := by decide +kernel
theorem inJx8e188 : ∀ w ∈ wsJx8e1880, w ∈ lw_tbl := by decide +kernel
theorem inJxb160c : ∀ w ∈ wsJxb160c0, w ∈ lw_tbl := by decide +kernel
theorem inJx29ce0 : ∀ w ∈ wsJx29ce00, w ∈ lw_tbl := by decide +kernel
theorem inJ6 : ∀ w ∈ wsJ60, w ∈ lw_tbl := by decide +kernel
theorem inJ9 : ∀ w ∈ wsJ90, w ∈ lw_tbl := by decide +kernel
theorem inJxd2413 : ∀ w ∈ wsJxd24130, w ∈ lw_tbl := by decide +kernel
theorem inJ0 : ∀ w ∈ wsJ00, w ∈ lw_tbl := by decide +kernel
theorem inlJ4 : ∀ w ∈ wsJ40, w ∈ wsL_law := fun _ h => List.mem_append_left _ (List.mem_append_right _ h)
theorem inJ4 : ∀ w ∈ wsJ40, w ∈ lw_tbl := fun w h => wsL_law_in w (inlJ4 w h)
theorem inJ1 : ∀ w ∈ wsJ10, w ∈ lw_tbl := by decide +kernel
theorem inJ2 : ∀ w ∈ wsJ20, w ∈ lw_tbl := by decide +kernel
theorem inJ10 : ∀ w ∈ wsJ100, w ∈ lw_tbl := by decide +kernel
theorem inJxfd54e : ∀ w ∈ wsJxfd54e0, w ∈ lw_tbl := by decide +kernel
theorem inJx3cf43 : ∀ w ∈ wsJx3cf430, w ∈ lw_tbl := by decide +kernel
theorem inJ7 : ∀ w ∈ wsJ70, w ∈ lw_tbl := by decide +kernel
theorem inJ8 : ∀ w ∈ wsJ80, w ∈ lw_tbl := by decide +kernel
theorem inJ3 : ∀ w ∈ wsJ30, w ∈ lw_tbl := by decide +kernel
theorem dX1_init_0 : decode cX1_init 0 = .ok (.aload_n 0, 1) := by decide +kernel
theorem dX1_init_1 : decode cX1_init 1 = .ok (.invokespecial 1, 3) := by decide +kernel
theorem dX1_init_4 : decode cX1_init 4 = .ok (.aload_n 0, 1) := by decide +kernel
theorem dX1_init_5 : decode cX1_init 5 = .ok (.bipush 26, 2) := by decide +kernel
theorem dX1_init_7 : decode cX1_init 7 = .ok (.newarray .int, 2) := by decide +kernel
theorem dX1_init_9 : decode cX1_init 9 = .ok (.putfield 7, 3) := by decide +kernel
theorem dX1_init_12 : decode cX1_init 12 = .ok (.return_, 1) := by decide +kernel
theorem dX1_kindFor_0 : decode cX1_kindFor 0 = .ok (.iload_n 0, 1) := by decide +kernel
theorem dX1_kindFor_1 : decode cX1_kindFor 1 = .ok (.bipush 49, 2) := by decide +kernel
theorem dX1_kindFor_3 : decode cX1_kindFor 3 = .ok (.if_icmp .lt 14, 3) := by decide +kernel
theorem dX1_kindFor_6 : decode cX1_kindFor 6 = .ok (.iload_n 0, 1) := by decide +kernel
theorem dX1_kindFor_7 : decode cX1_kindFor 7 = .ok (.bipush 57, 2) := by decide +kernel
theorem dX1_kindFor_9 : decode cX1_kindFor 9 = .ok (.if_icmp .gt 8, 3) := by decide +kernel
theorem dX1_kindFor_12 : decode cX1_kindFor 12 = .ok (.iload_n 0, 1) := by decide +kernel
theorem dX1_kindFor_13 : decode cX1_kindFor 13 = .ok (.bipush 48, 2) := by decide +kernel
theorem dX1_kindFor_15 : decode cX1_kindFor 15 = .ok (.isub, 1) := by decide +kernel
theorem dX1_kindFor_16 : decode cX1_kindFor 16 = .ok (.ireturn, 1) := by decide +kernel
theorem dX1_kindFor_17 : decode cX1_kindFor 17 = .ok (.iload_n 0, 1) := by decide +kernel
theorem dX1_kindFor_18 : decode cX1_kindFor 18 = .ok (.bipush 65, 2) := by decide +kernel
theorem dX1_kindFor_20 : decode cX1_kindFor 20 = .ok (.if_icmp .lt 19, 3) := by decide +kernel
theorem dX1_kindFor_23 : decode cX1_kindFor 23 = .ok (.iload_n 0, 1) := by decide +kernel
theorem dX1_kindFor_24 : decode cX1_kindFor 24 = .ok (.bipush 67, 2) := by decide +kernel
theorem dX1_kindFor_26 : decode cX1_kindFor 26 = .ok (.if_icmp .gt 13, 3) := by decide +kernel
theorem dX1_kindFor_29 : decode cX1_kindFor 29 = .ok (.iload_n 0, 1) := by decide +kernel
theorem dX1_kindFor_30 : decode cX1_kindFor 30 = .ok (.bipush 65, 2) := by decide +kernel
theorem dX1_kindFor_32 : decode cX1_kindFor 32 = .ok (.isub, 1) := by decide +kernel
theorem dX1_kindFor_33 : decode cX1_kindFor 33 = .ok (.bipush 10, 2) := by decide +kernel
theorem dX1_kindFor_35 : decode cX1_kindFor 35 = .ok (.iadd, 1) := by decide +kernel
theorem dX1_kindFor_36 : decode cX1_kindFor 36 = .ok (.goto 4, 3) := by decide +kernel
theorem dX1_kindFor_39 : decode cX1_kindFor 39 = .ok (.iconst 0, 1) := by decide +kernel
theorem dX1_kindFor_40 : decode cX1_kindFor 40 = .ok (.ireturn, 1) := by decide +kernel
set_option maxRecDepth 20000 in
theorem ggX1_forget_J7_fill_53178 : GoodIn wsX1_forget wsJ7_fill_53178 := goodIn_r _ [5] (by decide +kernel) (by decide +kernel)
set_option maxRecDepth 20000 in
theorem gX1_forget_J7_fill_53178 : GoodIn wsX1_forget (va_wsS RX1 13 yJ7_fill_53178 wsJ7_fill_53178) := goodIn_app (goodIn_of _ (by decide +kernel)) ggX1_forget_J7_fill_53178
theorem dX1_forget_0 : decode cX1_forget 0 = .ok (.aload_n 0, 1) := by decide +kernel
theorem dX1_forget_1 : decode cX1_forget 1 = .ok (.getfield 7, 3) := by decide +kernel
theorem dX1_forget_4 : decode cX1_forget 4 = .ok (.iconst (-1), 1) := by decide +kernel
theorem dX1_forget_5 : decode cX1_forget 5 = .ok (.invokestatic 13, 3) := by decide +kernel
theorem dX1_forget_8 : decode cX1_forget 8 = .ok (.return_, 1) := by decide +kernel
set_option maxRecDepth 20000 in
theorem ggX1_agree_X1_meaning : GoodIn wsX1_agree wsX1_meaning := goodIn_r _ [6, 1, 7] (by decide +kernel) (by decide +kernel)
set_option maxRecDepth 20000 in
theorem gX1_agree_X1_meaning : GoodIn wsX1_agree (wsV RX1 19 RX1 yX1_meaning wsX1_meaning) := goodIn_app (goodIn_of _ (by decide +kernel)) ggX1_agree_X1_meaning
theorem dX1_agree_0 : decode cX1_agree 0 = .ok (.iload_n 1, 1) := by decide +kernel
theorem dX1_agree_1 : decode cX1_agree 1 = .ok (.bipush 46, 2) := by decide +kernel
theorem dX1_agree_3 : decode cX1_agree 3 = .ok (.if_icmp .ne 5, 3) := by decide +kernel
theorem dX1_agree_6 : decode cX1_agree 6 = .ok (.iconst 1, 1) := by decide +kernel
theorem dX1_agree_7 : decode cX1_agree 7 = .ok (.ireturn, 1) := by decide +kernel
theorem dX1_agree_8 : decode cX1_agree 8 = .ok (.iload_n 1, 1) := by decide +kernel
theorem dX1_agree_9 : decode cX1_agree 9 = .ok (.bipush 97, 2) := by decide +kernel
theorem dX1_agree_11 : decode cX1_agree 11 = .ok (.if_icmp .lt 32, 3) := by decide +kernel
theorem dX1_agree_14 : decode cX1_agree 14 = .ok (.iload_n 1, 1) := by decide +kernel
theorem dX1_agree_15 : decode cX1_agree 15 = .ok (.bipush 122, 2) := by decide +kernel
theorem dX1_agree_17 : decode cX1_agree 17 = .ok (.if_icmp .gt 26, 3) := by decide +kernel
theorem dX1_agree_20 : decode cX1_agree 20 = .ok (.aload_n 0, 1) := by decide +kernel
theorem dX1_agree_21 : decode cX1_agree 21 = .ok (.getfield 7, 3) := by decide +kernel
theorem dX1_agree_24 : decode cX1_agree 24 = .ok (.iload_n 1, 1) := by decide +kernel
theorem dX1_agree_25 : decode cX1_agree 25 = .ok (.bipush 97, 2) := by decide +kernel
theorem dX1_agree_27 : decode cX1_agree 27 = .ok (.isub, 1) := by decide +kernel
theorem dX1_agree_28 : decode cX1_agree 28 = .ok (.iaload, 1) := by decide +kernel
theorem dX1_agree_29 : decode cX1_agree 29 = .ok (.iconst (-1), 1) := by decide +kernel
theorem dX1_agree_30 : decode cX1_agree 30 = .ok (.if_icmp .ne 13, 3) := by decide +kernel
theorem dX1_agree_33 : decode cX1_agree 33 = .ok (.aload_n 0, 1) := by decide +kernel
theorem dX1_agree_34 : decode cX1_agree 34 = .ok (.getfield 7, 3) := by decide +kernel
theorem dX1_agree_37 : decode cX1_agree 37 = .ok (.iload_n 1, 1) := by decide +kernel
theorem dX1_agree_38 : decode cX1_agree 38 = .ok (.bipush 97, 2) := by decide +kernel
theorem dX1_agree_40 : decode cX1_agree 40 = .ok (.isub, 1) := by decide +kernel
theorem dX1_agree_41 : decode cX1_agree 41 = .ok (.iload_n 2, 1) := by decide +kernel
theorem dX1_agree_42 : decode cX1_agree 42 = .ok (.iastore, 1) := by decide +kernel
theorem dX1_agree_43 : decode cX1_agree 43 = .ok (.aload_n 0, 1) := by decide +kernel
theorem dX1_agree_44 : decode cX1_agree 44 = .ok (.iload_n 1, 1) := by decide +kernel
theorem dX1_agree_45 : decode cX1_agree 45 = .ok (.invokevirtual 19, 3) := by decide +kernel
theorem dX1_agree_48 : decode cX1_agree 48 = .ok (.iload_n 2, 1) := by decide +kernel
theorem dX1_agree_49 : decode cX1_agree 49 = .ok (.if_icmp .ne 7, 3) := by decide +kernel
theorem dX1_agree_52 : decode cX1_agree 52 = .ok (.iconst 1, 1) := by decide +kernel
theorem dX1_agree_53 : decode cX1_agree 53 = .ok (.goto 4, 3) := by decide +kernel
theorem dX1_agree_56 : decode cX1_agree 56 = .ok (.iconst 0, 1) := by decide +kernel
theorem dX1_agree_57 : decode cX1_agree 57 = .ok (.ireturn, 1) := by decide +kernel
theorem dX1_meaning_0 : decode cX1_meaning 0 = .ok (.iload_n 1, 1) := by decide +kernel
theorem dX1_meaning_1 : decode cX1_meaning 1 = .ok (.bipush 97, 2) := by decide +kernel
theorem dX1_meaning_3 : decode cX1_meaning 3 = .ok (.if_icmp .lt 19, 3) := by decide +kernel
theorem dX1_meaning_6 : decode cX1_meaning 6 = .ok (.iload_n 1, 1) := by decide +kernel
theorem dX1_meaning_7 : decode cX1_meaning 7 = .ok (.bipush 122, 2) := by decide +kernel
theorem dX1_meaning_9 : decode cX1_meaning 9 = .ok (.if_icmp .gt 13, 3) := by decide +kernel
theorem dX1_meaning_12 : decode cX1_meaning 12 = .ok (.aload_n 0, 1) := by decide +kernel
theorem dX1_meaning_13 : decode cX1_meaning 13 = .ok (.getfield 7, 3) := by decide +kernel
theorem dX1_meaning_16 : decode cX1_meaning 16 = .ok (.iload_n 1, 1) := by decide +kernel
theorem dX1_meaning_17 : decode cX1_meaning 17 = .ok (.bipush 97, 2) := by decide +kernel
theorem dX1_meaning_19 : decode cX1_meaning 19 = .ok (.isub, 1) := by decide +kernel
theorem dX1_meaning_20 : decode cX1_meaning 20 = .ok (.iaload, 1) := by decide +kernel
theorem dX1_meaning_21 : decode cX1_meaning 21 = .ok (.ireturn, 1) := by decide +kernel
theorem dX1_meaning_22 : decode cX1_meaning 22 = .ok (.iload_n 1, 1) := by decide +kernel
theorem dX1_meaning_23 : decode cX1_meaning 23 = .ok (.bipush 48, 2) := by decide +kernel
theorem dX1_meaning_25 : decode cX1_meaning 25 = .ok (.if_icmp .lt 16, 3) := by decide +kernel
theorem dX1_meaning_28 : decode cX1_meaning 28 = .ok (.iload_n 1, 1) := by decide +kernel
theorem dX1_meaning_29 : decode cX1_meaning 29 = .ok (.bipush 57, 2) := by decide +kernel
theorem dX1_meaning_31 : decode cX1_meaning 31 = .ok (.if_icmp .gt 10, 3) := by decide +kernel
theorem dX1_meaning_34 : decode cX1_meaning 34 = .ok (.iload_n 1, 1) := by decide +kernel
theorem dX1_meaning_35 : decode cX1_meaning 35 = .ok (.bipush 48, 2) := by decide +kernel
theorem dX1_meaning_37 : decode cX1_meaning 37 = .ok (.isub, 1) := by decide +kernel
theorem dX1_meaning_38 : decode cX1_meaning 38 = .ok (.goto 4, 3) := by decide +kernel
theorem dX1_meaning_41 : decode cX1_meaning 41 = .ok (.iconst 0, 1) := by decide +kernel
theorem dX1_meaning_42 : decode cX1_meaning 42 = .ok (.ireturn, 1) := by decide +kernel
theorem dX2_init_0 : decode cX2_init 0 = .ok (.aload_n 0, 1) := by decide +kernel
theorem dX2_init_1 : decode cX2_init 1 = .ok (.invokespecial 3, 3) := by decide +kernel
theorem dX2_init_4 : decode cX2_init 4 = .ok (.aload_n 0, 1) := by decide +kernel
theorem dX2_init_5 : decode cX2_init 5 = .ok (.sipush 301, 3) := by decide +kernel
theorem dX2_init_8 : decode cX2_init 8 = .ok (.newarray .int, 2) := by decide +kernel
theorem dX2_init_10 : decode cX2_init 10 = .ok (.putfield 9, 3) := by decide +kernel
theorem dX2_init_13 : decode cX2_init 13 = .ok (.aload_n 0, 1) := by decide +kernel
theorem dX2_init_14 : decode cX2_init 14 = .ok (.sipush 301, 3) := by decide +kernel
theorem dX2_init_17 : decode cX2_init 17 = .ok (.newarray .int, 2) := by decide +kernel
theorem dX2_init_19 : decode cX2_init 19 = .ok (.putfield 15, 3) := by decide +kernel
theorem dX2_init_22 : decode cX2_init 22 = .ok (.aload_n 0, 1) := by decide +kernel
theorem dX2_init_23 : decode cX2_init 23 = .ok (.sipush 301, 3) := by decide +kernel
theorem dX2_init_26 : decode cX2_init 26 = .ok (.newarray .int, 2) := by decide +kernel
theorem dX2_init_28 : decode cX2_init 28 = .ok (.putfield 18, 3) := by decide +kernel
theorem dX2_init_31 : decode cX2_init 31 = .ok (.aload_n 0, 1) := by decide +kernel
theorem dX2_init_32 : decode cX2_init 32 = .ok (.sipush 903, 3) := by decide +kernel
theorem dX2_init_35 : decode cX2_init 35 = .ok (.newarray .int, 2) := by decide +kernel
theorem dX2_init_37 : decode cX2_init 37 = .ok (.putfield 21, 3) := by decide +kernel
theorem dX2_init_40 : decode cX2_init 40 = .ok (.aload_n 0, 1) := by decide +kernel
theorem dX2_init_41 : decode cX2_init 41 = .ok (.iconst 0, 1) := by decide +kernel
theorem dX2_init_42 : decode cX2_init 42 = .ok (.putfield 24, 3) := by decide +kernel
theorem dX2_init_45 : decode cX2_init 45 = .ok (.return_, 1) := by decide +kernel
theorem dX2_has_0 : decode cX2_has 0 = .ok (.iload_n 1, 1) := by decide +kernel
theorem dX2_has_1 : decode cX2_has 1 = .ok (.iconst 1, 1) := by decide +kernel
theorem dX2_has_2 : decode cX2_has 2 = .ok (.if_icmp .lt 22, 3) := by decide +kernel
theorem dX2_has_5 : decode cX2_has 5 = .ok (.iload_n 1, 1) := by decide +kernel
theorem dX2_has_6 : decode cX2_has 6 = .ok (.aload_n 0, 1) := by decide +kernel
theorem dX2_has_7 : decode cX2_has 7 = .ok (.getfield 24, 3) := by decide +kernel
theorem dX2_has_10 : decode cX2_has 10 = .ok (.if_icmp .gt 14, 3) := by decide +kernel
theorem dX2_has_13 : decode cX2_has 13 = .ok (.iload_n 1, 1) := by decide +kernel
theorem dX2_has_14 : decode cX2_has 14 = .ok (.sipush 300, 3) := by decide +kernel
theorem dX2_has_17 : decode cX2_has 17 = .ok (.if_icmp .gt 7, 3) := by decide +kernel
theorem dX2_has_20 : decode cX2_has 20 = .ok (.iconst 1, 1) := by decide +kernel
theorem dX2_has_21 : decode cX2_has 21 = .ok (.goto 4, 3) := by decide +kernel
theorem dX2_has_24 : decode cX2_has 24 = .ok (.iconst 0, 1) := by decide +kernel
theorem dX2_has_25 : decode cX2_has 25 = .ok (.ireturn, 1) := by decide +kernel
theorem dX2_last_0 : decode cX2_last 0 = .ok (.aload_n 0, 1) := by decide +kernel
theorem dX2_last_1 : decode cX2_last 1 = .ok (.getfield 24, 3) := by decide +kernel
theorem dX2_last_4 : decode cX2_last 4 = .ok (.ireturn, 1) := by decide +kernel
set_option maxRecDepth 20000 in
theorem ggX2_ruleNumber_X2_has : GoodIn wsX2_ruleNumber wsX2_has := goodIn_r _ [6, 7, 8, 9, 10, 11, 12] (by decide +kernel) (by decide +kernel)
set_option maxRecDepth 20000 in
theorem gX2_ruleNumber_X2_has : GoodIn wsX2_ruleNumber (wsV RX2 28 RX2 yX2_has wsX2_has) := goodIn_app (goodIn_of _ (by decide +kernel)) ggX2_ruleNumber_X2_has
theorem dX2_ruleNumber_0 : decode cX2_ruleNumber 0 = .ok (.aload_n 0, 1) := by decide +kernel
theorem dX2_ruleNumber_1 : decode cX2_ruleNumber 1 = .ok (.iload_n 1, 1) := by decide +kernel
theorem dX2_ruleNumber_2 : decode cX2_ruleNumber 2 = .ok (.invokevirtual 28, 3) := by decide +kernel
theorem dX2_ruleNumber_5 : decode cX2_ruleNumber 5 = .ok (.ifCond .eq 12, 3) := by decide +kernel
theorem dX2_ruleNumber_8 : decode cX2_ruleNumber 8 = .ok (.aload_n 0, 1) := by decide +kernel
theorem dX2_ruleNumber_9 : decode cX2_ruleNumber 9 = .ok (.getfield 9, 3) := by decide +kernel
theorem dX2_ruleNumber_12 : decode cX2_ruleNumber 12 = .ok (.iload_n 1, 1) := by decide +kernel
theorem dX2_ruleNumber_13 : decode cX2_ruleNumber 13 = .ok (.iaload, 1) := by decide +kernel
theorem dX2_ruleNumber_14 : decode cX2_ruleNumber 14 = .ok (.goto 4, 3) := by decide +kernel
theorem dX2_ruleNumber_17 : decode cX2_ruleNumber 17 = .ok (.iconst (-1), 1) := by decide +kernel
theorem dX2_ruleNumber_18 : decode cX2_ruleNumber 18 = .ok (.ireturn, 1) := by decide +kernel
set_option maxRecDepth 20000 in
theorem ggX2_instance_X2_has : GoodIn wsX2_instance wsX2_has := goodIn_r _ [6, 7, 8, 9, 10, 11, 12] (by decide +kernel) (by decide +kernel)
set_option maxRecDepth 20000 in
theorem gX2_instance_X2_has : GoodIn wsX2_instance (wsV RX2 28 RX2 yX2_has wsX2_has) := goodIn_app (goodIn_of _ (by decide +kernel)) ggX2_instance_X2_has
theorem dX2_instance_0 : decode cX2_instance 0 = .ok (.aload_n 0, 1) := by decide +kernel
theorem dX2_instance_1 : decode cX2_instance 1 = .ok (.iload_n 1, 1) := by decide +kernel
theorem dX2_instance_2 : decode cX2_instance 2 = .ok (.invokevirtual 28, 3) := by decide +kernel
theorem dX2_instance_5 : decode cX2_instance 5 = .ok (.ifCond .eq 12, 3) := by decide +kernel
theorem dX2_instance_8 : decode cX2_instance 8 = .ok (.aload_n 0, 1) := by decide +kernel
theorem dX2_instance_9 : decode cX2_instance 9 = .ok (.getfield 15, 3) := by decide +kernel
theorem dX2_instance_12 : decode cX2_instance 12 = .ok (.iload_n 1, 1) := by decide +kernel
theorem dX2_instance_13 : decode cX2_instance 13 = .ok (.iaload, 1) := by decide +kernel
theorem dX2_instance_14 : decode cX2_instance 14 = .ok (.goto 4, 3) := by decide +kernel
theorem dX2_instance_17 : decode cX2_instance 17 = .ok (.iconst 0, 1) := by decide +kernel
theorem dX2_instance_18 : decode cX2_instance 18 = .ok (.ireturn, 1) := by decide +kernel
set_option maxRecDepth 20000 in
theorem ggX2_premiseCount_X2_has : GoodIn wsX2_premiseCount wsX2_has := goodIn_r _ [6, 7, 8, 9, 10, 11, 12] (by decide +kernel) (by decide +kernel)
set_option maxRecDepth 20000 in
theorem gX2_premiseCount_X2_has : GoodIn wsX2_premiseCount (wsV RX2 28 RX2 yX2_has wsX2_has) := goodIn_app (goodIn_of _ (by decide +kernel)) ggX2_premiseCount_X2_has
theorem dX2_premiseCount_0 : decode cX2_premiseCount 0 = .ok (.aload_n 0, 1) := by decide +kernel
theorem dX2_premiseCount_1 : decode cX2_premiseCount 1 = .ok (.iload_n 1, 1) := by decide +kernel
theorem dX2_premiseCount_2 : decode cX2_premiseCount 2 = .ok (.invokevirtual 28, 3) := by decide +kernel
theorem dX2_premiseCount_5 : decode cX2_premiseCount 5 = .ok (.ifCond .eq 12, 3) := by decide +kernel
theorem dX2_premiseCount_8 : decode cX2_premiseCount 8 = .ok (.aload_n 0, 1) := by decide +kernel
theorem dX2_premiseCount_9 : decode cX2_premiseCount 9 = .ok (.getfield 18, 3) := by decide +kernel
theorem dX2_premiseCount_12 : decode cX2_premiseCount 12 = .ok (.iload_n 1, 1) := by decide +kernel
theorem dX2_premiseCount_13 : decode cX2_premiseCount 13 = .ok (.iaload, 1) := by decide +kernel
theorem dX2_premiseCount_14 : decode cX2_premiseCount 14 = .ok (.goto 4, 3) := by decide +kernel
theorem dX2_premiseCount_17 : decode cX2_premiseCount 17 = .ok (.iconst 0, 1) := by decide +kernel
theorem dX2_premiseCount_18 : decode cX2_premiseCount 18 = .ok (.ireturn, 1) := by decide +kernel
set_option maxRecDepth 20000 in
theorem ggX2_premiseAt_X2_premiseCount : GoodIn wsX2_premiseAt wsX2_premiseCount := goodIn_r _ [6, 7, 8, 9, 10, 5, 11, 12, 13, 14, 15, 16, 17] (by decide +kernel) (by decide +kernel)
set_option maxRecDepth 20000 in
theorem gX2_premiseAt_X2_premiseCount : GoodIn wsX2_premiseAt (wsV RX2 32 RX2 yX2_premiseCount wsX2_premiseCount) := goodIn_app (goodIn_of _ (by decide +kernel)) ggX2_premiseAt_X2_premiseCount
theorem dX2_premiseAt_0 : decode cX2_premiseAt 0 = .ok (.iload_n 2, 1) := by decide +kernel
theorem dX2_premiseAt_1 : decode cX2_premiseAt 1 = .ok (.ifCond .lt 21, 3) := by decide +kernel
theorem dX2_premiseAt_4 : decode cX2_premiseAt 4 = .ok (.iload_n 2, 1) := by decide +kernel
theorem dX2_premiseAt_5 : decode cX2_premiseAt 5 = .ok (.iconst 3, 1) := by decide +kernel
theorem dX2_premiseAt_6 : decode cX2_premiseAt 6 = .ok (.if_icmp .ge 16, 3) := by decide +kernel
theorem dX2_premiseAt_9 : decode cX2_premiseAt 9 = .ok (.iload_n 2, 1) := by decide +kernel
theorem dX2_premiseAt_10 : decode cX2_premiseAt 10 = .ok (.aload_n 0, 1) := by decide +kernel
theorem dX2_premiseAt_11 : decode cX2_premiseAt 11 = .ok (.iload_n 1, 1) := by decide +kernel
theorem dX2_premiseAt_12 : decode cX2_premiseAt 12 = .ok (.invokevirtual 32, 3) := by decide +kernel
theorem dX2_premiseAt_15 : decode cX2_premiseAt 15 = .ok (.if_icmp .ge 7, 3) := by decide +kernel
theorem dX2_premiseAt_18 : decode cX2_premiseAt 18 = .ok (.iconst 1, 1) := by decide +kernel
theorem dX2_premiseAt_19 : decode cX2_premiseAt 19 = .ok (.goto 4, 3) := by decide +kernel
theorem dX2_premiseAt_22 : decode cX2_premiseAt 22 = .ok (.iconst 0, 1) := by decide +kernel
theorem dX2_premiseAt_23 : decode cX2_premiseAt 23 = .ok (.istore_n 3, 1) := by decide +kernel
theorem dX2_premiseAt_24 : decode cX2_premiseAt 24 = .ok (.iload_n 3, 1) := by decide +kernel
theorem dX2_premiseAt_25 : decode cX2_premiseAt 25 = .ok (.ifCond .eq 16, 3) := by decide +kernel
theorem dX2_premiseAt_28 : decode cX2_premiseAt 28 = .ok (.aload_n 0, 1) := by decide +kernel
theorem dX2_premiseAt_29 : decode cX2_premiseAt 29 = .ok (.getfield 21, 3) := by decide +kernel
theorem dX2_premiseAt_32 : decode cX2_premiseAt 32 = .ok (.iload_n 1, 1) := by decide +kernel
theorem dX2_premiseAt_33 : decode cX2_premiseAt 33 = .ok (.iconst 3, 1) := by decide +kernel
theorem dX2_premiseAt_34 : decode cX2_premiseAt 34 = .ok (.imul, 1) := by decide +kernel
theorem dX2_premiseAt_35 : decode cX2_premiseAt 35 = .ok (.iload_n 2, 1) := by decide +kernel
theorem dX2_premiseAt_36 : decode cX2_premiseAt 36 = .ok (.iadd, 1) := by decide +kernel
theorem dX2_premiseAt_37 : decode cX2_premiseAt 37 = .ok (.iaload, 1) := by decide +kernel
theorem dX2_premiseAt_38 : decode cX2_premiseAt 38 = .ok (.goto 4, 3) := by decide +kernel
theorem dX2_premiseAt_41 : decode cX2_premiseAt 41 = .ok (.iconst 0, 1) := by decide +kernel
theorem dX2_premiseAt_42 : decode cX2_premiseAt 42 = .ok (.ireturn, 1) := by decide +kernel
theorem dX2_lay_0 : decode cX2_lay 0 = .ok (.aload_n 0, 1) := by decide +kernel
theorem dX2_lay_1 : decode cX2_lay 1 = .ok (.getfield 24, 3) := by decide +kernel
theorem dX2_lay_4 : decode cX2_lay 4 = .ok (.sipush 300, 3) := by decide +kernel
theorem dX2_lay_7 : decode cX2_lay 7 = .ok (.if_icmp .lt 5, 3) := by decide +kernel
theorem dX2_lay_10 : decode cX2_lay 10 = .ok (.iconst 0, 1) := by decide +kernel
theorem dX2_lay_11 : decode cX2_lay 11 = .ok (.ireturn, 1) := by decide +kernel
theorem dX2_lay_12 : decode cX2_lay 12 = .ok (.aload_n 0, 1) := by decide +kernel
theorem dX2_lay_13 : decode cX2_lay 13 = .ok (.dup, 1) := by decide +kernel
theorem dX2_lay_14 : decode cX2_lay 14 = .ok (.getfield 24, 3) := by decide +kernel
theorem dX2_lay_17 : decode cX2_lay 17 = .ok (.iconst 1, 1) := by decide +kernel
theorem dX2_lay_18 : decode cX2_lay 18 = .ok (.iadd, 1) := by decide +kernel
theorem dX2_lay_19 : decode cX2_lay 19 = .ok (.putfield 24, 3) := by decide +kernel
theorem dX2_lay_22 : decode cX2_lay 22 = .ok (.aload_n 0, 1) := by decide +kernel
theorem dX2_lay_23 : decode cX2_lay 23 = .ok (.getfield 9, 3) := by decide +kernel
theorem dX2_lay_26 : decode cX2_lay 26 = .ok (.aload_n 0, 1) := by decide +kernel
theorem dX2_lay_27 : decode cX2_lay 27 = .ok (.getfield 24, 3) := by decide +kernel
theorem dX2_lay_30 : decode cX2_lay 30 = .ok (.iload_n 1, 1) := by decide +kernel
theorem dX2_lay_31 : decode cX2_lay 31 = .ok (.iastore, 1) := by decide +kernel
theorem dX2_lay_32 : decode cX2_lay 32 = .ok (.aload_n 0, 1) := by decide +kernel
theorem dX2_lay_33 : decode cX2_lay 33 = .ok (.getfield 15, 3) := by decide +kernel
theorem dX2_lay_36 : decode cX2_lay 36 = .ok (.aload_n 0, 1) := by decide +kernel
theorem dX2_lay_37 : decode cX2_lay 37 = .ok (.getfield 24, 3) := by decide +kernel
theorem dX2_lay_40 : decode cX2_lay 40 = .ok (.iload_n 2, 1) := by decide +kernel
theorem dX2_lay_41 : decode cX2_lay 41 = .ok (.iastore, 1) := by decide +kernel
theorem dX2_lay_42 : decode cX2_lay 42 = .ok (.aload_n 0, 1) := by decide +kernel
theorem dX2_lay_43 : decode cX2_lay 43 = .ok (.getfield 18, 3) := by decide +kernel
theorem dX2_lay_46 : decode cX2_lay 46 = .ok (.aload_n 0, 1) := by decide +kernel
theorem dX2_lay_47 : decode cX2_lay 47 = .ok (.getfield 24, 3) := by decide +kernel
theorem dX2_lay_50 : decode cX2_lay 50 = .ok (.iconst 0, 1) := by decide +kernel
theorem dX2_lay_51 : decode cX2_lay 51 = .ok (.iastore, 1) := by decide +kernel
theorem dX2_lay_52 : decode cX2_lay 52 = .ok (.aload_n 0, 1) := by decide +kernel
theorem dX2_lay_53 : decode cX2_lay 53 = .ok (.getfield 24, 3) := by decide +kernel
theorem dX2_lay_56 : decode cX2_lay 56 = .ok (.ireturn, 1) := by decide +kernel
set_option maxRecDepth 20000 in
theorem ggX2_addPremise_X2_premiseCount : GoodIn wsX2_addPremise wsX2_premiseCount := goodIn_r _ [7, 2, 8, 9, 10, 6, 11, 12, 13, 14, 15, 16, 17] (by decide +kernel) (by decide +kernel)
set_option maxRecDepth 20000 in
theorem gX2_addPremise_X2_premiseCount : GoodIn wsX2_addPremise (wsV RX2 32 RX2 yX2_premiseCount wsX2_premiseCount) := goodIn_app (goodIn_of _ (by decide +kernel)) ggX2_addPremise_X2_premiseCount
set_option maxRecDepth 20000 in
theorem ggX2_addPremise_X2_has : GoodIn wsX2_addPremise wsX2_has := goodIn_r _ [11, 12, 13, 14, 15, 16, 17] (by decide +kernel) (by decide +kernel)
set_option maxRecDepth 20000 in
theorem gX2_addPremise_X2_has : GoodIn wsX2_addPremise (wsV RX2 28 RX2 yX2_has wsX2_has) := goodIn_app (goodIn_of _ (by decide +kernel)) ggX2_addPremise_X2_has
theorem dX2_addPremise_0 : decode cX2_addPremise 0 = .ok (.aload_n 0, 1) := by decide +kernel
theorem dX2_addPremise_1 : decode cX2_addPremise 1 = .ok (.iload_n 1, 1) := by decide +kernel
theorem dX2_addPremise_2 : decode cX2_addPremise 2 = .ok (.invokevirtual 32, 3) := by decide +kernel
theorem dX2_addPremise_5 : decode cX2_addPremise 5 = .ok (.istore_n 3, 1) := by decide +kernel
theorem dX2_addPremise_6 : decode cX2_addPremise 6 = .ok (.aload_n 0, 1) := by decide +kernel
theorem dX2_addPremise_7 : decode cX2_addPremise 7 = .ok (.iload_n 1, 1) := by decide +kernel
theorem dX2_addPremise_8 : decode cX2_addPremise 8 = .ok (.invokevirtual 28, 3) := by decide +kernel
theorem dX2_addPremise_11 : decode cX2_addPremise 11 = .ok (.ifCond .eq 28, 3) := by decide +kernel
theorem dX2_addPremise_14 : decode cX2_addPremise 14 = .ok (.iload_n 3, 1) := by decide +kernel
theorem dX2_addPremise_15 : decode cX2_addPremise 15 = .ok (.iconst 3, 1) := by decide +kernel
theorem dX2_addPremise_16 : decode cX2_addPremise 16 = .ok (.if_icmp .ge 23, 3) := by decide +kernel
theorem dX2_addPremise_19 : decode cX2_addPremise 19 = .ok (.aload_n 0, 1) := by decide +kernel
theorem dX2_addPremise_20 : decode cX2_addPremise 20 = .ok (.getfield 21, 3) := by decide +kernel
theorem dX2_addPremise_23 : decode cX2_addPremise 23 = .ok (.iload_n 1, 1) := by decide +kernel
theorem dX2_addPremise_24 : decode cX2_addPremise 24 = .ok (.iconst 3, 1) := by decide +kernel
theorem dX2_addPremise_25 : decode cX2_addPremise 25 = .ok (.imul, 1) := by decide +kernel
theorem dX2_addPremise_26 : decode cX2_addPremise 26 = .ok (.iload_n 3, 1) := by decide +kernel
theorem dX2_addPremise_27 : decode cX2_addPremise 27 = .ok (.iadd, 1) := by decide +kernel
theorem dX2_addPremise_28 : decode cX2_addPremise 28 = .ok (.iload_n 2, 1) := by decide +kernel
theorem dX2_addPremise_29 : decode cX2_addPremise 29 = .ok (.iastore, 1) := by decide +kernel
theorem dX2_addPremise_30 : decode cX2_addPremise 30 = .ok (.aload_n 0, 1) := by decide +kernel
theorem dX2_addPremise_31 : decode cX2_addPremise 31 = .ok (.getfield 18, 3) := by decide +kernel
theorem dX2_addPremise_34 : decode cX2_addPremise 34 = .ok (.iload_n 1, 1) := by decide +kernel
theorem dX2_addPremise_35 : decode cX2_addPremise 35 = .ok (.iload_n 3, 1) := by decide +kernel
theorem dX2_addPremise_36 : decode cX2_addPremise 36 = .ok (.iconst 1, 1) := by decide +kernel
theorem dX2_addPremise_37 : decode cX2_addPremise 37 = .ok (.iadd, 1) := by decide +kernel
theorem dX2_addPremise_38 : decode cX2_addPremise 38 = .ok (.iastore, 1) := by decide +kernel
theorem dX2_addPremise_39 : decode cX2_addPremise 39 = .ok (.return_, 1) := by decide +kernel
set_option maxRecDepth 20000 in
theorem ggX2_move_X2_has : GoodIn wsX2_move wsX2_has := goodIn_r _ [9, 10, 15, 16, 17, 18, 19] (by decide +kernel) (by decide +kernel)
set_option maxRecDepth 20000 in
theorem gX2_move_X2_has : GoodIn wsX2_move (wsV RX2 28 RX2 yX2_has wsX2_has) := goodIn_app (goodIn_of _ (by decide +kernel)) ggX2_move_X2_has
set_option maxRecDepth 20000 in
theorem ggX2_move_X2_premiseCount : GoodIn wsX2_move wsX2_premiseCount := goodIn_r _ [14, 4, 5, 6, 7, 8, 9, 10, 15, 16, 17, 18, 19] (by decide +kernel) (by decide +kernel)
set_option maxRecDepth 20000 in
theorem gX2_move_X2_premiseCount : GoodIn wsX2_move (wsV RX2 32 RX2 yX2_premiseCount wsX2_premiseCount) := goodIn_app (goodIn_of _ (by decide +kernel)) ggX2_move_X2_premiseCount
theorem dX2_move_0 : decode cX2_move 0 = .ok (.aload_n 0, 1) := by decide +kernel
theorem dX2_move_1 : decode cX2_move 1 = .ok (.iload_n 1, 1) := by decide +kernel
theorem dX2_move_2 : decode cX2_move 2 = .ok (.invokevirtual 28, 3) := by decide +kernel
theorem dX2_move_5 : decode cX2_move 5 = .ok (.ifCond .eq 11, 3) := by decide +kernel
theorem dX2_move_8 : decode cX2_move 8 = .ok (.aload_n 0, 1) := by decide +kernel
theorem dX2_move_9 : decode cX2_move 9 = .ok (.iload_n 2, 1) := by decide +kernel
theorem dX2_move_10 : decode cX2_move 10 = .ok (.invokevirtual 28, 3) := by decide +kernel
theorem dX2_move_13 : decode cX2_move 13 = .ok (.ifCond .ne 4, 3) := by decide +kernel
theorem dX2_move_16 : decode cX2_move 16 = .ok (.return_, 1) := by decide +kernel
theorem dX2_move_17 : decode cX2_move 17 = .ok (.aload_n 0, 1) := by decide +kernel
theorem dX2_move_18 : decode cX2_move 18 = .ok (.iload_n 1, 1) := by decide +kernel
theorem dX2_move_19 : decode cX2_move 19 = .ok (.invokevirtual 32, 3) := by decide +kernel
theorem dX2_move_22 : decode cX2_move 22 = .ok (.istore 4, 2) := by decide +kernel
theorem dX2_move_24 : decode cX2_move 24 = .ok (.iconst 0, 1) := by decide +kernel
theorem dX2_move_25 : decode cX2_move 25 = .ok (.istore 5, 2) := by decide +kernel
theorem dX2_move_27 : decode cX2_move 27 = .ok (.iload 5, 2) := by decide +kernel
theorem dX2_move_29 : decode cX2_move 29 = .ok (.iload 4, 2) := by decide +kernel
theorem dX2_move_31 : decode cX2_move 31 = .ok (.if_icmp .ge 65, 3) := by decide +kernel
theorem dX2_move_34 : decode cX2_move 34 = .ok (.aload_n 0, 1) := by decide +kernel
theorem dX2_move_35 : decode cX2_move 35 = .ok (.getfield 21, 3) := by decide +kernel
theorem dX2_move_38 : decode cX2_move 38 = .ok (.iload_n 1, 1) := by decide +kernel
theorem dX2_move_39 : decode cX2_move 39 = .ok (.iconst 3, 1) := by decide +kernel
theorem dX2_move_40 : decode cX2_move 40 = .ok (.imul, 1) := by decide +kernel
theorem dX2_move_41 : decode cX2_move 41 = .ok (.iload 5, 2) := by decide +kernel
theorem dX2_move_43 : decode cX2_move 43 = .ok (.iadd, 1) := by decide +kernel
theorem dX2_move_44 : decode cX2_move 44 = .ok (.iaload, 1) := by decide +kernel
theorem dX2_move_45 : decode cX2_move 45 = .ok (.istore 6, 2) := by decide +kernel
theorem dX2_move_47 : decode cX2_move 47 = .ok (.iload 6, 2) := by decide +kernel
theorem dX2_move_49 : decode cX2_move 49 = .ok (.ifCond .lt 14, 3) := by decide +kernel
theorem dX2_move_52 : decode cX2_move 52 = .ok (.iload 6, 2) := by decide +kernel
theorem dX2_move_54 : decode cX2_move 54 = .ok (.aload_n 3, 1) := by decide +kernel
theorem dX2_move_55 : decode cX2_move 55 = .ok (.arraylength, 1) := by decide +kernel
theorem dX2_move_56 : decode cX2_move 56 = .ok (.if_icmp .ge 7, 3) := by decide +kernel
theorem dX2_move_59 : decode cX2_move 59 = .ok (.iconst 1, 1) := by decide +kernel
theorem dX2_move_60 : decode cX2_move 60 = .ok (.goto 4, 3) := by decide +kernel
theorem dX2_move_63 : decode cX2_move 63 = .ok (.iconst 0, 1) := by decide +kernel
theorem dX2_move_64 : decode cX2_move 64 = .ok (.istore 7, 2) := by decide +kernel
theorem dX2_move_66 : decode cX2_move 66 = .ok (.aload_n 0, 1) := by decide +kernel
theorem dX2_move_67 : decode cX2_move 67 = .ok (.getfield 21, 3) := by decide +kernel
theorem dX2_move_70 : decode cX2_move 70 = .ok (.iload_n 2, 1) := by decide +kernel
theorem dX2_move_71 : decode cX2_move 71 = .ok (.iconst 3, 1) := by decide +kernel
theorem dX2_move_72 : decode cX2_move 72 = .ok (.imul, 1) := by decide +kernel
theorem dX2_move_73 : decode cX2_move 73 = .ok (.iload 5, 2) := by decide +kernel
theorem dX2_move_75 : decode cX2_move 75 = .ok (.iadd, 1) := by decide +kernel
theorem dX2_move_76 : decode cX2_move 76 = .ok (.iload 7, 2) := by decide +kernel
theorem dX2_move_78 : decode cX2_move 78 = .ok (.ifCond .eq 10, 3) := by decide +kernel
theorem dX2_move_81 : decode cX2_move 81 = .ok (.aload_n 3, 1) := by decide +kernel
theorem dX2_move_82 : decode cX2_move 82 = .ok (.iload 6, 2) := by decide +kernel
theorem dX2_move_84 : decode cX2_move 84 = .ok (.iaload, 1) := by decide +kernel
theorem dX2_move_85 : decode cX2_move 85 = .ok (.goto 4, 3) := by decide +kernel
theorem dX2_move_88 : decode cX2_move 88 = .ok (.iconst 0, 1) := by decide +kernel
theorem dX2_move_89 : decode cX2_move 89 = .ok (.iastore, 1) := by decide +kernel
theorem dX2_move_90 : decode cX2_move 90 = .ok (.iinc 5 1, 3) := by decide +kernel
theorem dX2_move_93 : decode cX2_move 93 = .ok (.goto (-66), 3) := by decide +kernel
theorem dX2_move_96 : decode cX2_move 96 = .ok (.aload_n 0, 1) := by decide +kernel
theorem dX2_move_97 : decode cX2_move 97 = .ok (.getfield 9, 3) := by decide +kernel
theorem dX2_move_100 : decode cX2_move 100 = .ok (.iload_n 2, 1) := by decide +kernel
theorem dX2_move_101 : decode cX2_move 101 = .ok (.aload_n 0, 1) := by decide +kernel
theorem dX2_move_102 : decode cX2_move 102 = .ok (.getfield 9, 3) := by decide +kernel
theorem dX2_move_105 : decode cX2_move 105 = .ok (.iload_n 1, 1) := by decide +kernel
theorem dX2_move_106 : decode cX2_move 106 = .ok (.iaload, 1) := by decide +kernel
theorem dX2_move_107 : decode cX2_move 107 = .ok (.iastore, 1) := by decide +kernel
theorem dX2_move_108 : decode cX2_move 108 = .ok (.aload_n 0, 1) := by decide +kernel
theorem dX2_move_109 : decode cX2_move 109 = .ok (.getfield 15, 3) := by decide +kernel
theorem dX2_move_112 : decode cX2_move 112 = .ok (.iload_n 2, 1) := by decide +kernel
theorem dX2_move_113 : decode cX2_move 113 = .ok (.aload_n 0, 1) := by decide +kernel
theorem dX2_move_114 : decode cX2_move 114 = .ok (.getfield 15, 3) := by decide +kernel
theorem dX2_move_117 : decode cX2_move 117 = .ok (.iload_n 1, 1) := by decide +kernel
theorem dX2_move_118 : decode cX2_move 118 = .ok (.iaload, 1) := by decide +kernel
theorem dX2_move_119 : decode cX2_move 119 = .ok (.iastore, 1) := by decide +kernel
theorem dX2_move_120 : decode cX2_move 120 = .ok (.aload_n 0, 1) := by decide +kernel
theorem dX2_move_121 : decode cX2_move 121 = .ok (.getfield 18, 3) := by decide +kernel
theorem dX2_move_124 : decode cX2_move 124 = .ok (.iload_n 2, 1) := by decide +kernel
theorem dX2_move_125 : decode cX2_move 125 = .ok (.iload 4, 2) := by decide +kernel
theorem dX2_move_127 : decode cX2_move 127 = .ok (.iastore, 1) := by decide +kernel
theorem dX2_move_128 : decode cX2_move 128 = .ok (.return_, 1) := by decide +kernel
theorem dX2_keepOnly_0 : decode cX2_keepOnly 0 = .ok (.aload_n 0, 1) := by decide +kernel
theorem dX2_keepOnly_1 : decode cX2_keepOnly 1 = .ok (.iconst 0, 1) := by decide +kernel
theorem dX2_keepOnly_2 : decode cX2_keepOnly 2 = .ok (.iload_n 1, 1) := by decide +kernel
theorem dX2_keepOnly_3 : decode cX2_keepOnly 3 = .ok (.aload_n 0, 1) := by decide +kernel
theorem dX2_keepOnly_4 : decode cX2_keepOnly 4 = .ok (.getfield 24, 3) := by decide +kernel
theorem dX2_keepOnly_7 : decode cX2_keepOnly 7 = .ok (.invokestatic 36, 3) := by decide +kernel
theorem dX2_keepOnly_10 : decode cX2_keepOnly 10 = .ok (.invokestatic 42, 3) := by decide +kernel
theorem dX2_keepOnly_13 : decode cX2_keepOnly 13 = .ok (.putfield 24, 3) := by decide +kernel
theorem dX2_keepOnly_16 : decode cX2_keepOnly 16 = .ok (.return_, 1) := by decide +kernel
set_option maxRecDepth 20000 in
theorem ggX3_takes_J0_length_8abf5 : GoodIn wsX3_takes wsJ0_length_8abf5 := goodIn_r _ [6, 7, 8, 9, 10, 5, 11, 12, 13] (by decide +kernel) (by decide +kernel)
set_option maxRecDepth 20000 in
theorem gX3_takes_J0_length_8abf5 : GoodIn wsX3_takes (wsV RX3 87 RJ0 yJ0_length_8abf5 wsJ0_length_8abf5) := goodIn_app (goodIn_of _ (by decide +kernel)) ggX3_takes_J0_length_8abf5
theorem dX3_takes_0 : decode cX3_takes 0 = .ok (.aload_n 0, 1) := by decide +kernel
theorem dX3_takes_1 : decode cX3_takes 1 = .ok (.getfield 81, 3) := by decide +kernel
theorem dX3_takes_4 : decode cX3_takes 4 = .ok (.invokevirtual 87, 3) := by decide +kernel
theorem dX3_takes_7 : decode cX3_takes 7 = .ok (.iconst 4, 1) := by decide +kernel
theorem dX3_takes_8 : decode cX3_takes 8 = .ok (.idiv, 1) := by decide +kernel
theorem dX3_takes_9 : decode cX3_takes 9 = .ok (.ireturn, 1) := by decide +kernel
theorem dX4_init_0 : decode cX4_init 0 = .ok (.aload_n 0, 1) := by decide +kernel
theorem dX4_init_1 : decode cX4_init 1 = .ok (.invokespecial 3, 3) := by decide +kernel
theorem dX4_init_4 : decode cX4_init 4 = .ok (.iload_n 1, 1) := by decide +kernel
theorem dX4_init_5 : decode cX4_init 5 = .ok (.iconst 0, 1) := by decide +kernel
theorem dX4_init_6 : decode cX4_init 6 = .ok (.invokestatic 9, 3) := by decide +kernel
theorem dX4_init_9 : decode cX4_init 9 = .ok (.iconst 1, 1) := by decide +kernel
theorem dX4_init_10 : decode cX4_init 10 = .ok (.iadd, 1) := by decide +kernel
theorem dX4_init_11 : decode cX4_init 11 = .ok (.istore_n 2, 1) := by decide +kernel
theorem dX4_init_12 : decode cX4_init 12 = .ok (.aload_n 0, 1) := by decide +kernel
theorem dX4_init_13 : decode cX4_init 13 = .ok (.iload_n 2, 1) := by decide +kernel
theorem dX4_init_14 : decode cX4_init 14 = .ok (.newarray .int, 2) := by decide +kernel
theorem dX4_init_16 : decode cX4_init 16 = .ok (.putfield 15, 3) := by decide +kernel
theorem dX4_init_19 : decode cX4_init 19 = .ok (.aload_n 0, 1) := by decide +kernel
theorem dX4_init_20 : decode cX4_init 20 = .ok (.iload_n 2, 1) := by decide +kernel
theorem dX4_init_21 : decode cX4_init 21 = .ok (.iconst 3, 1) := by decide +kernel
theorem dX4_init_22 : decode cX4_init 22 = .ok (.imul, 1) := by decide +kernel
theorem dX4_init_23 : decode cX4_init 23 = .ok (.newarray .int, 2) := by decide +kernel
theorem dX4_init_25 : decode cX4_init 25 = .ok (.putfield 21, 3) := by decide +kernel
theorem dX4_init_28 : decode cX4_init 28 = .ok (.aload_n 0, 1) := by decide +kernel
theorem dX4_init_29 : decode cX4_init 29 = .ok (.iconst 0, 1) := by decide +kernel
theorem dX4_init_30 : decode cX4_init 30 = .ok (.putfield 24, 3) := by decide +kernel
theorem dX4_init_33 : decode cX4_init 33 = .ok (.return_, 1) := by decide +kernel
set_option maxRecDepth 20000 in
theorem ggX4_has_X4_kind : GoodIn wsX4_has wsX4_kind := goodIn_r _ [5, 6, 7, 8, 9] (by decide +kernel) (by decide +kernel)
set_option maxRecDepth 20000 in
theorem gX4_has_X4_kind : GoodIn wsX4_has (wsV RX4 28 RX4 yX4_kind wsX4_kind) := goodIn_app (goodIn_of _ (by decide +kernel)) ggX4_has_X4_kind
theorem dX4_has_0 : decode cX4_has 0 = .ok (.aload_n 0, 1) := by decide +kernel
theorem dX4_has_1 : decode cX4_has 1 = .ok (.iload_n 1, 1) := by decide +kernel
theorem dX4_has_2 : decode cX4_has 2 = .ok (.invokevirtual 28, 3) := by decide +kernel
theorem dX4_has_5 : decode cX4_has 5 = .ok (.ifCond .eq 7, 3) := by decide +kernel
theorem dX4_has_8 : decode cX4_has 8 = .ok (.iconst 1, 1) := by decide +kernel
theorem dX4_has_9 : decode cX4_has 9 = .ok (.goto 4, 3) := by decide +kernel
theorem dX4_has_12 : decode cX4_has 12 = .ok (.iconst 0, 1) := by decide +kernel
theorem dX4_has_13 : decode cX4_has 13 = .ok (.ireturn, 1) := by decide +kernel
theorem dX4_kind_0 : decode cX4_kind 0 = .ok (.iload_n 1, 1) := by decide +kernel
theorem dX4_kind_1 : decode cX4_kind 1 = .ok (.iconst 1, 1) := by decide +kernel
theorem dX4_kind_2 : decode cX4_kind 2 = .ok (.if_icmp .lt 21, 3) := by decide +kernel
theorem dX4_kind_5 : decode cX4_kind 5 = .ok (.iload_n 1, 1) := by decide +kernel
theorem dX4_kind_6 : decode cX4_kind 6 = .ok (.aload_n 0, 1) := by decide +kernel
theorem dX4_kind_7 : decode cX4_kind 7 = .ok (.getfield 15, 3) := by decide +kernel
theorem dX4_kind_10 : decode cX4_kind 10 = .ok (.arraylength, 1) := by decide +kernel
theorem dX4_kind_11 : decode cX4_kind 11 = .ok (.if_icmp .ge 12, 3) := by decide +kernel
theorem dX4_kind_14 : decode cX4_kind 14 = .ok (.aload_n 0, 1) := by decide +kernel
theorem dX4_kind_15 : decode cX4_kind 15 = .ok (.getfield 15, 3) := by decide +kernel
theorem dX4_kind_18 : decode cX4_kind 18 = .ok (.iload_n 1, 1) := by decide +kernel
theorem dX4_kind_19 : decode cX4_kind 19 = .ok (.iaload, 1) := by decide +kernel
theorem dX4_kind_20 : decode cX4_kind 20 = .ok (.goto 4, 3) := by decide +kernel
theorem dX4_kind_23 : decode cX4_kind 23 = .ok (.iconst 0, 1) := by decide +kernel
theorem dX4_kind_24 : decode cX4_kind 24 = .ok (.ireturn, 1) := by decide +kernel
theorem dX4_number_0 : decode cX4_number 0 = .ok (.iload_n 1, 1) := by decide +kernel
theorem dX4_number_1 : decode cX4_number 1 = .ok (.iconst 1, 1) := by decide +kernel
theorem dX4_number_2 : decode cX4_number 2 = .ok (.if_icmp .lt 26, 3) := by decide +kernel
theorem dX4_number_5 : decode cX4_number 5 = .ok (.iload_n 1, 1) := by decide +kernel
theorem dX4_number_6 : decode cX4_number 6 = .ok (.aload_n 0, 1) := by decide +kernel
theorem dX4_number_7 : decode cX4_number 7 = .ok (.getfield 15, 3) := by decide +kernel
theorem dX4_number_10 : decode cX4_number 10 = .ok (.arraylength, 1) := by decide +kernel
theorem dX4_number_11 : decode cX4_number 11 = .ok (.if_icmp .ge 17, 3) := by decide +kernel
theorem dX4_number_14 : decode cX4_number 14 = .ok (.iload_n 2, 1) := by decide +kernel
theorem dX4_number_15 : decode cX4_number 15 = .ok (.iconst 1, 1) := by decide +kernel
theorem dX4_number_16 : decode cX4_number 16 = .ok (.if_icmp .lt 12, 3) := by decide +kernel
theorem dX4_number_19 : decode cX4_number 19 = .ok (.iload_n 2, 1) := by decide +kernel
theorem dX4_number_20 : decode cX4_number 20 = .ok (.iconst 3, 1) := by decide +kernel
theorem dX4_number_21 : decode cX4_number 21 = .ok (.if_icmp .gt 7, 3) := by decide +kernel
theorem dX4_number_24 : decode cX4_number 24 = .ok (.iconst 1, 1) := by decide +kernel
theorem dX4_number_25 : decode cX4_number 25 = .ok (.goto 4, 3) := by decide +kernel
theorem dX4_number_28 : decode cX4_number 28 = .ok (.iconst 0, 1) := by decide +kernel
theorem dX4_number_29 : decode cX4_number 29 = .ok (.istore_n 3, 1) := by decide +kernel
theorem dX4_number_30 : decode cX4_number 30 = .ok (.iload_n 3, 1) := by decide +kernel
theorem dX4_number_31 : decode cX4_number 31 = .ok (.ifCond .eq 18, 3) := by decide +kernel
theorem dX4_number_34 : decode cX4_number 34 = .ok (.aload_n 0, 1) := by decide +kernel
theorem dX4_number_35 : decode cX4_number 35 = .ok (.getfield 21, 3) := by decide +kernel
theorem dX4_number_38 : decode cX4_number 38 = .ok (.iload_n 1, 1) := by decide +kernel
theorem dX4_number_39 : decode cX4_number 39 = .ok (.iconst 3, 1) := by decide +kernel
theorem dX4_number_40 : decode cX4_number 40 = .ok (.imul, 1) := by decide +kernel
theorem dX4_number_41 : decode cX4_number 41 = .ok (.iload_n 2, 1) := by decide +kernel
theorem dX4_number_42 : decode cX4_number 42 = .ok (.iadd, 1) := by decide +kernel
theorem dX4_number_43 : decode cX4_number 43 = .ok (.iconst 1, 1) := by decide +kernel
theorem dX4_number_44 : decode cX4_number 44 = .ok (.isub, 1) := by decide +kernel
theorem dX4_number_45 : decode cX4_number 45 = .ok (.iaload, 1) := by decide +kernel
theorem dX4_number_46 : decode cX4_number 46 = .ok (.goto 4, 3) := by decide +kernel
theorem dX4_number_49 : decode cX4_number 49 = .ok (.iconst 0, 1) := by decide +kernel
theorem dX4_number_50 : decode cX4_number 50 = .ok (.ireturn, 1) := by decide +kernel
set_option maxRecDepth 20000 in
theorem ggX4_add_X4_put_ : GoodIn wsX4_add wsX4_put_ := goodIn_r _ [7, 2, 8, 9, 10, 11] (by decide +kernel) (by decide +kernel)
set_option maxRecDepth 20000 in
theorem gX4_add_X4_put_ : GoodIn wsX4_add (wsV RX4 32 RX4 yX4_put_ wsX4_put_) := goodIn_app (goodIn_of _ (by decide +kernel)) ggX4_add_X4_put_
theorem dX4_add_0 : decode cX4_add 0 = .ok (.aload_n 0, 1) := by decide +kernel
theorem dX4_add_1 : decode cX4_add 1 = .ok (.getfield 24, 3) := by decide +kernel
theorem dX4_add_4 : decode cX4_add 4 = .ok (.iconst 1, 1) := by decide +kernel
theorem dX4_add_5 : decode cX4_add 5 = .ok (.iadd, 1) := by decide +kernel
theorem dX4_add_6 : decode cX4_add 6 = .ok (.aload_n 0, 1) := by decide +kernel
theorem dX4_add_7 : decode cX4_add 7 = .ok (.getfield 15, 3) := by decide +kernel
theorem dX4_add_10 : decode cX4_add 10 = .ok (.arraylength, 1) := by decide +kernel
theorem dX4_add_11 : decode cX4_add 11 = .ok (.if_icmp .lt 6, 3) := by decide +kernel
theorem dX4_add_14 : decode cX4_add 14 = .ok (.bipush (-4), 2) := by decide +kernel
theorem dX4_add_16 : decode cX4_add 16 = .ok (.ireturn, 1) := by decide +kernel
theorem dX4_add_17 : decode cX4_add 17 = .ok (.aload_n 0, 1) := by decide +kernel
theorem dX4_add_18 : decode cX4_add 18 = .ok (.dup, 1) := by decide +kernel
theorem dX4_add_19 : decode cX4_add 19 = .ok (.getfield 24, 3) := by decide +kernel
theorem dX4_add_22 : decode cX4_add 22 = .ok (.iconst 1, 1) := by decide +kernel
theorem dX4_add_23 : decode cX4_add 23 = .ok (.iadd, 1) := by decide +kernel
theorem dX4_add_24 : decode cX4_add 24 = .ok (.putfield 24, 3) := by decide +kernel
theorem dX4_add_27 : decode cX4_add 27 = .ok (.aload_n 0, 1) := by decide +kernel
theorem dX4_add_28 : decode cX4_add 28 = .ok (.aload_n 0, 1) := by decide +kernel
theorem dX4_add_29 : decode cX4_add 29 = .ok (.getfield 24, 3) := by decide +kernel
theorem dX4_add_32 : decode cX4_add 32 = .ok (.iload_n 1, 1) := by decide +kernel
theorem dX4_add_33 : decode cX4_add 33 = .ok (.iload_n 2, 1) := by decide +kernel
theorem dX4_add_34 : decode cX4_add 34 = .ok (.iload_n 3, 1) := by decide +kernel
theorem dX4_add_35 : decode cX4_add 35 = .ok (.iload 4, 2) := by decide +kernel
theorem dX4_add_37 : decode cX4_add 37 = .ok (.invokevirtual 32, 3) := by decide +kernel
theorem dX4_add_40 : decode cX4_add 40 = .ok (.aload_n 0, 1) := by decide +kernel
theorem dX4_add_41 : decode cX4_add 41 = .ok (.getfield 24, 3) := by decide +kernel
theorem dX4_add_44 : decode cX4_add 44 = .ok (.ireturn, 1) := by decide +kernel
set_option maxRecDepth 20000 in
theorem ggX4_find_X4_is : GoodIn wsX4_find wsX4_is := goodIn_r _ [6, 7, 8, 9, 5, 10, 11, 12, 13, 14, 15, 16, 17, 18, 19] (by decide +kernel) (by decide +kernel)
set_option maxRecDepth 20000 in
theorem gX4_find_X4_is : GoodIn wsX4_find (wsV RX4 36 RX4 yX4_is wsX4_is) := goodIn_app (goodIn_of _ (by decide +kernel)) ggX4_find_X4_is
theorem dX4_find_0 : decode cX4_find 0 = .ok (.iconst 1, 1) := by decide +kernel
theorem dX4_find_1 : decode cX4_find 1 = .ok (.istore 5, 2) := by decide +kernel
theorem dX4_find_3 : decode cX4_find 3 = .ok (.iload 5, 2) := by decide +kernel
theorem dX4_find_5 : decode cX4_find 5 = .ok (.aload_n 0, 1) := by decide +kernel
theorem dX4_find_6 : decode cX4_find 6 = .ok (.getfield 24, 3) := by decide +kernel
theorem dX4_find_9 : decode cX4_find 9 = .ok (.if_icmp .gt 26, 3) := by decide +kernel
theorem dX4_find_12 : decode cX4_find 12 = .ok (.aload_n 0, 1) := by decide +kernel
theorem dX4_find_13 : decode cX4_find 13 = .ok (.iload 5, 2) := by decide +kernel
theorem dX4_find_15 : decode cX4_find 15 = .ok (.iload_n 1, 1) := by decide +kernel
theorem dX4_find_16 : decode cX4_find 16 = .ok (.iload_n 2, 1) := by decide +kernel
theorem dX4_find_17 : decode cX4_find 17 = .ok (.iload_n 3, 1) := by decide +kernel
theorem dX4_find_18 : decode cX4_find 18 = .ok (.iload 4, 2) := by decide +kernel
theorem dX4_find_20 : decode cX4_find 20 = .ok (.invokevirtual 36, 3) := by decide +kernel
theorem dX4_find_23 : decode cX4_find 23 = .ok (.ifCond .eq 6, 3) := by decide +kernel
theorem dX4_find_26 : decode cX4_find 26 = .ok (.iload 5, 2) := by decide +kernel
theorem dX4_find_28 : decode cX4_find 28 = .ok (.ireturn, 1) := by decide +kernel
theorem dX4_find_29 : decode cX4_find 29 = .ok (.iinc 5 1, 3) := by decide +kernel
theorem dX4_find_32 : decode cX4_find 32 = .ok (.goto (-29), 3) := by decide +kernel
theorem dX4_find_35 : decode cX4_find 35 = .ok (.iconst 0, 1) := by decide +kernel
theorem dX4_find_36 : decode cX4_find 36 = .ok (.ireturn, 1) := by decide +kernel
set_option maxRecDepth 20000 in
theorem ggX4_isSame_X4_kind : GoodIn wsX4_isSame wsX4_kind := goodIn_r _ [5, 6, 16, 17, 18] (by decide +kernel) (by decide +kernel)
set_option maxRecDepth 20000 in
theorem gX4_isSame_X4_kind : GoodIn wsX4_isSame (wsV RX4 28 RX4 yX4_kind wsX4_kind) := goodIn_app (goodIn_of _ (by decide +kernel)) ggX4_isSame_X4_kind
set_option maxRecDepth 20000 in
theorem ggX4_isSame_X4_number : GoodIn wsX4_isSame wsX4_number := goodIn_r _ [10, 6, 11, 16, 17, 18] (by decide +kernel) (by decide +kernel)
set_option maxRecDepth 20000 in
theorem gX4_isSame_X4_number : GoodIn wsX4_isSame (wsV RX4 40 RX4 yX4_number wsX4_number) := goodIn_app (goodIn_of _ (by decide +kernel)) ggX4_isSame_X4_number
set_option maxRecDepth 20000 in
theorem ggX4_isSame_X4_is : GoodIn wsX4_isSame wsX4_is := goodIn_r _ [15, 1, 2, 3, 4, 5, 6, 7, 8, 9, 10, 11, 16, 17, 18] (by decide +kernel) (by decide +kernel)
set_option maxRecDepth 20000 in
theorem gX4_isSame_X4_is : GoodIn wsX4_isSame (wsV RX4 36 RX4 yX4_is wsX4_is) := goodIn_app (goodIn_of _ (by decide +kernel)) ggX4_isSame_X4_is
theorem dX4_isSame_0 : decode cX4_isSame 0 = .ok (.aload_n 0, 1) := by decide +kernel
theorem dX4_isSame_1 : decode cX4_isSame 1 = .ok (.iload_n 1, 1) := by decide +kernel
theorem dX4_isSame_2 : decode cX4_isSame 2 = .ok (.aload_n 2, 1) := by decide +kernel
theorem dX4_isSame_3 : decode cX4_isSame 3 = .ok (.iload_n 3, 1) := by decide +kernel
theorem dX4_isSame_4 : decode cX4_isSame 4 = .ok (.invokevirtual 28, 3) := by decide +kernel
theorem dX4_isSame_7 : decode cX4_isSame 7 = .ok (.aload_n 2, 1) := by decide +kernel
theorem dX4_isSame_8 : decode cX4_isSame 8 = .ok (.iload_n 3, 1) := by decide +kernel
theorem dX4_isSame_9 : decode cX4_isSame 9 = .ok (.iconst 1, 1) := by decide +kernel
theorem dX4_isSame_10 : decode cX4_isSame 10 = .ok (.invokevirtual 40, 3) := by decide +kernel
theorem dX4_isSame_13 : decode cX4_isSame 13 = .ok (.aload_n 2, 1) := by decide +kernel
theorem dX4_isSame_14 : decode cX4_isSame 14 = .ok (.iload_n 3, 1) := by decide +kernel
theorem dX4_isSame_15 : decode cX4_isSame 15 = .ok (.iconst 2, 1) := by decide +kernel
theorem dX4_isSame_16 : decode cX4_isSame 16 = .ok (.invokevirtual 40, 3) := by decide +kernel
theorem dX4_isSame_19 : decode cX4_isSame 19 = .ok (.aload_n 2, 1) := by decide +kernel
theorem dX4_isSame_20 : decode cX4_isSame 20 = .ok (.iload_n 3, 1) := by decide +kernel
theorem dX4_isSame_21 : decode cX4_isSame 21 = .ok (.iconst 3, 1) := by decide +kernel
theorem dX4_isSame_22 : decode cX4_isSame 22 = .ok (.invokevirtual 40, 3) := by decide +kernel
theorem dX4_isSame_25 : decode cX4_isSame 25 = .ok (.invokevirtual 36, 3) := by decide +kernel
theorem dX4_isSame_28 : decode cX4_isSame 28 = .ok (.ireturn, 1) := by decide +kernel
set_option maxRecDepth 20000 in
theorem ggX4_is_X4_kind : GoodIn wsX4_is wsX4_kind := goodIn_r _ [5, 6, 12, 13, 14] (by decide +kernel) (by decide +kernel)
set_option maxRecDepth 20000 in
theorem gX4_is_X4_kind : GoodIn wsX4_is (wsV RX4 28 RX4 yX4_kind wsX4_kind) := goodIn_app (goodIn_of _ (by decide +kernel)) ggX4_is_X4_kind
set_option maxRecDepth 20000 in
theorem ggX4_is_X4_number : GoodIn wsX4_is wsX4_number := goodIn_r _ [10, 6, 11, 12, 13, 14] (by decide +kernel) (by decide +kernel)
set_option maxRecDepth 20000 in
theorem gX4_is_X4_number : GoodIn wsX4_is (wsV RX4 40 RX4 yX4_number wsX4_number) := goodIn_app (goodIn_of _ (by decide +kernel)) ggX4_is_X4_number
theorem dX4_is_0 : decode cX4_is 0 = .ok (.aload_n 0, 1) := by decide +kernel
theorem dX4_is_1 : decode cX4_is 1 = .ok (.iload_n 1, 1) := by decide +kernel
theorem dX4_is_2 : decode cX4_is 2 = .ok (.invokevirtual 28, 3) := by decide +kernel
theorem dX4_is_5 : decode cX4_is 5 = .ok (.iload_n 2, 1) := by decide +kernel
theorem dX4_is_6 : decode cX4_is 6 = .ok (.if_icmp .ne 39, 3) := by decide +kernel
theorem dX4_is_9 : decode cX4_is 9 = .ok (.aload_n 0, 1) := by decide +kernel
theorem dX4_is_10 : decode cX4_is 10 = .ok (.iload_n 1, 1) := by decide +kernel
theorem dX4_is_11 : decode cX4_is 11 = .ok (.iconst 1, 1) := by decide +kernel
theorem dX4_is_12 : decode cX4_is 12 = .ok (.invokevirtual 40, 3) := by decide +kernel
theorem dX4_is_15 : decode cX4_is 15 = .ok (.iload_n 3, 1) := by decide +kernel
theorem dX4_is_16 : decode cX4_is 16 = .ok (.if_icmp .ne 29, 3) := by decide +kernel
theorem dX4_is_19 : decode cX4_is 19 = .ok (.aload_n 0, 1) := by decide +kernel
theorem dX4_is_20 : decode cX4_is 20 = .ok (.iload_n 1, 1) := by decide +kernel
theorem dX4_is_21 : decode cX4_is 21 = .ok (.iconst 2, 1) := by decide +kernel
theorem dX4_is_22 : decode cX4_is 22 = .ok (.invokevirtual 40, 3) := by decide +kernel
theorem dX4_is_25 : decode cX4_is 25 = .ok (.iload 4, 2) := by decide +kernel
theorem dX4_is_27 : decode cX4_is 27 = .ok (.if_icmp .ne 18, 3) := by decide +kernel
theorem dX4_is_30 : decode cX4_is 30 = .ok (.aload_n 0, 1) := by decide +kernel
theorem dX4_is_31 : decode cX4_is 31 = .ok (.iload_n 1, 1) := by decide +kernel
theorem dX4_is_32 : decode cX4_is 32 = .ok (.iconst 3, 1) := by decide +kernel
theorem dX4_is_33 : decode cX4_is 33 = .ok (.invokevirtual 40, 3) := by decide +kernel
theorem dX4_is_36 : decode cX4_is 36 = .ok (.iload 5, 2) := by decide +kernel
theorem dX4_is_38 : decode cX4_is 38 = .ok (.if_icmp .ne 7, 3) := by decide +kernel
theorem dX4_is_41 : decode cX4_is 41 = .ok (.iconst 1, 1) := by decide +kernel
theorem dX4_is_42 : decode cX4_is 42 = .ok (.goto 4, 3) := by decide +kernel
theorem dX4_is_45 : decode cX4_is 45 = .ok (.iconst 0, 1) := by decide +kernel
theorem dX4_is_46 : decode cX4_is 46 = .ok (.ireturn, 1) := by decide +kernel
set_option maxRecDepth 20000 in
theorem ggX4_put_X4_kind : GoodIn wsX4_put wsX4_kind := goodIn_r _ [5, 6, 16, 17, 18] (by decide +kernel) (by decide +kernel)
set_option maxRecDepth 20000 in
theorem gX4_put_X4_kind : GoodIn wsX4_put (wsV RX4 28 RX4 yX4_kind wsX4_kind) := goodIn_app (goodIn_of _ (by decide +kernel)) ggX4_put_X4_kind
set_option maxRecDepth 20000 in
theorem ggX4_put_X4_number : GoodIn wsX4_put wsX4_number := goodIn_r _ [10, 6, 11, 16, 17, 18] (by decide +kernel) (by decide +kernel)
set_option maxRecDepth 20000 in
theorem gX4_put_X4_number : GoodIn wsX4_put (wsV RX4 40 RX4 yX4_number wsX4_number) := goodIn_app (goodIn_of _ (by decide +kernel)) ggX4_put_X4_number
set_option maxRecDepth 20000 in
theorem ggX4_put_X4_put_ : GoodIn wsX4_put wsX4_put_ := goodIn_r _ [15, 6, 11, 16, 17, 18] (by decide +kernel) (by decide +kernel)
set_option maxRecDepth 20000 in
theorem gX4_put_X4_put_ : GoodIn wsX4_put (wsV RX4 32 RX4 yX4_put_ wsX4_put_) := goodIn_app (goodIn_of _ (by decide +kernel)) ggX4_put_X4_put_
theorem dX4_put_0 : decode cX4_put 0 = .ok (.aload_n 0, 1) := by decide +kernel
theorem dX4_put_1 : decode cX4_put 1 = .ok (.iload_n 1, 1) := by decide +kernel
theorem dX4_put_2 : decode cX4_put 2 = .ok (.aload_n 2, 1) := by decide +kernel
theorem dX4_put_3 : decode cX4_put 3 = .ok (.iload_n 3, 1) := by decide +kernel
theorem dX4_put_4 : decode cX4_put 4 = .ok (.invokevirtual 28, 3) := by decide +kernel
theorem dX4_put_7 : decode cX4_put 7 = .ok (.aload_n 2, 1) := by decide +kernel
theorem dX4_put_8 : decode cX4_put 8 = .ok (.iload_n 3, 1) := by decide +kernel
theorem dX4_put_9 : decode cX4_put 9 = .ok (.iconst 1, 1) := by decide +kernel
theorem dX4_put_10 : decode cX4_put 10 = .ok (.invokevirtual 40, 3) := by decide +kernel
theorem dX4_put_13 : decode cX4_put 13 = .ok (.aload_n 2, 1) := by decide +kernel
theorem dX4_put_14 : decode cX4_put 14 = .ok (.iload_n 3, 1) := by decide +kernel
theorem dX4_put_15 : decode cX4_put 15 = .ok (.iconst 2, 1) := by decide +kernel
theorem dX4_put_16 : decode cX4_put 16 = .ok (.invokevirtual 40, 3) := by decide +kernel
theorem dX4_put_19 : decode cX4_put 19 = .ok (.aload_n 2, 1) := by decide +kernel
theorem dX4_put_20 : decode cX4_put 20 = .ok (.iload_n 3, 1) := by decide +kernel
theorem dX4_put_21 : decode cX4_put 21 = .ok (.iconst 3, 1) := by decide +kernel
theorem dX4_put_22 : decode cX4_put 22 = .ok (.invokevirtual 40, 3) := by decide +kernel
theorem dX4_put_25 : decode cX4_put 25 = .ok (.invokevirtual 32, 3) := by decide +kernel
theorem dX4_put_28 : decode cX4_put 28 = .ok (.return_, 1) := by decide +kernel
theorem dX4_put__0 : decode cX4_put_ 0 = .ok (.iload_n 1, 1) := by decide +kernel
theorem dX4_put__1 : decode cX4_put_ 1 = .ok (.iconst 1, 1) := by decide +kernel
theorem dX4_put__2 : decode cX4_put_ 2 = .ok (.if_icmp .lt 52, 3) := by decide +kernel
theorem dX4_put__5 : decode cX4_put_ 5 = .ok (.iload_n 1, 1) := by decide +kernel
theorem dX4_put__6 : decode cX4_put_ 6 = .ok (.aload_n 0, 1) := by decide +kernel
theorem dX4_put__7 : decode cX4_put_ 7 = .ok (.getfield 15, 3) := by decide +kernel
theorem dX4_put__10 : decode cX4_put_ 10 = .ok (.arraylength, 1) := by decide +kernel
theorem dX4_put__11 : decode cX4_put_ 11 = .ok (.if_icmp .ge 43, 3) := by decide +kernel
theorem dX4_put__14 : decode cX4_put_ 14 = .ok (.aload_n 0, 1) := by decide +kernel
theorem dX4_put__15 : decode cX4_put_ 15 = .ok (.getfield 15, 3) := by decide +kernel
theorem dX4_put__18 : decode cX4_put_ 18 = .ok (.iload_n 1, 1) := by decide +kernel
theorem dX4_put__19 : decode cX4_put_ 19 = .ok (.iload_n 2, 1) := by decide +kernel
theorem dX4_put__20 : decode cX4_put_ 20 = .ok (.iastore, 1) := by decide +kernel
theorem dX4_put__21 : decode cX4_put_ 21 = .ok (.aload_n 0, 1) := by decide +kernel
theorem dX4_put__22 : decode cX4_put_ 22 = .ok (.getfield 21, 3) := by decide +kernel
theorem dX4_put__25 : decode cX4_put_ 25 = .ok (.iload_n 1, 1) := by decide +kernel
theorem dX4_put__26 : decode cX4_put_ 26 = .ok (.iconst 3, 1) := by decide +kernel
theorem dX4_put__27 : decode cX4_put_ 27 = .ok (.imul, 1) := by decide +kernel
theorem dX4_put__28 : decode cX4_put_ 28 = .ok (.iload_n 3, 1) := by decide +kernel
theorem dX4_put__29 : decode cX4_put_ 29 = .ok (.iastore, 1) := by decide +kernel
theorem dX4_put__30 : decode cX4_put_ 30 = .ok (.aload_n 0, 1) := by decide +kernel
theorem dX4_put__31 : decode cX4_put_ 31 = .ok (.getfield 21, 3) := by decide +kernel
theorem dX4_put__34 : decode cX4_put_ 34 = .ok (.iload_n 1, 1) := by decide +kernel
theorem dX4_put__35 : decode cX4_put_ 35 = .ok (.iconst 3, 1) := by decide +kernel
theorem dX4_put__36 : decode cX4_put_ 36 = .ok (.imul, 1) := by decide +kernel
theorem dX4_put__37 : decode cX4_put_ 37 = .ok (.iconst 1, 1) := by decide +kernel
theorem dX4_put__38 : decode cX4_put_ 38 = .ok (.iadd, 1) := by decide +kernel
theorem dX4_put__39 : decode cX4_put_ 39 = .ok (.iload 4, 2) := by decide +kernel
theorem dX4_put__41 : decode cX4_put_ 41 = .ok (.iastore, 1) := by decide +kernel
theorem dX4_put__42 : decode cX4_put_ 42 = .ok (.aload_n 0, 1) := by decide +kernel
theorem dX4_put__43 : decode cX4_put_ 43 = .ok (.getfield 21, 3) := by decide +kernel
theorem dX4_put__46 : decode cX4_put_ 46 = .ok (.iload_n 1, 1) := by decide +kernel
theorem dX4_put__47 : decode cX4_put_ 47 = .ok (.iconst 3, 1) := by decide +kernel
theorem dX4_put__48 : decode cX4_put_ 48 = .ok (.imul, 1) := by decide +kernel
theorem dX4_put__49 : decode cX4_put_ 49 = .ok (.iconst 2, 1) := by decide +kernel
theorem dX4_put__50 : decode cX4_put_ 50 = .ok (.iadd, 1) := by decide +kernel
theorem dX4_put__51 : decode cX4_put_ 51 = .ok (.iload 5, 2) := by decide +kernel
theorem dX4_put__53 : decode cX4_put_ 53 = .ok (.iastore, 1) := by decide +kernel
theorem dX4_put__54 : decode cX4_put_ 54 = .ok (.return_, 1) := by decide +kernel
set_option maxRecDepth 20000 in
theorem ggX4_clear_X4_put_ : GoodIn wsX4_clear wsX4_put_ := goodIn_r _ [5, 6, 7, 8, 9, 10] (by decide +kernel) (by decide +kernel)
set_option maxRecDepth 20000 in
theorem gX4_clear_X4_put_ : GoodIn wsX4_clear (wsV RX4 32 RX4 yX4_put_ wsX4_put_) := goodIn_app (goodIn_of _ (by decide +kernel)) ggX4_clear_X4_put_
theorem dX4_clear_0 : decode cX4_clear 0 = .ok (.aload_n 0, 1) := by decide +kernel
theorem dX4_clear_1 : decode cX4_clear 1 = .ok (.iload_n 1, 1) := by decide +kernel
theorem dX4_clear_2 : decode cX4_clear 2 = .ok (.iconst 0, 1) := by decide +kernel
theorem dX4_clear_3 : decode cX4_clear 3 = .ok (.iconst 0, 1) := by decide +kernel
theorem dX4_clear_4 : decode cX4_clear 4 = .ok (.iconst 0, 1) := by decide +kernel
theorem dX4_clear_5 : decode cX4_clear 5 = .ok (.iconst 0, 1) := by decide +kernel
theorem dX4_clear_6 : decode cX4_clear 6 = .ok (.invokevirtual 32, 3) := by decide +kernel
theorem dX4_clear_9 : decode cX4_clear 9 = .ok (.return_, 1) := by decide +kernel
set_option maxRecDepth 20000 in
theorem ggX5_init_X4_init : GoodIn wsX5_init wsX4_init := goodIn_r _ [29, 30, 2, 3, 31, 32, 33, 34, 24, 35, 36, 37, 70, 71, 72] (by decide +kernel) (by decide +kernel)
set_option maxRecDepth 20000 in
theorem gX5_init_X4_init : GoodIn wsX5_init (wsX4_init) := ggX5_init_X4_init
set_option maxRecDepth 20000 in
theorem ggX5_init_X2_init : GoodIn wsX5_init wsX2_init := goodIn_r _ [39, 40, 2, 3, 24, 41, 42, 43, 44, 45, 82, 83, 84, 85, 86] (by decide +kernel) (by decide +kernel)
set_option maxRecDepth 20000 in
theorem gX5_init_X2_init_n23 : GoodIn wsX5_init (wsX2_init) := ggX5_init_X2_init
set_option maxRecDepth 20000 in
theorem ggX5_init_X1_init : GoodIn wsX5_init wsX1_init := goodIn_r _ [47, 48, 2, 3, 24, 49, 87] (by decide +kernel) (by decide +kernel)
set_option maxRecDepth 20000 in
theorem gX5_init_X1_init_n33 : GoodIn wsX5_init (wsX1_init) := ggX5_init_X1_init
set_option maxRecDepth 20000 in
theorem ggX5_init_J4_init_da8c8 : GoodIn wsX5_init wsJ4_init_da8c8 := goodIn_r _ [52, 53, 54, 55, 56, 57, 2, 3, 58, 59, 60, 61, 62, 63, 64, 65, 66, 67, 68, 69, 88, 89, 90, 91] (by decide +kernel) (by decide +kernel)
set_option maxRecDepth 20000 in
theorem gX5_init_J4_init_da8c8 : GoodIn wsX5_init (wsJ4_init_da8c8) := ggX5_init_J4_init_da8c8
theorem dX5_init_0 : decode cX5_init 0 = .ok (.aload_n 0, 1) := by decide +kernel
theorem dX5_init_1 : decode cX5_init 1 = .ok (.invokespecial 1, 3) := by decide +kernel
theorem dX5_init_4 : decode cX5_init 4 = .ok (.aload_n 0, 1) := by decide +kernel
theorem dX5_init_5 : decode cX5_init 5 = .ok (.new 7, 3) := by decide +kernel
theorem dX5_init_8 : decode cX5_init 8 = .ok (.dup, 1) := by decide +kernel
theorem dX5_init_9 : decode cX5_init 9 = .ok (.bipush 100, 2) := by decide +kernel
theorem dX5_init_11 : decode cX5_init 11 = .ok (.invokespecial 11, 3) := by decide +kernel
theorem dX5_init_14 : decode cX5_init 14 = .ok (.putfield 14, 3) := by decide +kernel
theorem dX5_init_17 : decode cX5_init 17 = .ok (.aload_n 0, 1) := by decide +kernel
theorem dX5_init_18 : decode cX5_init 18 = .ok (.new 7, 3) := by decide +kernel
theorem dX5_init_21 : decode cX5_init 21 = .ok (.dup, 1) := by decide +kernel
theorem dX5_init_22 : decode cX5_init 22 = .ok (.bipush 100, 2) := by decide +kernel
theorem dX5_init_24 : decode cX5_init 24 = .ok (.invokespecial 11, 3) := by decide +kernel
theorem dX5_init_27 : decode cX5_init 27 = .ok (.putfield 18, 3) := by decide +kernel
theorem dX5_init_30 : decode cX5_init 30 = .ok (.aload_n 0, 1) := by decide +kernel
theorem dX5_init_31 : decode cX5_init 31 = .ok (.new 21, 3) := by decide +kernel
theorem dX5_init_34 : decode cX5_init 34 = .ok (.dup, 1) := by decide +kernel
theorem dX5_init_35 : decode cX5_init 35 = .ok (.invokespecial 23, 3) := by decide +kernel
theorem dX5_init_38 : decode cX5_init 38 = .ok (.putfield 24, 3) := by decide +kernel
theorem dX5_init_41 : decode cX5_init 41 = .ok (.aload_n 0, 1) := by decide +kernel
theorem dX5_init_42 : decode cX5_init 42 = .ok (.new 7, 3) := by decide +kernel
theorem dX5_init_45 : decode cX5_init 45 = .ok (.dup, 1) := by decide +kernel
theorem dX5_init_46 : decode cX5_init 46 = .ok (.sipush 300, 3) := by decide +kernel
theorem dX5_init_49 : decode cX5_init 49 = .ok (.invokespecial 11, 3) := by decide +kernel
theorem dX5_init_52 : decode cX5_init 52 = .ok (.putfield 28, 3) := by decide +kernel
theorem dX5_init_55 : decode cX5_init 55 = .ok (.aload_n 0, 1) := by decide +kernel
theorem dX5_init_56 : decode cX5_init 56 = .ok (.new 31, 3) := by decide +kernel
theorem dX5_init_59 : decode cX5_init 59 = .ok (.dup, 1) := by decide +kernel
theorem dX5_init_60 : decode cX5_init 60 = .ok (.invokespecial 33, 3) := by decide +kernel
theorem dX5_init_63 : decode cX5_init 63 = .ok (.putfield 34, 3) := by decide +kernel
theorem dX5_init_66 : decode cX5_init 66 = .ok (.aload_n 0, 1) := by decide +kernel
theorem dX5_init_67 : decode cX5_init 67 = .ok (.new 38, 3) := by decide +kernel
theorem dX5_init_70 : decode cX5_init 70 = .ok (.dup, 1) := by decide +kernel
theorem dX5_init_71 : decode cX5_init 71 = .ok (.invokespecial 40, 3) := by decide +kernel
theorem dX5_init_74 : decode cX5_init 74 = .ok (.putfield 41, 3) := by decide +kernel
theorem dX5_init_77 : decode cX5_init 77 = .ok (.aload_n 0, 1) := by decide +kernel
theorem dX5_init_78 : decode cX5_init 78 = .ok (.sipush 301, 3) := by decide +kernel
theorem dX5_init_81 : decode cX5_init 81 = .ok (.newarray .boolean, 2) := by decide +kernel
theorem dX5_init_83 : decode cX5_init 83 = .ok (.putfield 45, 3) := by decide +kernel
theorem dX5_init_86 : decode cX5_init 86 = .ok (.aload_n 0, 1) := by decide +kernel
theorem dX5_init_87 : decode cX5_init 87 = .ok (.sipush 301, 3) := by decide +kernel
theorem dX5_init_90 : decode cX5_init 90 = .ok (.newarray .int, 2) := by decide +kernel
theorem dX5_init_92 : decode cX5_init 92 = .ok (.putfield 49, 3) := by decide +kernel
theorem dX5_init_95 : decode cX5_init 95 = .ok (.aload_n 0, 1) := by decide +kernel
theorem dX5_init_96 : decode cX5_init 96 = .ok (.iconst 0, 1) := by decide +kernel
theorem dX5_init_97 : decode cX5_init 97 = .ok (.putfield 53, 3) := by decide +kernel
theorem dX5_init_100 : decode cX5_init 100 = .ok (.return_, 1) := by decide +kernel
set_option maxRecDepth 20000 in
theorem ggX5_axiom_X5_isTerm : GoodIn wsX5_axiom wsX5_isTerm := goodIn_r _ [6] (by decide +kernel) (by decide +kernel)
set_option maxRecDepth 20000 in
theorem gX5_axiom_X5_isTerm : GoodIn wsX5_axiom (va_wsS RX5 61 yX5_isTerm wsX5_isTerm) := goodIn_app (goodIn_of _ (by decide +kernel)) ggX5_axiom_X5_isTerm
set_option maxRecDepth 20000 in
theorem ggX5_axiom_X4_add : GoodIn wsX5_axiom wsX4_add := goodIn_r _ [11, 12, 13, 14, 15, 16, 10, 17, 18, 28, 29, 30] (by decide +kernel) (by decide +kernel)
set_option maxRecDepth 20000 in
theorem gX5_axiom_X4_add : GoodIn wsX5_axiom (wsV RX5 70 RX4 yX4_add wsX4_add) := goodIn_app (goodIn_of _ (by decide +kernel)) ggX5_axiom_X4_add
theorem dX5_axiom_0 : decode cX5_axiom 0 = .ok (.iload_n 1, 1) := by decide +kernel
theorem dX5_axiom_1 : decode cX5_axiom 1 = .ok (.iconst 1, 1) := by decide +kernel
theorem dX5_axiom_2 : decode cX5_axiom 2 = .ok (.if_icmp .lt 24, 3) := by decide +kernel
theorem dX5_axiom_5 : decode cX5_axiom 5 = .ok (.iload_n 1, 1) := by decide +kernel
theorem dX5_axiom_6 : decode cX5_axiom 6 = .ok (.bipush 10, 2) := by decide +kernel
theorem dX5_axiom_8 : decode cX5_axiom 8 = .ok (.if_icmp .gt 18, 3) := by decide +kernel
theorem dX5_axiom_11 : decode cX5_axiom 11 = .ok (.iload_n 1, 1) := by decide +kernel
theorem dX5_axiom_12 : decode cX5_axiom 12 = .ok (.getstatic 57, 3) := by decide +kernel
theorem dX5_axiom_15 : decode cX5_axiom 15 = .ok (.arraylength, 1) := by decide +kernel
theorem dX5_axiom_16 : decode cX5_axiom 16 = .ok (.if_icmp .ge 10, 3) := by decide +kernel
theorem dX5_axiom_19 : decode cX5_axiom 19 = .ok (.iload_n 2, 1) := by decide +kernel
theorem dX5_axiom_20 : decode cX5_axiom 20 = .ok (.invokestatic 61, 3) := by decide +kernel
theorem dX5_axiom_23 : decode cX5_axiom 23 = .ok (.ifCond .ne 6, 3) := by decide +kernel
theorem dX5_axiom_26 : decode cX5_axiom 26 = .ok (.bipush (-2), 2) := by decide +kernel
theorem dX5_axiom_28 : decode cX5_axiom 28 = .ok (.ireturn, 1) := by decide +kernel
theorem dX5_axiom_29 : decode cX5_axiom 29 = .ok (.getstatic 57, 3) := by decide +kernel
theorem dX5_axiom_32 : decode cX5_axiom 32 = .ok (.iload_n 1, 1) := by decide +kernel
theorem dX5_axiom_33 : decode cX5_axiom 33 = .ok (.aaload, 1) := by decide +kernel
theorem dX5_axiom_34 : decode cX5_axiom 34 = .ok (.getfield 65, 3) := by decide +kernel
theorem dX5_axiom_37 : decode cX5_axiom 37 = .ok (.iconst 1, 1) := by decide +kernel
theorem dX5_axiom_38 : decode cX5_axiom 38 = .ok (.if_icmp .ne 7, 3) := by decide +kernel
theorem dX5_axiom_41 : decode cX5_axiom 41 = .ok (.iconst 1, 1) := by decide +kernel
theorem dX5_axiom_42 : decode cX5_axiom 42 = .ok (.goto 4, 3) := by decide +kernel
theorem dX5_axiom_45 : decode cX5_axiom 45 = .ok (.iconst 0, 1) := by decide +kernel
theorem dX5_axiom_46 : decode cX5_axiom 46 = .ok (.istore 4, 2) := by decide +kernel
theorem dX5_axiom_48 : decode cX5_axiom 48 = .ok (.iload 4, 2) := by decide +kernel
theorem dX5_axiom_50 : decode cX5_axiom 50 = .ok (.ifCond .ne 13, 3) := by decide +kernel
theorem dX5_axiom_53 : decode cX5_axiom 53 = .ok (.iload_n 3, 1) := by decide +kernel
theorem dX5_axiom_54 : decode cX5_axiom 54 = .ok (.invokestatic 61, 3) := by decide +kernel
theorem dX5_axiom_57 : decode cX5_axiom 57 = .ok (.ifCond .ne 6, 3) := by decide +kernel
theorem dX5_axiom_60 : decode cX5_axiom 60 = .ok (.bipush (-2), 2) := by decide +kernel
theorem dX5_axiom_62 : decode cX5_axiom 62 = .ok (.ireturn, 1) := by decide +kernel
theorem dX5_axiom_63 : decode cX5_axiom 63 = .ok (.aload_n 0, 1) := by decide +kernel
theorem dX5_axiom_64 : decode cX5_axiom 64 = .ok (.getfield 14, 3) := by decide +kernel
theorem dX5_axiom_67 : decode cX5_axiom 67 = .ok (.iload_n 1, 1) := by decide +kernel
theorem dX5_axiom_68 : decode cX5_axiom 68 = .ok (.iload_n 2, 1) := by decide +kernel
theorem dX5_axiom_69 : decode cX5_axiom 69 = .ok (.iload 4, 2) := by decide +kernel
theorem dX5_axiom_71 : decode cX5_axiom 71 = .ok (.ifCond .eq 7, 3) := by decide +kernel
theorem dX5_axiom_74 : decode cX5_axiom 74 = .ok (.iconst 0, 1) := by decide +kernel
theorem dX5_axiom_75 : decode cX5_axiom 75 = .ok (.goto 4, 3) := by decide +kernel
theorem dX5_axiom_78 : decode cX5_axiom 78 = .ok (.iload_n 3, 1) := by decide +kernel
theorem dX5_axiom_79 : decode cX5_axiom 79 = .ok (.iconst 0, 1) := by decide +kernel
theorem dX5_axiom_80 : decode cX5_axiom 80 = .ok (.invokevirtual 70, 3) := by decide +kernel
theorem dX5_axiom_83 : decode cX5_axiom 83 = .ok (.ireturn, 1) := by decide +kernel
set_option maxRecDepth 20000 in
theorem ggX5_triple_X5_isTerm : GoodIn wsX5_triple wsX5_isTerm := goodIn_r _ [5] (by decide +kernel) (by decide +kernel)
set_option maxRecDepth 20000 in
theorem gX5_triple_X5_isTerm : GoodIn wsX5_triple (va_wsS RX5 61 yX5_isTerm wsX5_isTerm) := goodIn_app (goodIn_of _ (by decide +kernel)) ggX5_triple_X5_isTerm
set_option maxRecDepth 20000 in
theorem ggX5_triple_X4_find : GoodIn wsX5_triple wsX4_find := goodIn_r _ [10, 11, 12, 13, 14, 9, 15, 16, 17, 18, 19, 20, 21, 22, 23, 24, 25, 43, 44, 45] (by decide +kernel) (by decide +kernel)
set_option maxRecDepth 20000 in
theorem gX5_triple_X4_find : GoodIn wsX5_triple (wsV RX5 74 RX4 yX4_find wsX4_find) := goodIn_app (goodIn_of _ (by decide +kernel)) ggX5_triple_X4_find
set_option maxRecDepth 20000 in
theorem ggX5_triple_X4_add : GoodIn wsX5_triple wsX4_add := goodIn_r _ [29, 11, 20, 30, 31, 32, 9, 33, 25, 43, 44, 45] (by decide +kernel) (by decide +kernel)
set_option maxRecDepth 20000 in
theorem gX5_triple_X4_add : GoodIn wsX5_triple (wsV RX5 70 RX4 yX4_add wsX4_add) := goodIn_app (goodIn_of _ (by decide +kernel)) ggX5_triple_X4_add
theorem dX5_triple_0 : decode cX5_triple 0 = .ok (.iload_n 1, 1) := by decide +kernel
theorem dX5_triple_1 : decode cX5_triple 1 = .ok (.invokestatic 61, 3) := by decide +kernel
theorem dX5_triple_4 : decode cX5_triple 4 = .ok (.ifCond .eq 17, 3) := by decide +kernel
theorem dX5_triple_7 : decode cX5_triple 7 = .ok (.iload_n 2, 1) := by decide +kernel
theorem dX5_triple_8 : decode cX5_triple 8 = .ok (.invokestatic 61, 3) := by decide +kernel
theorem dX5_triple_11 : decode cX5_triple 11 = .ok (.ifCond .eq 10, 3) := by decide +kernel
theorem dX5_triple_14 : decode cX5_triple 14 = .ok (.iload_n 3, 1) := by decide +kernel
theorem dX5_triple_15 : decode cX5_triple 15 = .ok (.invokestatic 61, 3) := by decide +kernel
theorem dX5_triple_18 : decode cX5_triple 18 = .ok (.ifCond .ne 6, 3) := by decide +kernel
theorem dX5_triple_21 : decode cX5_triple 21 = .ok (.bipush (-2), 2) := by decide +kernel
theorem dX5_triple_23 : decode cX5_triple 23 = .ok (.ireturn, 1) := by decide +kernel
theorem dX5_triple_24 : decode cX5_triple 24 = .ok (.aload_n 0, 1) := by decide +kernel
theorem dX5_triple_25 : decode cX5_triple 25 = .ok (.getfield 18, 3) := by decide +kernel
theorem dX5_triple_28 : decode cX5_triple 28 = .ok (.bipush 11, 2) := by decide +kernel
theorem dX5_triple_30 : decode cX5_triple 30 = .ok (.iload_n 1, 1) := by decide +kernel
theorem dX5_triple_31 : decode cX5_triple 31 = .ok (.iload_n 2, 1) := by decide +kernel
theorem dX5_triple_32 : decode cX5_triple 32 = .ok (.iload_n 3, 1) := by decide +kernel
theorem dX5_triple_33 : decode cX5_triple 33 = .ok (.invokevirtual 74, 3) := by decide +kernel
theorem dX5_triple_36 : decode cX5_triple 36 = .ok (.istore 4, 2) := by decide +kernel
theorem dX5_triple_38 : decode cX5_triple 38 = .ok (.iload 4, 2) := by decide +kernel
theorem dX5_triple_40 : decode cX5_triple 40 = .ok (.ifCond .eq 8, 3) := by decide +kernel
theorem dX5_triple_43 : decode cX5_triple 43 = .ok (.iload 4, 2) := by decide +kernel
theorem dX5_triple_45 : decode cX5_triple 45 = .ok (.goto 15, 3) := by decide +kernel
theorem dX5_triple_48 : decode cX5_triple 48 = .ok (.aload_n 0, 1) := by decide +kernel
theorem dX5_triple_49 : decode cX5_triple 49 = .ok (.getfield 18, 3) := by decide +kernel
theorem dX5_triple_52 : decode cX5_triple 52 = .ok (.bipush 11, 2) := by decide +kernel
theorem dX5_triple_54 : decode cX5_triple 54 = .ok (.iload_n 1, 1) := by decide +kernel
theorem dX5_triple_55 : decode cX5_triple 55 = .ok (.iload_n 2, 1) := by decide +kernel
theorem dX5_triple_56 : decode cX5_triple 56 = .ok (.iload_n 3, 1) := by decide +kernel
theorem dX5_triple_57 : decode cX5_triple 57 = .ok (.invokevirtual 70, 3) := by decide +kernel
theorem dX5_triple_60 : decode cX5_triple 60 = .ok (.ireturn, 1) := by decide +kernel
set_option maxRecDepth 20000 in
theorem ggX5_row_X5_ruleNumbered : GoodIn wsX5_row wsX5_ruleNumbered := goodIn_r _ [5, 6] (by decide +kernel) (by decide +kernel)
set_option maxRecDepth 20000 in
theorem gX5_row_X5_ruleNumbered : GoodIn wsX5_row (va_wsS RX5 77 yX5_ruleNumbered wsX5_ruleNumbered) := goodIn_app (goodIn_of _ (by decide +kernel)) ggX5_row_X5_ruleNumbered
set_option maxRecDepth 20000 in
theorem ggX5_row_X5_isInstance : GoodIn wsX5_row wsX5_isInstance := goodIn_r _ [10, 11, 12, 13, 14, 15, 16, 17, 18, 19, 20, 21, 22, 23, 24, 25, 26, 27, 28, 4, 29, 189, 190, 191, 192, 193, 194, 195, 196, 197, 198, 199, 200] (by decide +kernel) (by decide +kernel)
set_option maxRecDepth 20000 in
theorem gX5_row_X5_isInstance : GoodIn wsX5_row (wsV RX5 81 RX5 yX5_isInstance wsX5_isInstance) := goodIn_app (goodIn_of _ (by decide +kernel)) ggX5_row_X5_isInstance
set_option maxRecDepth 20000 in
theorem ggX5_row_X2_has : GoodIn wsX5_row wsX2_has := goodIn_r _ [34, 35, 201, 202, 203, 204, 205] (by decide +kernel) (by decide +kernel)
set_option maxRecDepth 20000 in
theorem gX5_row_X2_has : GoodIn wsX5_row (wsV RX5 85 RX2 yX2_has wsX2_has) := goodIn_app (goodIn_of _ (by decide +kernel)) ggX5_row_X2_has
set_option maxRecDepth 20000 in
theorem ggX5_row_X3_takes : GoodIn wsX5_row wsX3_takes := goodIn_r _ [40, 41, 42, 43, 44, 45, 46, 47, 48, 49, 50, 51, 52, 53] (by decide +kernel) (by decide +kernel)
set_option maxRecDepth 20000 in
theorem gX5_row_X3_takes : GoodIn wsX5_row (wsV RX5 88 RX3 yX3_takes wsX3_takes) := goodIn_app (goodIn_of _ (by decide +kernel)) ggX5_row_X3_takes
set_option maxRecDepth 20000 in
theorem ggX5_row_X2_lay : GoodIn wsX5_row wsX2_lay := goodIn_r _ [57, 35, 58, 59, 60, 201, 202, 203, 204, 205] (by decide +kernel) (by decide +kernel)
set_option maxRecDepth 20000 in
theorem gX5_row_X2_lay : GoodIn wsX5_row (wsV RX5 94 RX2 yX2_lay wsX2_lay) := goodIn_app (goodIn_of _ (by decide +kernel)) ggX5_row_X2_lay
set_option maxRecDepth 20000 in
theorem ggX5_row_X2_addPremise : GoodIn wsX5_row wsX2_addPremise := goodIn_r _ [64, 65, 60, 66, 67, 68, 33, 69, 70, 31, 32, 34, 35, 201, 202, 203, 204, 205] (by decide +kernel) (by decide +kernel)
set_option maxRecDepth 20000 in
theorem gX5_row_X2_addPremise : GoodIn wsX5_row (wsV RX5 98 RX2 yX2_addPremise wsX2_addPremise) := goodIn_app (goodIn_of _ (by decide +kernel)) ggX5_row_X2_addPremise
set_option maxRecDepth 20000 in
theorem ggX5_row_X5_derive : GoodIn wsX5_row wsX5_derive := goodIn_r _ [74, 75, 76, 77, 78, 20, 79, 80, 81, 82, 83, 26, 84, 85, 86, 87, 4, 88, 1, 30, 31, 32, 33, 34, 35, 89, 90, 91, 92, 58, 70, 2, 3, 5, 6, 93, 94, 95, 96, 97, 98, 67, 68, 69, 60, 36, 37, 38, 39, 40, 41, 42, 43, 44, 45, 46, 47, 48, 49, 50, 51, 52, 53, 99, 100, 101, 102, 103, 104, 105, 106, 107, 108, 109, 110, 111, 112, 65, 66, 113, 114, 115, 116, 117, 23, 24, 25, 118, 119, 120, 121, 122, 123, 124, 125, 126, 127, 128, 129, 130, 131, 132, 133, 134, 135, 136, 137, 138, 139, 140, 141, 142, 143, 144, 145, 146, 147, 148, 149, 150, 151, 152, 153, 154, 155, 156, 157, 158, 159, 160, 161, 162, 163, 164, 165, 166, 167, 168, 169, 170, 171, 172, 173, 174, 175, 176, 177, 11, 12, 13, 14, 15, 16, 178, 179, 180, 181, 59, 182, 183, 184, 185, 22, 186, 187, 188, 189, 190, 191, 192, 193, 194, 195, 196, 197, 198, 199, 200, 201, 202, 203, 204, 205, 206] (by decide +kernel) (by decide +kernel)
set_option maxRecDepth 20000 in
theorem gX5_row_X5_derive : GoodIn wsX5_row (wsV RX5 102 RX5 yX5_derive wsX5_derive) := goodIn_app (goodIn_of _ (by decide +kernel)) ggX5_row_X5_derive
theorem dX5_row_0 : decode cX5_row 0 = .ok (.iload_n 1, 1) := by decide +kernel
theorem dX5_row_1 : decode cX5_row 1 = .ok (.invokestatic 77, 3) := by decide +kernel
theorem dX5_row_4 : decode cX5_row 4 = .ok (.astore 4, 2) := by decide +kernel
theorem dX5_row_6 : decode cX5_row 6 = .ok (.aload 4, 2) := by decide +kernel
theorem dX5_row_8 : decode cX5_row 8 = .ok (.ifnull 13, 3) := by decide +kernel
theorem dX5_row_11 : decode cX5_row 11 = .ok (.aload_n 0, 1) := by decide +kernel
theorem dX5_row_12 : decode cX5_row 12 = .ok (.aload 4, 2) := by decide +kernel
theorem dX5_row_14 : decode cX5_row 14 = .ok (.iload_n 2, 1) := by decide +kernel
theorem dX5_row_15 : decode cX5_row 15 = .ok (.invokevirtual 81, 3) := by decide +kernel
theorem dX5_row_18 : decode cX5_row 18 = .ok (.ifCond .ne 5, 3) := by decide +kernel
theorem dX5_row_21 : decode cX5_row 21 = .ok (.iconst 0, 1) := by decide +kernel
theorem dX5_row_22 : decode cX5_row 22 = .ok (.ireturn, 1) := by decide +kernel
theorem dX5_row_23 : decode cX5_row 23 = .ok (.iload_n 3, 1) := by decide +kernel
theorem dX5_row_24 : decode cX5_row 24 = .ok (.ifCond .eq 24, 3) := by decide +kernel
theorem dX5_row_27 : decode cX5_row 27 = .ok (.aload_n 0, 1) := by decide +kernel
theorem dX5_row_28 : decode cX5_row 28 = .ok (.getfield 24, 3) := by decide +kernel
theorem dX5_row_31 : decode cX5_row 31 = .ok (.iload_n 3, 1) := by decide +kernel
theorem dX5_row_32 : decode cX5_row 32 = .ok (.invokevirtual 85, 3) := by decide +kernel
theorem dX5_row_35 : decode cX5_row 35 = .ok (.ifCond .eq 11, 3) := by decide +kernel
theorem dX5_row_38 : decode cX5_row 38 = .ok (.aload 4, 2) := by decide +kernel
theorem dX5_row_40 : decode cX5_row 40 = .ok (.invokevirtual 88, 3) := by decide +kernel
theorem dX5_row_43 : decode cX5_row 43 = .ok (.ifCond .ne 5, 3) := by decide +kernel
theorem dX5_row_46 : decode cX5_row 46 = .ok (.iconst 0, 1) := by decide +kernel
theorem dX5_row_47 : decode cX5_row 47 = .ok (.ireturn, 1) := by decide +kernel
theorem dX5_row_48 : decode cX5_row 48 = .ok (.aload_n 0, 1) := by decide +kernel
theorem dX5_row_49 : decode cX5_row 49 = .ok (.getfield 24, 3) := by decide +kernel
theorem dX5_row_52 : decode cX5_row 52 = .ok (.iload_n 1, 1) := by decide +kernel
theorem dX5_row_53 : decode cX5_row 53 = .ok (.iload_n 2, 1) := by decide +kernel
theorem dX5_row_54 : decode cX5_row 54 = .ok (.invokevirtual 94, 3) := by decide +kernel
theorem dX5_row_57 : decode cX5_row 57 = .ok (.istore 5, 2) := by decide +kernel
theorem dX5_row_59 : decode cX5_row 59 = .ok (.iload 5, 2) := by decide +kernel
theorem dX5_row_61 : decode cX5_row 61 = .ok (.ifCond .eq 23, 3) := by decide +kernel
theorem dX5_row_64 : decode cX5_row 64 = .ok (.iload_n 3, 1) := by decide +kernel
theorem dX5_row_65 : decode cX5_row 65 = .ok (.ifCond .eq 13, 3) := by decide +kernel
theorem dX5_row_68 : decode cX5_row 68 = .ok (.aload_n 0, 1) := by decide +kernel
theorem dX5_row_69 : decode cX5_row 69 = .ok (.getfield 24, 3) := by decide +kernel
theorem dX5_row_72 : decode cX5_row 72 = .ok (.iload 5, 2) := by decide +kernel
theorem dX5_row_74 : decode cX5_row 74 = .ok (.iload_n 3, 1) := by decide +kernel
theorem dX5_row_75 : decode cX5_row 75 = .ok (.invokevirtual 98, 3) := by decide +kernel
theorem dX5_row_78 : decode cX5_row 78 = .ok (.aload_n 0, 1) := by decide +kernel
theorem dX5_row_79 : decode cX5_row 79 = .ok (.iload 5, 2) := by decide +kernel
theorem dX5_row_81 : decode cX5_row 81 = .ok (.invokevirtual 102, 3) := by decide +kernel
theorem dX5_row_84 : decode cX5_row 84 = .ok (.iload 5, 2) := by decide +kernel
theorem dX5_row_86 : decode cX5_row 86 = .ok (.ireturn, 1) := by decide +kernel
set_option maxRecDepth 20000 in
theorem ggX5_premise_X5_ruleOf : GoodIn wsX5_premise wsX5_ruleOf := goodIn_r _ [6, 1, 7, 8, 9, 10, 11, 12, 13, 14, 15, 16, 17, 18, 19, 20, 5, 21, 22, 178, 179, 180, 181, 182, 183, 184, 185, 186, 187, 188, 189, 190, 191] (by decide +kernel) (by decide +kernel)
set_option maxRecDepth 20000 in
theorem gX5_premise_X5_ruleOf : GoodIn wsX5_premise (wsV RX5 105 RX5 yX5_ruleOf wsX5_ruleOf) := goodIn_app (goodIn_of _ (by decide +kernel)) ggX5_premise_X5_ruleOf
set_option maxRecDepth 20000 in
theorem ggX5_premise_X2_has : GoodIn wsX5_premise wsX2_has := goodIn_r _ [11, 12, 187, 188, 189, 190, 191] (by decide +kernel) (by decide +kernel)
set_option maxRecDepth 20000 in
theorem gX5_premise_X2_has : GoodIn wsX5_premise (wsV RX5 85 RX2 yX2_has wsX2_has) := goodIn_app (goodIn_of _ (by decide +kernel)) ggX5_premise_X2_has
set_option maxRecDepth 20000 in
theorem ggX5_premise_X2_premiseCount : GoodIn wsX5_premise wsX2_premiseCount := goodIn_r _ [26, 27, 18, 8, 9, 10, 11, 12, 187, 188, 189, 190, 191] (by decide +kernel) (by decide +kernel)
set_option maxRecDepth 20000 in
theorem gX5_premise_X2_premiseCount : GoodIn wsX5_premise (wsV RX5 108 RX2 yX2_premiseCount wsX2_premiseCount) := goodIn_app (goodIn_of _ (by decide +kernel)) ggX5_premise_X2_premiseCount
set_option maxRecDepth 20000 in
theorem ggX5_premise_X3_takes : GoodIn wsX5_premise wsX3_takes := goodIn_r _ [32, 33, 34, 35, 36, 37, 38, 39, 40, 41, 42, 43, 44, 45] (by decide +kernel) (by decide +kernel)
set_option maxRecDepth 20000 in
theorem gX5_premise_X3_takes : GoodIn wsX5_premise (wsV RX5 88 RX3 yX3_takes wsX3_takes) := goodIn_app (goodIn_of _ (by decide +kernel)) ggX5_premise_X3_takes
set_option maxRecDepth 20000 in
theorem ggX5_premise_X2_addPremise : GoodIn wsX5_premise wsX2_addPremise := goodIn_r _ [49, 50, 27, 51, 24, 25, 10, 26, 18, 8, 9, 11, 12, 187, 188, 189, 190, 191] (by decide +kernel) (by decide +kernel)
set_option maxRecDepth 20000 in
theorem gX5_premise_X2_addPremise : GoodIn wsX5_premise (wsV RX5 98 RX2 yX2_addPremise wsX2_addPremise) := goodIn_app (goodIn_of _ (by decide +kernel)) ggX5_premise_X2_addPremise
set_option maxRecDepth 20000 in
theorem ggX5_premise_X2_last : GoodIn wsX5_premise wsX2_last := goodIn_r _ [55, 12, 187, 188, 189, 190, 191] (by decide +kernel) (by decide +kernel)
set_option maxRecDepth 20000 in
theorem gX5_premise_X2_last : GoodIn wsX5_premise (wsV RX5 112 RX2 yX2_last wsX2_last) := goodIn_app (goodIn_of _ (by decide +kernel)) ggX5_premise_X2_last
set_option maxRecDepth 20000 in
theorem ggX5_premise_X5_derive : GoodIn wsX5_premise wsX5_derive := goodIn_r _ [59, 60, 61, 62, 63, 64, 65, 66, 67, 68, 69, 70, 71, 2, 3, 4, 5, 6, 1, 7, 8, 9, 10, 11, 12, 13, 14, 15, 16, 17, 18, 19, 20, 21, 22, 72, 73, 74, 75, 76, 23, 24, 25, 26, 27, 28, 29, 30, 31, 32, 33, 34, 35, 36, 37, 38, 39, 40, 41, 42, 43, 44, 45, 77, 78, 79, 80, 81, 82, 83, 84, 85, 86, 87, 88, 89, 90, 50, 51, 91, 92, 93, 94, 95, 96, 97, 98, 99, 100, 101, 102, 103, 104, 105, 106, 107, 108, 109, 110, 111, 112, 113, 114, 115, 116, 117, 118, 119, 120, 121, 122, 123, 124, 125, 126, 127, 128, 129, 130, 131, 132, 133, 134, 135, 136, 137, 138, 139, 140, 141, 142, 143, 144, 145, 146, 147, 148, 149, 150, 151, 152, 153, 154, 155, 156, 157, 158, 159, 160, 161, 162, 163, 164, 165, 166, 167, 168, 169, 170, 171, 172, 173, 174, 175, 176, 177, 178, 179, 180, 181, 182, 183, 184, 185, 186, 192, 193, 194, 187, 188, 189, 190, 191, 195] (by decide +kernel) (by decide +kernel)
set_option maxRecDepth 20000 in
theorem gX5_premise_X5_derive : GoodIn wsX5_premise (wsV RX5 102 RX5 yX5_derive wsX5_derive) := goodIn_app (goodIn_of _ (by decide +kernel)) ggX5_premise_X5_derive
theorem dX5_premise_0 : decode cX5_premise 0 = .ok (.aload_n 0, 1) := by decide +kernel
theorem dX5_premise_1 : decode cX5_premise 1 = .ok (.iload_n 1, 1) := by decide +kernel
theorem dX5_premise_2 : decode cX5_premise 2 = .ok (.invokevirtual 105, 3) := by decide +kernel
theorem dX5_premise_5 : decode cX5_premise 5 = .ok (.astore_n 3, 1) := by decide +kernel
theorem dX5_premise_6 : decode cX5_premise 6 = .ok (.aload_n 3, 1) := by decide +kernel
theorem dX5_premise_7 : decode cX5_premise 7 = .ok (.ifnull 14, 3) := by decide +kernel
theorem dX5_premise_10 : decode cX5_premise 10 = .ok (.aload_n 0, 1) := by decide +kernel
theorem dX5_premise_11 : decode cX5_premise 11 = .ok (.getfield 24, 3) := by decide +kernel
theorem dX5_premise_14 : decode cX5_premise 14 = .ok (.iload_n 2, 1) := by decide +kernel
theorem dX5_premise_15 : decode cX5_premise 15 = .ok (.invokevirtual 85, 3) := by decide +kernel
theorem dX5_premise_18 : decode cX5_premise 18 = .ok (.ifCond .ne 5, 3) := by decide +kernel
theorem dX5_premise_21 : decode cX5_premise 21 = .ok (.iconst (-1), 1) := by decide +kernel
theorem dX5_premise_22 : decode cX5_premise 22 = .ok (.ireturn, 1) := by decide +kernel
theorem dX5_premise_23 : decode cX5_premise 23 = .ok (.iload_n 2, 1) := by decide +kernel
theorem dX5_premise_24 : decode cX5_premise 24 = .ok (.iload_n 1, 1) := by decide +kernel
theorem dX5_premise_25 : decode cX5_premise 25 = .ok (.if_icmp .ge 18, 3) := by decide +kernel
theorem dX5_premise_28 : decode cX5_premise 28 = .ok (.aload_n 0, 1) := by decide +kernel
theorem dX5_premise_29 : decode cX5_premise 29 = .ok (.getfield 24, 3) := by decide +kernel
theorem dX5_premise_32 : decode cX5_premise 32 = .ok (.iload_n 1, 1) := by decide +kernel
theorem dX5_premise_33 : decode cX5_premise 33 = .ok (.invokevirtual 108, 3) := by decide +kernel
theorem dX5_premise_36 : decode cX5_premise 36 = .ok (.aload_n 3, 1) := by decide +kernel
theorem dX5_premise_37 : decode cX5_premise 37 = .ok (.invokevirtual 88, 3) := by decide +kernel
theorem dX5_premise_40 : decode cX5_premise 40 = .ok (.if_icmp .lt 6, 3) := by decide +kernel
theorem dX5_premise_43 : decode cX5_premise 43 = .ok (.bipush (-3), 2) := by decide +kernel
theorem dX5_premise_45 : decode cX5_premise 45 = .ok (.ireturn, 1) := by decide +kernel
theorem dX5_premise_46 : decode cX5_premise 46 = .ok (.aload_n 0, 1) := by decide +kernel
theorem dX5_premise_47 : decode cX5_premise 47 = .ok (.getfield 24, 3) := by decide +kernel
theorem dX5_premise_50 : decode cX5_premise 50 = .ok (.iload_n 1, 1) := by decide +kernel
theorem dX5_premise_51 : decode cX5_premise 51 = .ok (.iload_n 2, 1) := by decide +kernel
theorem dX5_premise_52 : decode cX5_premise 52 = .ok (.invokevirtual 98, 3) := by decide +kernel
theorem dX5_premise_55 : decode cX5_premise 55 = .ok (.iload_n 1, 1) := by decide +kernel
theorem dX5_premise_56 : decode cX5_premise 56 = .ok (.istore 4, 2) := by decide +kernel
theorem dX5_premise_58 : decode cX5_premise 58 = .ok (.iload 4, 2) := by decide +kernel
theorem dX5_premise_60 : decode cX5_premise 60 = .ok (.aload_n 0, 1) := by decide +kernel
theorem dX5_premise_61 : decode cX5_premise 61 = .ok (.getfield 24, 3) := by decide +kernel
theorem dX5_premise_64 : decode cX5_premise 64 = .ok (.invokevirtual 112, 3) := by decide +kernel
theorem dX5_premise_67 : decode cX5_premise 67 = .ok (.if_icmp .gt 15, 3) := by decide +kernel
theorem dX5_premise_70 : decode cX5_premise 70 = .ok (.aload_n 0, 1) := by decide +kernel
theorem dX5_premise_71 : decode cX5_premise 71 = .ok (.iload 4, 2) := by decide +kernel
theorem dX5_premise_73 : decode cX5_premise 73 = .ok (.invokevirtual 102, 3) := by decide +kernel
theorem dX5_premise_76 : decode cX5_premise 76 = .ok (.iinc 4 1, 3) := by decide +kernel
theorem dX5_premise_79 : decode cX5_premise 79 = .ok (.goto (-21), 3) := by decide +kernel
theorem dX5_premise_82 : decode cX5_premise 82 = .ok (.aload_n 0, 1) := by decide +kernel
theorem dX5_premise_83 : decode cX5_premise 83 = .ok (.getfield 24, 3) := by decide +kernel
theorem dX5_premise_86 : decode cX5_premise 86 = .ok (.iload_n 1, 1) := by decide +kernel
theorem dX5_premise_87 : decode cX5_premise 87 = .ok (.invokevirtual 108, 3) := by decide +kernel
theorem dX5_premise_90 : decode cX5_premise 90 = .ok (.ireturn, 1) := by decide +kernel
set_option maxRecDepth 20000 in
theorem ggX5_check_X2_has : GoodIn wsX5_check wsX2_has := goodIn_r _ [8, 9, 51, 52, 53, 54, 55] (by decide +kernel) (by decide +kernel)
set_option maxRecDepth 20000 in
theorem gX5_check_X2_has : GoodIn wsX5_check (wsV RX5 85 RX2 yX2_has wsX2_has) := goodIn_app (goodIn_of _ (by decide +kernel)) ggX5_check_X2_has
set_option maxRecDepth 20000 in
theorem ggX5_check_X5_markProof : GoodIn wsX5_check wsX5_markProof := goodIn_r _ [14, 15, 1, 4, 5, 6, 7, 8, 9, 16, 17, 18, 19, 20, 21, 22, 23, 24, 25, 26, 27, 42, 43, 44, 45, 46, 47, 48, 49, 50, 51, 52, 53, 54, 55] (by decide +kernel) (by decide +kernel)
set_option maxRecDepth 20000 in
theorem gX5_check_X5_markProof : GoodIn wsX5_check (wsV RX5 115 RX5 yX5_markProof wsX5_markProof) := goodIn_app (goodIn_of _ (by decide +kernel)) ggX5_check_X5_markProof
set_option maxRecDepth 20000 in
theorem ggX5_check_X5_leastBroken : GoodIn wsX5_check wsX5_leastBroken := goodIn_r _ [31, 15, 3, 32, 33, 34, 35, 36, 37, 38, 39, 40, 41, 42, 43, 44, 45, 46, 47, 48, 49, 50, 56, 57, 58] (by decide +kernel) (by decide +kernel)
set_option maxRecDepth 20000 in
theorem gX5_check_X5_leastBroken : GoodIn wsX5_check (wsV RX5 118 RX5 yX5_leastBroken wsX5_leastBroken) := goodIn_app (goodIn_of _ (by decide +kernel)) ggX5_check_X5_leastBroken
set_option maxRecDepth 20000 in
theorem ggX5_check_X4_has : GoodIn wsX5_check wsX4_has := goodIn_r _ [36, 37, 38, 39, 35, 40, 41, 56, 57, 58] (by decide +kernel) (by decide +kernel)
set_option maxRecDepth 20000 in
theorem gX5_check_X4_has : GoodIn wsX5_check (wsV RX5 121 RX4 yX4_has wsX4_has) := goodIn_app (goodIn_of _ (by decide +kernel)) ggX5_check_X4_has
theorem dX5_check_0 : decode cX5_check 0 = .ok (.aload_n 0, 1) := by decide +kernel
theorem dX5_check_1 : decode cX5_check 1 = .ok (.getfield 24, 3) := by decide +kernel
theorem dX5_check_4 : decode cX5_check 4 = .ok (.iload_n 1, 1) := by decide +kernel
theorem dX5_check_5 : decode cX5_check 5 = .ok (.invokevirtual 85, 3) := by decide +kernel
theorem dX5_check_8 : decode cX5_check 8 = .ok (.ifCond .ne 5, 3) := by decide +kernel
theorem dX5_check_11 : decode cX5_check 11 = .ok (.iconst (-1), 1) := by decide +kernel
theorem dX5_check_12 : decode cX5_check 12 = .ok (.ireturn, 1) := by decide +kernel
theorem dX5_check_13 : decode cX5_check 13 = .ok (.aload_n 0, 1) := by decide +kernel
theorem dX5_check_14 : decode cX5_check 14 = .ok (.iload_n 1, 1) := by decide +kernel
theorem dX5_check_15 : decode cX5_check 15 = .ok (.invokevirtual 115, 3) := by decide +kernel
theorem dX5_check_18 : decode cX5_check 18 = .ok (.aload_n 0, 1) := by decide +kernel
theorem dX5_check_19 : decode cX5_check 19 = .ok (.aload_n 0, 1) := by decide +kernel
theorem dX5_check_20 : decode cX5_check 20 = .ok (.iload_n 1, 1) := by decide +kernel
theorem dX5_check_21 : decode cX5_check 21 = .ok (.invokevirtual 118, 3) := by decide +kernel
theorem dX5_check_24 : decode cX5_check 24 = .ok (.putfield 53, 3) := by decide +kernel
theorem dX5_check_27 : decode cX5_check 27 = .ok (.aload_n 0, 1) := by decide +kernel
theorem dX5_check_28 : decode cX5_check 28 = .ok (.getfield 28, 3) := by decide +kernel
theorem dX5_check_31 : decode cX5_check 31 = .ok (.iload_n 1, 1) := by decide +kernel
theorem dX5_check_32 : decode cX5_check 32 = .ok (.invokevirtual 121, 3) := by decide +kernel
theorem dX5_check_35 : decode cX5_check 35 = .ok (.ifCond .eq 7, 3) := by decide +kernel
theorem dX5_check_38 : decode cX5_check 38 = .ok (.iconst 1, 1) := by decide +kernel
theorem dX5_check_39 : decode cX5_check 39 = .ok (.goto 4, 3) := by decide +kernel
theorem dX5_check_42 : decode cX5_check 42 = .ok (.iconst 0, 1) := by decide +kernel
theorem dX5_check_43 : decode cX5_check 43 = .ok (.ireturn, 1) := by decide +kernel
theorem dX5_broken_0 : decode cX5_broken 0 = .ok (.aload_n 0, 1) := by decide +kernel
theorem dX5_broken_1 : decode cX5_broken 1 = .ok (.getfield 53, 3) := by decide +kernel
theorem dX5_broken_4 : decode cX5_broken 4 = .ok (.ireturn, 1) := by decide +kernel
set_option maxRecDepth 20000 in
theorem ggX5_rows_X2_has : GoodIn wsX5_rows wsX2_has := goodIn_r _ [7, 8, 35, 36, 37, 38, 39] (by decide +kernel) (by decide +kernel)
set_option maxRecDepth 20000 in
theorem gX5_rows_X2_has : GoodIn wsX5_rows (wsV RX5 85 RX2 yX2_has wsX2_has) := goodIn_app (goodIn_of _ (by decide +kernel)) ggX5_rows_X2_has
set_option maxRecDepth 20000 in
theorem ggX5_rows_X5_markProof : GoodIn wsX5_rows wsX5_markProof := goodIn_r _ [13, 2, 1, 3, 4, 5, 6, 7, 8, 14, 15, 16, 17, 18, 19, 20, 21, 22, 23, 24, 25, 26, 27, 28, 29, 30, 31, 32, 33, 34, 35, 36, 37, 38, 39] (by decide +kernel) (by decide +kernel)
set_option maxRecDepth 20000 in
theorem gX5_rows_X5_markProof : GoodIn wsX5_rows (wsV RX5 115 RX5 yX5_markProof wsX5_markProof) := goodIn_app (goodIn_of _ (by decide +kernel)) ggX5_rows_X5_markProof
theorem dX5_rows_0 : decode cX5_rows 0 = .ok (.aload_n 0, 1) := by decide +kernel
theorem dX5_rows_1 : decode cX5_rows 1 = .ok (.getfield 24, 3) := by decide +kernel
theorem dX5_rows_4 : decode cX5_rows 4 = .ok (.iload_n 1, 1) := by decide +kernel
theorem dX5_rows_5 : decode cX5_rows 5 = .ok (.invokevirtual 85, 3) := by decide +kernel
theorem dX5_rows_8 : decode cX5_rows 8 = .ok (.ifCond .ne 5, 3) := by decide +kernel
theorem dX5_rows_11 : decode cX5_rows 11 = .ok (.iconst (-1), 1) := by decide +kernel
theorem dX5_rows_12 : decode cX5_rows 12 = .ok (.ireturn, 1) := by decide +kernel
theorem dX5_rows_13 : decode cX5_rows 13 = .ok (.aload_n 0, 1) := by decide +kernel
theorem dX5_rows_14 : decode cX5_rows 14 = .ok (.iload_n 1, 1) := by decide +kernel
theorem dX5_rows_15 : decode cX5_rows 15 = .ok (.invokevirtual 115, 3) := by decide +kernel
theorem dX5_rows_18 : decode cX5_rows 18 = .ok (.iconst 0, 1) := by decide +kernel
theorem dX5_rows_19 : decode cX5_rows 19 = .ok (.istore_n 2, 1) := by decide +kernel
theorem dX5_rows_20 : decode cX5_rows 20 = .ok (.iconst 1, 1) := by decide +kernel
theorem dX5_rows_21 : decode cX5_rows 21 = .ok (.istore_n 3, 1) := by decide +kernel
theorem dX5_rows_22 : decode cX5_rows 22 = .ok (.iload_n 3, 1) := by decide +kernel
theorem dX5_rows_23 : decode cX5_rows 23 = .ok (.iload_n 1, 1) := by decide +kernel
theorem dX5_rows_24 : decode cX5_rows 24 = .ok (.if_icmp .gt 21, 3) := by decide +kernel
theorem dX5_rows_27 : decode cX5_rows 27 = .ok (.aload_n 0, 1) := by decide +kernel
theorem dX5_rows_28 : decode cX5_rows 28 = .ok (.getfield 45, 3) := by decide +kernel
theorem dX5_rows_31 : decode cX5_rows 31 = .ok (.iload_n 3, 1) := by decide +kernel
theorem dX5_rows_32 : decode cX5_rows 32 = .ok (.baload, 1) := by decide +kernel
theorem dX5_rows_33 : decode cX5_rows 33 = .ok (.ifCond .eq 6, 3) := by decide +kernel
theorem dX5_rows_36 : decode cX5_rows 36 = .ok (.iinc 2 1, 3) := by decide +kernel
theorem dX5_rows_39 : decode cX5_rows 39 = .ok (.iinc 3 1, 3) := by decide +kernel
theorem dX5_rows_42 : decode cX5_rows 42 = .ok (.goto (-20), 3) := by decide +kernel
theorem dX5_rows_45 : decode cX5_rows 45 = .ok (.iload_n 2, 1) := by decide +kernel
theorem dX5_rows_46 : decode cX5_rows 46 = .ok (.ireturn, 1) := by decide +kernel
set_option maxRecDepth 20000 in
theorem ggX5_size_X2_has : GoodIn wsX5_size wsX2_has := goodIn_r _ [7, 8, 40, 41, 42, 43, 44] (by decide +kernel) (by decide +kernel)
set_option maxRecDepth 20000 in
theorem gX5_size_X2_has : GoodIn wsX5_size (wsV RX5 85 RX2 yX2_has wsX2_has) := goodIn_app (goodIn_of _ (by decide +kernel)) ggX5_size_X2_has
set_option maxRecDepth 20000 in
theorem ggX5_size_X5_sizeAbovePremises : GoodIn wsX5_size wsX5_sizeAbovePremises := goodIn_r _ [13, 1, 2, 14, 15, 16, 17, 18, 19, 20, 21, 6, 22, 23, 24, 4, 5, 7, 8, 25, 26, 27, 28, 29, 30, 3, 31, 32, 33, 34, 35, 36, 37, 38, 39, 40, 41, 42, 43, 44] (by decide +kernel) (by decide +kernel)
set_option maxRecDepth 20000 in
theorem gX5_size_X5_sizeAbovePremises : GoodIn wsX5_size (wsV RX5 122 RX5 yX5_sizeAbovePremises wsX5_sizeAbovePremises) := goodIn_app (goodIn_of _ (by decide +kernel)) ggX5_size_X5_sizeAbovePremises
theorem dX5_size_0 : decode cX5_size 0 = .ok (.aload_n 0, 1) := by decide +kernel
theorem dX5_size_1 : decode cX5_size 1 = .ok (.getfield 24, 3) := by decide +kernel
theorem dX5_size_4 : decode cX5_size 4 = .ok (.iload_n 1, 1) := by decide +kernel
theorem dX5_size_5 : decode cX5_size 5 = .ok (.invokevirtual 85, 3) := by decide +kernel
theorem dX5_size_8 : decode cX5_size 8 = .ok (.ifCond .ne 5, 3) := by decide +kernel
theorem dX5_size_11 : decode cX5_size 11 = .ok (.iconst (-1), 1) := by decide +kernel
theorem dX5_size_12 : decode cX5_size 12 = .ok (.ireturn, 1) := by decide +kernel
theorem dX5_size_13 : decode cX5_size 13 = .ok (.iconst 1, 1) := by decide +kernel
theorem dX5_size_14 : decode cX5_size 14 = .ok (.istore_n 2, 1) := by decide +kernel
theorem dX5_size_15 : decode cX5_size 15 = .ok (.iload_n 2, 1) := by decide +kernel
theorem dX5_size_16 : decode cX5_size 16 = .ok (.iload_n 1, 1) := by decide +kernel
theorem dX5_size_17 : decode cX5_size 17 = .ok (.if_icmp .gt 20, 3) := by decide +kernel
theorem dX5_size_20 : decode cX5_size 20 = .ok (.aload_n 0, 1) := by decide +kernel
theorem dX5_size_21 : decode cX5_size 21 = .ok (.getfield 49, 3) := by decide +kernel
theorem dX5_size_24 : decode cX5_size 24 = .ok (.iload_n 2, 1) := by decide +kernel
theorem dX5_size_25 : decode cX5_size 25 = .ok (.aload_n 0, 1) := by decide +kernel
theorem dX5_size_26 : decode cX5_size 26 = .ok (.iload_n 2, 1) := by decide +kernel
theorem dX5_size_27 : decode cX5_size 27 = .ok (.invokevirtual 122, 3) := by decide +kernel
theorem dX5_size_30 : decode cX5_size 30 = .ok (.iastore, 1) := by decide +kernel
theorem dX5_size_31 : decode cX5_size 31 = .ok (.iinc 2 1, 3) := by decide +kernel
theorem dX5_size_34 : decode cX5_size 34 = .ok (.goto (-19), 3) := by decide +kernel
theorem dX5_size_37 : decode cX5_size 37 = .ok (.aload_n 0, 1) := by decide +kernel
theorem dX5_size_38 : decode cX5_size 38 = .ok (.getfield 49, 3) := by decide +kernel
theorem dX5_size_41 : decode cX5_size 41 = .ok (.iload_n 1, 1) := by decide +kernel
theorem dX5_size_42 : decode cX5_size 42 = .ok (.iaload, 1) := by decide +kernel
theorem dX5_size_43 : decode cX5_size 43 = .ok (.ireturn, 1) := by decide +kernel
set_option maxRecDepth 20000 in
theorem ggX5_drop_X2_has : GoodIn wsX5_drop wsX2_has := goodIn_r _ [10, 11, 74, 75, 76, 77, 78] (by decide +kernel) (by decide +kernel)
set_option maxRecDepth 20000 in
theorem gX5_drop_X2_has : GoodIn wsX5_drop (wsV RX5 85 RX2 yX2_has wsX2_has) := goodIn_app (goodIn_of _ (by decide +kernel)) ggX5_drop_X2_has
set_option maxRecDepth 20000 in
theorem ggX5_drop_X5_markProof : GoodIn wsX5_drop wsX5_markProof := goodIn_r _ [16, 2, 1, 6, 7, 8, 9, 10, 11, 17, 18, 19, 20, 21, 22, 23, 24, 25, 26, 27, 28, 65, 66, 67, 68, 69, 70, 71, 72, 73, 74, 75, 76, 77, 78] (by decide +kernel) (by decide +kernel)
set_option maxRecDepth 20000 in
theorem gX5_drop_X5_markProof : GoodIn wsX5_drop (wsV RX5 115 RX5 yX5_markProof wsX5_markProof) := goodIn_app (goodIn_of _ (by decide +kernel)) ggX5_drop_X5_markProof
set_option maxRecDepth 20000 in
theorem ggX5_drop_X2_move : GoodIn wsX5_drop wsX2_move := goodIn_r _ [32, 27, 33, 34, 21, 22, 7, 8, 9, 10, 11, 28, 18, 19, 20, 74, 75, 76, 77, 78] (by decide +kernel) (by decide +kernel)
set_option maxRecDepth 20000 in
theorem gX5_drop_X2_move : GoodIn wsX5_drop (wsV RX5 125 RX2 yX2_move wsX2_move) := goodIn_app (goodIn_of _ (by decide +kernel)) ggX5_drop_X2_move
set_option maxRecDepth 20000 in
theorem ggX5_drop_X4_put : GoodIn wsX5_drop wsX4_put := goodIn_r _ [39, 40, 41, 42, 38, 43, 44, 45, 46, 47, 48, 49, 50, 51, 52, 53, 79, 80, 81] (by decide +kernel) (by decide +kernel)
set_option maxRecDepth 20000 in
theorem gX5_drop_X4_put : GoodIn wsX5_drop (wsV RX5 129 RX4 yX4_put wsX4_put) := goodIn_app (goodIn_of _ (by decide +kernel)) ggX5_drop_X4_put
set_option maxRecDepth 20000 in
theorem ggX5_drop_X2_keepOnly : GoodIn wsX5_drop wsX2_keepOnly := goodIn_r _ [57, 11, 58, 59, 60, 61, 62, 63, 64, 74, 75, 76, 77, 78] (by decide +kernel) (by decide +kernel)
set_option maxRecDepth 20000 in
theorem gX5_drop_X2_keepOnly : GoodIn wsX5_drop (wsV RX5 133 RX2 yX2_keepOnly wsX2_keepOnly) := goodIn_app (goodIn_of _ (by decide +kernel)) ggX5_drop_X2_keepOnly
theorem dX5_drop_0 : decode cX5_drop 0 = .ok (.aload_n 0, 1) := by decide +kernel
theorem dX5_drop_1 : decode cX5_drop 1 = .ok (.getfield 24, 3) := by decide +kernel
theorem dX5_drop_4 : decode cX5_drop 4 = .ok (.iload_n 1, 1) := by decide +kernel
theorem dX5_drop_5 : decode cX5_drop 5 = .ok (.invokevirtual 85, 3) := by decide +kernel
theorem dX5_drop_8 : decode cX5_drop 8 = .ok (.ifCond .ne 5, 3) := by decide +kernel
theorem dX5_drop_11 : decode cX5_drop 11 = .ok (.iconst (-1), 1) := by decide +kernel
theorem dX5_drop_12 : decode cX5_drop 12 = .ok (.ireturn, 1) := by decide +kernel
theorem dX5_drop_13 : decode cX5_drop 13 = .ok (.aload_n 0, 1) := by decide +kernel
theorem dX5_drop_14 : decode cX5_drop 14 = .ok (.iload_n 1, 1) := by decide +kernel
theorem dX5_drop_15 : decode cX5_drop 15 = .ok (.invokevirtual 115, 3) := by decide +kernel
theorem dX5_drop_18 : decode cX5_drop 18 = .ok (.iconst 0, 1) := by decide +kernel
theorem dX5_drop_19 : decode cX5_drop 19 = .ok (.istore_n 2, 1) := by decide +kernel
theorem dX5_drop_20 : decode cX5_drop 20 = .ok (.iconst 1, 1) := by decide +kernel
theorem dX5_drop_21 : decode cX5_drop 21 = .ok (.istore_n 3, 1) := by decide +kernel
theorem dX5_drop_22 : decode cX5_drop 22 = .ok (.iload_n 3, 1) := by decide +kernel
theorem dX5_drop_23 : decode cX5_drop 23 = .ok (.iload_n 1, 1) := by decide +kernel
theorem dX5_drop_24 : decode cX5_drop 24 = .ok (.if_icmp .gt 54, 3) := by decide +kernel
theorem dX5_drop_27 : decode cX5_drop 27 = .ok (.aload_n 0, 1) := by decide +kernel
theorem dX5_drop_28 : decode cX5_drop 28 = .ok (.getfield 45, 3) := by decide +kernel
theorem dX5_drop_31 : decode cX5_drop 31 = .ok (.iload_n 3, 1) := by decide +kernel
theorem dX5_drop_32 : decode cX5_drop 32 = .ok (.baload, 1) := by decide +kernel
theorem dX5_drop_33 : decode cX5_drop 33 = .ok (.ifCond .eq 39, 3) := by decide +kernel
theorem dX5_drop_36 : decode cX5_drop 36 = .ok (.iinc 2 1, 3) := by decide +kernel
theorem dX5_drop_39 : decode cX5_drop 39 = .ok (.aload_n 0, 1) := by decide +kernel
theorem dX5_drop_40 : decode cX5_drop 40 = .ok (.getfield 49, 3) := by decide +kernel
theorem dX5_drop_43 : decode cX5_drop 43 = .ok (.iload_n 3, 1) := by decide +kernel
theorem dX5_drop_44 : decode cX5_drop 44 = .ok (.iload_n 2, 1) := by decide +kernel
theorem dX5_drop_45 : decode cX5_drop 45 = .ok (.iastore, 1) := by decide +kernel
theorem dX5_drop_46 : decode cX5_drop 46 = .ok (.aload_n 0, 1) := by decide +kernel
theorem dX5_drop_47 : decode cX5_drop 47 = .ok (.getfield 24, 3) := by decide +kernel
theorem dX5_drop_50 : decode cX5_drop 50 = .ok (.iload_n 3, 1) := by decide +kernel
theorem dX5_drop_51 : decode cX5_drop 51 = .ok (.iload_n 2, 1) := by decide +kernel
theorem dX5_drop_52 : decode cX5_drop 52 = .ok (.aload_n 0, 1) := by decide +kernel
theorem dX5_drop_53 : decode cX5_drop 53 = .ok (.getfield 49, 3) := by decide +kernel
theorem dX5_drop_56 : decode cX5_drop 56 = .ok (.invokevirtual 125, 3) := by decide +kernel
theorem dX5_drop_59 : decode cX5_drop 59 = .ok (.aload_n 0, 1) := by decide +kernel
theorem dX5_drop_60 : decode cX5_drop 60 = .ok (.getfield 28, 3) := by decide +kernel
theorem dX5_drop_63 : decode cX5_drop 63 = .ok (.iload_n 2, 1) := by decide +kernel
theorem dX5_drop_64 : decode cX5_drop 64 = .ok (.aload_n 0, 1) := by decide +kernel
theorem dX5_drop_65 : decode cX5_drop 65 = .ok (.getfield 28, 3) := by decide +kernel
theorem dX5_drop_68 : decode cX5_drop 68 = .ok (.iload_n 3, 1) := by decide +kernel
theorem dX5_drop_69 : decode cX5_drop 69 = .ok (.invokevirtual 129, 3) := by decide +kernel
theorem dX5_drop_72 : decode cX5_drop 72 = .ok (.iinc 3 1, 3) := by decide +kernel
theorem dX5_drop_75 : decode cX5_drop 75 = .ok (.goto (-53), 3) := by decide +kernel
theorem dX5_drop_78 : decode cX5_drop 78 = .ok (.aload_n 0, 1) := by decide +kernel
theorem dX5_drop_79 : decode cX5_drop 79 = .ok (.getfield 24, 3) := by decide +kernel
theorem dX5_drop_82 : decode cX5_drop 82 = .ok (.iload_n 2, 1) := by decide +kernel
theorem dX5_drop_83 : decode cX5_drop 83 = .ok (.invokevirtual 133, 3) := by decide +kernel
theorem dX5_drop_86 : decode cX5_drop 86 = .ok (.aload_n 0, 1) := by decide +kernel
theorem dX5_drop_87 : decode cX5_drop 87 = .ok (.iconst 0, 1) := by decide +kernel
theorem dX5_drop_88 : decode cX5_drop 88 = .ok (.putfield 53, 3) := by decide +kernel
theorem dX5_drop_91 : decode cX5_drop 91 = .ok (.iload_n 2, 1) := by decide +kernel
theorem dX5_drop_92 : decode cX5_drop 92 = .ok (.ireturn, 1) := by decide +kernel
set_option maxRecDepth 20000 in
theorem ggX5_name_X2_has : GoodIn wsX5_name wsX2_has := goodIn_r _ [6, 7, 23, 24, 25, 26, 27] (by decide +kernel) (by decide +kernel)
set_option maxRecDepth 20000 in
theorem gX5_name_X2_has : GoodIn wsX5_name (wsV RX5 85 RX2 yX2_has wsX2_has) := goodIn_app (goodIn_of _ (by decide +kernel)) ggX5_name_X2_has
set_option maxRecDepth 20000 in
theorem ggX5_name_X2_ruleNumber : GoodIn wsX5_name wsX2_ruleNumber := goodIn_r _ [11, 12, 13, 3, 4, 5, 6, 7, 23, 24, 25, 26, 27] (by decide +kernel) (by decide +kernel)
set_option maxRecDepth 20000 in
theorem gX5_name_X2_ruleNumber : GoodIn wsX5_name (wsV RX5 136 RX2 yX2_ruleNumber wsX2_ruleNumber) := goodIn_app (goodIn_of _ (by decide +kernel)) ggX5_name_X2_ruleNumber
theorem dX5_name_0 : decode cX5_name 0 = .ok (.aload_n 0, 1) := by decide +kernel
theorem dX5_name_1 : decode cX5_name 1 = .ok (.getfield 24, 3) := by decide +kernel
theorem dX5_name_4 : decode cX5_name 4 = .ok (.iload_n 1, 1) := by decide +kernel
theorem dX5_name_5 : decode cX5_name 5 = .ok (.invokevirtual 85, 3) := by decide +kernel
theorem dX5_name_8 : decode cX5_name 8 = .ok (.ifCond .eq 14, 3) := by decide +kernel
theorem dX5_name_11 : decode cX5_name 11 = .ok (.aload_n 0, 1) := by decide +kernel
theorem dX5_name_12 : decode cX5_name 12 = .ok (.getfield 24, 3) := by decide +kernel
theorem dX5_name_15 : decode cX5_name 15 = .ok (.iload_n 1, 1) := by decide +kernel
theorem dX5_name_16 : decode cX5_name 16 = .ok (.invokevirtual 136, 3) := by decide +kernel
theorem dX5_name_19 : decode cX5_name 19 = .ok (.goto 4, 3) := by decide +kernel
theorem dX5_name_22 : decode cX5_name 22 = .ok (.iconst (-1), 1) := by decide +kernel
theorem dX5_name_23 : decode cX5_name 23 = .ok (.ireturn, 1) := by decide +kernel
set_option maxRecDepth 20000 in
theorem ggX5_states_X2_has : GoodIn wsX5_states wsX2_has := goodIn_r _ [7, 8, 29, 30, 31, 32, 33] (by decide +kernel) (by decide +kernel)
set_option maxRecDepth 20000 in
theorem gX5_states_X2_has : GoodIn wsX5_states (wsV RX5 85 RX2 yX2_has wsX2_has) := goodIn_app (goodIn_of _ (by decide +kernel)) ggX5_states_X2_has
set_option maxRecDepth 20000 in
theorem ggX5_states_X4_kind : GoodIn wsX5_states wsX4_kind := goodIn_r _ [13, 14, 34, 35, 36] (by decide +kernel) (by decide +kernel)
set_option maxRecDepth 20000 in
theorem gX5_states_X4_kind : GoodIn wsX5_states (wsV RX5 139 RX4 yX4_kind wsX4_kind) := goodIn_app (goodIn_of _ (by decide +kernel)) ggX5_states_X4_kind
set_option maxRecDepth 20000 in
theorem ggX5_states_X4_number : GoodIn wsX5_states wsX4_number := goodIn_r _ [18, 14, 19, 34, 35, 36] (by decide +kernel) (by decide +kernel)
set_option maxRecDepth 20000 in
theorem gX5_states_X4_number : GoodIn wsX5_states (wsV RX5 142 RX4 yX4_number wsX4_number) := goodIn_app (goodIn_of _ (by decide +kernel)) ggX5_states_X4_number
theorem dX5_states_0 : decode cX5_states 0 = .ok (.aload_n 0, 1) := by decide +kernel
theorem dX5_states_1 : decode cX5_states 1 = .ok (.getfield 24, 3) := by decide +kernel
theorem dX5_states_4 : decode cX5_states 4 = .ok (.iload_n 1, 1) := by decide +kernel
theorem dX5_states_5 : decode cX5_states 5 = .ok (.invokevirtual 85, 3) := by decide +kernel
theorem dX5_states_8 : decode cX5_states 8 = .ok (.ifCond .ne 5, 3) := by decide +kernel
theorem dX5_states_11 : decode cX5_states 11 = .ok (.iconst (-1), 1) := by decide +kernel
theorem dX5_states_12 : decode cX5_states 12 = .ok (.ireturn, 1) := by decide +kernel
theorem dX5_states_13 : decode cX5_states 13 = .ok (.iload_n 2, 1) := by decide +kernel
theorem dX5_states_14 : decode cX5_states 14 = .ok (.ifCond .lt 8, 3) := by decide +kernel
theorem dX5_states_17 : decode cX5_states 17 = .ok (.iload_n 2, 1) := by decide +kernel
theorem dX5_states_18 : decode cX5_states 18 = .ok (.iconst 3, 1) := by decide +kernel
theorem dX5_states_19 : decode cX5_states 19 = .ok (.if_icmp .le 6, 3) := by decide +kernel
theorem dX5_states_22 : decode cX5_states 22 = .ok (.bipush (-2), 2) := by decide +kernel
theorem dX5_states_24 : decode cX5_states 24 = .ok (.ireturn, 1) := by decide +kernel
theorem dX5_states_25 : decode cX5_states 25 = .ok (.iload_n 2, 1) := by decide +kernel
theorem dX5_states_26 : decode cX5_states 26 = .ok (.ifCond .ne 14, 3) := by decide +kernel
theorem dX5_states_29 : decode cX5_states 29 = .ok (.aload_n 0, 1) := by decide +kernel
theorem dX5_states_30 : decode cX5_states 30 = .ok (.getfield 28, 3) := by decide +kernel
theorem dX5_states_33 : decode cX5_states 33 = .ok (.iload_n 1, 1) := by decide +kernel
theorem dX5_states_34 : decode cX5_states 34 = .ok (.invokevirtual 139, 3) := by decide +kernel
theorem dX5_states_37 : decode cX5_states 37 = .ok (.goto 12, 3) := by decide +kernel
theorem dX5_states_40 : decode cX5_states 40 = .ok (.aload_n 0, 1) := by decide +kernel
theorem dX5_states_41 : decode cX5_states 41 = .ok (.getfield 28, 3) := by decide +kernel
theorem dX5_states_44 : decode cX5_states 44 = .ok (.iload_n 1, 1) := by decide +kernel
theorem dX5_states_45 : decode cX5_states 45 = .ok (.iload_n 2, 1) := by decide +kernel
theorem dX5_states_46 : decode cX5_states 46 = .ok (.invokevirtual 142, 3) := by decide +kernel
theorem dX5_states_49 : decode cX5_states 49 = .ok (.ireturn, 1) := by decide +kernel
set_option maxRecDepth 20000 in
theorem ggX5_sentence_X5_ruleOf : GoodIn wsX5_sentence wsX5_ruleOf := goodIn_r _ [6, 7, 8, 9, 10, 11, 12, 13, 14, 15, 16, 17, 18, 19, 20, 21, 5, 22, 23, 305, 306, 307, 308, 309, 310, 311, 312, 313, 314, 315, 316, 317, 318] (by decide +kernel) (by decide +kernel)
set_option maxRecDepth 20000 in
theorem gX5_sentence_X5_ruleOf : GoodIn wsX5_sentence (wsV RX5 105 RX5 yX5_ruleOf wsX5_ruleOf) := goodIn_app (goodIn_of _ (by decide +kernel)) ggX5_sentence_X5_ruleOf
set_option maxRecDepth 20000 in
theorem ggX5_sentence_J4_setLength_d00df : GoodIn wsX5_sentence wsJ4_setLength_d00df := goodIn_r _ [28, 29, 30, 31, 32, 33, 34, 35, 36, 37, 38, 39, 40, 41, 42, 43, 44, 45, 46, 47, 48, 49, 50, 51, 52, 53, 54, 55, 56, 57, 58, 59, 60, 61, 62, 63, 64, 65, 66, 67, 68, 69, 70, 71, 72, 73, 74, 75, 76, 77, 78, 79, 80, 81, 82, 83, 84, 85, 86, 87, 88, 89, 90, 91, 92, 93, 94, 95, 96, 97, 98, 99, 100, 319, 320, 321, 322] (by decide +kernel) (by decide +kernel)
set_option maxRecDepth 20000 in
theorem gX5_sentence_J4_setLength_d00df : GoodIn wsX5_sentence (wsV RX5 145 RJ4 yJ4_setLength_d00df wsJ4_setLength_d00df) := goodIn_app (goodIn_of _ (by decide +kernel)) ggX5_sentence_J4_setLength_d00df
set_option maxRecDepth 20000 in
theorem ggX5_sentence_J4_append_bf812 : GoodIn wsX5_sentence wsJ4_append_bf812 := goodIn_r _ [104, 105, 106, 31, 107, 33, 108, 35, 36, 109, 110, 111, 112, 38, 39, 40, 41, 42, 43, 44, 45, 46, 47, 48, 49, 50, 51, 52, 53, 54, 55, 56, 57, 58, 59, 60, 61, 62, 63, 64, 65, 66, 67, 68, 69, 70, 71, 72, 73, 74, 75, 76, 77, 78, 79, 80, 81, 82, 83, 84, 85, 113, 114, 115, 116, 117, 118, 119, 98, 120, 121, 122, 123, 124, 125, 126, 127, 128, 129, 130, 131, 132, 133, 134, 135, 136, 137, 138, 139, 140, 141, 142, 143, 144, 145, 146, 319, 320, 321, 322] (by decide +kernel) (by decide +kernel)
set_option maxRecDepth 20000 in
theorem gX5_sentence_J4_append_bf812 : GoodIn wsX5_sentence (wsV RX5 148 RJ4 yJ4_append_bf812 wsJ4_append_bf812) := goodIn_app (goodIn_of _ (by decide +kernel)) ggX5_sentence_J4_append_bf812
set_option maxRecDepth 20000 in
theorem ggX5_sentence_J4_append_15ec4 : GoodIn wsX5_sentence wsJ4_append_15ec4 := goodIn_r _ [150, 151, 152, 31, 153, 33, 154, 35, 155, 156, 157, 158, 159, 36, 38, 39, 40, 41, 42, 43, 44, 45, 46, 47, 48, 49, 50, 51, 52, 53, 54, 55, 56, 57, 58, 59, 60, 61, 62, 63, 64, 65, 66, 67, 68, 69, 70, 71, 72, 73, 74, 75, 76, 77, 78, 79, 80, 81, 82, 83, 84, 85, 160, 161, 98, 162, 121, 122, 123, 124, 125, 126, 127, 128, 129, 130, 131, 132, 133, 134, 135, 136, 142, 143, 144, 145, 146, 163, 164, 165, 166, 167, 168, 169, 170, 171, 172, 173, 174, 175, 176, 177, 178, 179, 180, 181, 182, 183, 184, 185, 186, 187, 188, 189, 190, 191, 192, 193, 194, 195, 196, 197, 198, 88, 199, 200, 201, 202, 203, 204, 205, 206, 207, 208, 209, 210, 211, 212, 213, 214, 215, 216, 217, 319, 320, 321, 322] (by decide +kernel) (by decide +kernel)
set_option maxRecDepth 20000 in
theorem gX5_sentence_J4_append_15ec4 : GoodIn wsX5_sentence (wsV RX5 154 RJ4 yJ4_append_15ec4 wsJ4_append_15ec4) := goodIn_app (goodIn_of _ (by decide +kernel)) ggX5_sentence_J4_append_15ec4
set_option maxRecDepth 20000 in
theorem ggX5_sentence_X5_tellStatement : GoodIn wsX5_sentence wsX5_tellStatement := goodIn_r _ [221, 1, 222, 223, 224, 225, 5, 226, 227, 228, 229, 230, 231, 232, 233, 234, 235, 236, 237, 238, 239, 240, 164, 165, 130, 166, 167, 168, 169, 170, 171, 172, 173, 241, 242, 243, 244, 245, 246, 247, 248, 249, 250, 88, 251, 252, 253, 254, 132, 255, 256, 135, 257, 258, 259, 98, 260, 261, 262, 263, 125, 126, 127, 264, 265, 266, 267, 121, 145, 146, 101, 102, 103, 27, 104, 105, 106, 31, 107, 33, 108, 35, 36, 109, 110, 111, 112, 38, 39, 40, 41, 42, 43, 44, 45, 46, 47, 48, 49, 50, 51, 52, 53, 54, 55, 56, 57, 58, 59, 60, 61, 62, 63, 64, 65, 66, 67, 68, 69, 70, 71, 72, 73, 74, 75, 76, 77, 78, 79, 80, 81, 82, 83, 84, 85, 113, 114, 115, 116, 117, 118, 119, 120, 122, 123, 124, 128, 129, 131, 133, 134, 136, 137, 138, 139, 140, 141, 142, 143, 144, 268, 269, 270, 271, 272, 273, 274, 275, 276, 277, 278, 185, 186, 187, 188, 189, 190, 191, 192, 193, 194, 195, 196, 197, 198, 199, 200, 201, 202, 203, 204, 205, 206, 207, 208, 209, 210, 211, 279, 280, 281, 305, 306, 307, 308, 309, 310, 311, 312, 313, 323, 324, 325, 319, 320, 321, 322] (by decide +kernel) (by decide +kernel)
set_option maxRecDepth 20000 in
theorem gX5_sentence_X5_tellStatement : GoodIn wsX5_sentence (wsV RX5 157 RX5 yX5_tellStatement wsX5_tellStatement) := goodIn_app (goodIn_of _ (by decide +kernel)) ggX5_sentence_X5_tellStatement
set_option maxRecDepth 20000 in
theorem ggX5_sentence_X5_tellPremises : GoodIn wsX5_sentence wsX5_tellPremises := goodIn_r _ [285, 7, 1, 286, 287, 288, 11, 289, 290, 19, 9, 10, 12, 13, 147, 148, 149, 27, 150, 151, 152, 31, 153, 33, 154, 35, 155, 156, 157, 158, 159, 36, 38, 39, 40, 41, 42, 43, 44, 45, 46, 47, 48, 49, 50, 51, 52, 53, 54, 55, 56, 57, 58, 59, 60, 61, 62, 63, 64, 65, 66, 67, 68, 69, 70, 71, 72, 73, 74, 75, 76, 77, 78, 79, 80, 81, 82, 83, 84, 85, 160, 161, 98, 162, 121, 122, 123, 124, 125, 126, 127, 128, 129, 130, 131, 132, 133, 134, 135, 136, 142, 143, 144, 145, 146, 163, 164, 165, 166, 167, 168, 169, 170, 171, 172, 173, 174, 175, 176, 177, 178, 179, 180, 181, 182, 183, 184, 185, 186, 187, 188, 189, 190, 191, 192, 193, 194, 195, 196, 197, 198, 88, 199, 200, 201, 202, 203, 204, 205, 206, 207, 208, 209, 210, 211, 212, 213, 214, 215, 216, 217, 291, 292, 293, 294, 295, 296, 101, 102, 103, 104, 105, 106, 107, 108, 109, 110, 111, 112, 113, 114, 115, 116, 117, 118, 119, 120, 137, 138, 139, 140, 141, 305, 306, 307, 308, 309, 310, 311, 312, 313, 314, 315, 316, 317, 318, 319, 320, 321, 322] (by decide +kernel) (by decide +kernel)
set_option maxRecDepth 20000 in
theorem gX5_sentence_X5_tellPremises : GoodIn wsX5_sentence (wsV RX5 166 RX5 yX5_tellPremises wsX5_tellPremises) := goodIn_app (goodIn_of _ (by decide +kernel)) ggX5_sentence_X5_tellPremises
set_option maxRecDepth 20000 in
theorem ggX5_sentence_J4_append_cf468 : GoodIn wsX5_sentence wsJ4_append_cf468 := goodIn_r _ [271, 272, 273, 31, 274, 33, 275, 35, 36, 38, 39, 40, 41, 42, 43, 44, 45, 46, 47, 48, 49, 50, 51, 52, 53, 54, 55, 56, 57, 58, 59, 60, 61, 62, 63, 64, 65, 66, 67, 68, 69, 70, 71, 72, 73, 74, 75, 76, 77, 78, 79, 80, 81, 82, 83, 84, 85, 276, 277, 88, 278, 185, 186, 187, 188, 189, 190, 191, 98, 192, 193, 194, 195, 196, 197, 198, 199, 200, 201, 202, 203, 204, 205, 125, 126, 127, 206, 207, 130, 208, 132, 209, 210, 135, 211, 142, 143, 144, 121, 145, 146, 279, 280, 281, 261, 262, 263, 264, 253, 254, 255, 256, 257, 319, 320, 321, 322] (by decide +kernel) (by decide +kernel)
set_option maxRecDepth 20000 in
theorem gX5_sentence_J4_append_cf468 : GoodIn wsX5_sentence (wsV RX5 169 RJ4 yJ4_append_cf468 wsJ4_append_cf468) := goodIn_app (goodIn_of _ (by decide +kernel)) ggX5_sentence_J4_append_cf468
set_option maxRecDepth 20000 in
theorem ggX5_sentence_J4_length_8abf5 : GoodIn wsX5_sentence wsJ4_length_8abf5 := goodIn_r _ [300, 301, 302, 31, 303, 33, 304, 35, 319, 320, 321, 322] (by decide +kernel) (by decide +kernel)
set_option maxRecDepth 20000 in
theorem gX5_sentence_J4_length_8abf5 : GoodIn wsX5_sentence (wsV RX5 172 RJ4 yJ4_length_8abf5 wsJ4_length_8abf5) := goodIn_app (goodIn_of _ (by decide +kernel)) ggX5_sentence_J4_length_8abf5
theorem dX5_sentence_0 : decode cX5_sentence 0 = .ok (.aload_n 0, 1) := by decide +kernel
theorem dX5_sentence_1 : decode cX5_sentence 1 = .ok (.iload_n 1, 1) := by decide +kernel
theorem dX5_sentence_2 : decode cX5_sentence 2 = .ok (.invokevirtual 105, 3) := by decide +kernel
theorem dX5_sentence_5 : decode cX5_sentence 5 = .ok (.astore_n 2, 1) := by decide +kernel
theorem dX5_sentence_6 : decode cX5_sentence 6 = .ok (.aload_n 2, 1) := by decide +kernel
theorem dX5_sentence_7 : decode cX5_sentence 7 = .ok (.ifnonnull 5, 3) := by decide +kernel
theorem dX5_sentence_10 : decode cX5_sentence 10 = .ok (.iconst (-1), 1) := by decide +kernel
theorem dX5_sentence_11 : decode cX5_sentence 11 = .ok (.ireturn, 1) := by decide +kernel
theorem dX5_sentence_12 : decode cX5_sentence 12 = .ok (.aload_n 0, 1) := by decide +kernel
theorem dX5_sentence_13 : decode cX5_sentence 13 = .ok (.getfield 41, 3) := by decide +kernel
theorem dX5_sentence_16 : decode cX5_sentence 16 = .ok (.iconst 0, 1) := by decide +kernel
theorem dX5_sentence_17 : decode cX5_sentence 17 = .ok (.invokevirtual 145, 3) := by decide +kernel
theorem dX5_sentence_20 : decode cX5_sentence 20 = .ok (.aload_n 0, 1) := by decide +kernel
theorem dX5_sentence_21 : decode cX5_sentence 21 = .ok (.getfield 41, 3) := by decide +kernel
theorem dX5_sentence_24 : decode cX5_sentence 24 = .ok (.iload_n 1, 1) := by decide +kernel
theorem dX5_sentence_25 : decode cX5_sentence 25 = .ok (.invokevirtual 148, 3) := by decide +kernel
theorem dX5_sentence_28 : decode cX5_sentence 28 = .ok (.ldc 152, 2) := by decide +kernel
theorem dX5_sentence_30 : decode cX5_sentence 30 = .ok (.invokevirtual 154, 3) := by decide +kernel
theorem dX5_sentence_33 : decode cX5_sentence 33 = .ok (.pop, 1) := by decide +kernel
theorem dX5_sentence_34 : decode cX5_sentence 34 = .ok (.aload_n 0, 1) := by decide +kernel
theorem dX5_sentence_35 : decode cX5_sentence 35 = .ok (.iload_n 1, 1) := by decide +kernel
theorem dX5_sentence_36 : decode cX5_sentence 36 = .ok (.invokevirtual 157, 3) := by decide +kernel
theorem dX5_sentence_39 : decode cX5_sentence 39 = .ok (.aload_n 0, 1) := by decide +kernel
theorem dX5_sentence_40 : decode cX5_sentence 40 = .ok (.getfield 41, 3) := by decide +kernel
theorem dX5_sentence_43 : decode cX5_sentence 43 = .ok (.ldc 160, 2) := by decide +kernel
theorem dX5_sentence_45 : decode cX5_sentence 45 = .ok (.invokevirtual 154, 3) := by decide +kernel
theorem dX5_sentence_48 : decode cX5_sentence 48 = .ok (.aload_n 2, 1) := by decide +kernel
theorem dX5_sentence_49 : decode cX5_sentence 49 = .ok (.getfield 162, 3) := by decide +kernel
theorem dX5_sentence_52 : decode cX5_sentence 52 = .ok (.invokevirtual 154, 3) := by decide +kernel
theorem dX5_sentence_55 : decode cX5_sentence 55 = .ok (.pop, 1) := by decide +kernel
theorem dX5_sentence_56 : decode cX5_sentence 56 = .ok (.aload_n 0, 1) := by decide +kernel
theorem dX5_sentence_57 : decode cX5_sentence 57 = .ok (.iload_n 1, 1) := by decide +kernel
theorem dX5_sentence_58 : decode cX5_sentence 58 = .ok (.invokevirtual 166, 3) := by decide +kernel
theorem dX5_sentence_61 : decode cX5_sentence 61 = .ok (.aload_n 0, 1) := by decide +kernel
theorem dX5_sentence_62 : decode cX5_sentence 62 = .ok (.getfield 41, 3) := by decide +kernel
theorem dX5_sentence_65 : decode cX5_sentence 65 = .ok (.bipush 46, 2) := by decide +kernel
theorem dX5_sentence_67 : decode cX5_sentence 67 = .ok (.invokevirtual 169, 3) := by decide +kernel
theorem dX5_sentence_70 : decode cX5_sentence 70 = .ok (.pop, 1) := by decide +kernel
theorem dX5_sentence_71 : decode cX5_sentence 71 = .ok (.aload_n 0, 1) := by decide +kernel
theorem dX5_sentence_72 : decode cX5_sentence 72 = .ok (.getfield 41, 3) := by decide +kernel
theorem dX5_sentence_75 : decode cX5_sentence 75 = .ok (.invokevirtual 172, 3) := by decide +kernel
theorem dX5_sentence_78 : decode cX5_sentence 78 = .ok (.ireturn, 1) := by decide +kernel
set_option maxRecDepth 20000 in
theorem ggX5_at_J4_length_8abf5 : GoodIn wsX5_at wsJ4_length_8abf5 := goodIn_r _ [6, 7, 8, 9, 10, 11, 12, 13, 56, 57, 58, 59] (by decide +kernel) (by decide +kernel)
set_option maxRecDepth 20000 in
theorem gX5_at_J4_length_8abf5 : GoodIn wsX5_at (wsV RX5 172 RJ4 yJ4_length_8abf5 wsJ4_length_8abf5) := goodIn_app (goodIn_of _ (by decide +kernel)) ggX5_at_J4_length_8abf5
set_option maxRecDepth 20000 in
theorem ggX5_at_J4_charAt_5068e : GoodIn wsX5_at wsJ4_charAt_5068e := goodIn_r _ [17, 18, 19, 9, 20, 11, 21, 22, 23, 13, 24, 25, 26, 27, 28, 29, 30, 31, 32, 33, 34, 35, 36, 37, 38, 39, 40, 41, 42, 43, 44, 45, 46, 56, 57, 58, 59] (by decide +kernel) (by decide +kernel)
set_option maxRecDepth 20000 in
theorem gX5_at_J4_charAt_5068e : GoodIn wsX5_at (wsV RX5 175 RJ4 yJ4_charAt_5068e wsJ4_charAt_5068e) := goodIn_app (goodIn_of _ (by decide +kernel)) ggX5_at_J4_charAt_5068e
theorem dX5_at_0 : decode cX5_at 0 = .ok (.iload_n 1, 1) := by decide +kernel
theorem dX5_at_1 : decode cX5_at 1 = .ok (.ifCond .lt 14, 3) := by decide +kernel
theorem dX5_at_4 : decode cX5_at 4 = .ok (.iload_n 1, 1) := by decide +kernel
theorem dX5_at_5 : decode cX5_at 5 = .ok (.aload_n 0, 1) := by decide +kernel
theorem dX5_at_6 : decode cX5_at 6 = .ok (.getfield 41, 3) := by decide +kernel
theorem dX5_at_9 : decode cX5_at 9 = .ok (.invokevirtual 172, 3) := by decide +kernel
theorem dX5_at_12 : decode cX5_at 12 = .ok (.if_icmp .lt 6, 3) := by decide +kernel
theorem dX5_at_15 : decode cX5_at 15 = .ok (.bipush (-2), 2) := by decide +kernel
theorem dX5_at_17 : decode cX5_at 17 = .ok (.ireturn, 1) := by decide +kernel
theorem dX5_at_18 : decode cX5_at 18 = .ok (.aload_n 0, 1) := by decide +kernel
theorem dX5_at_19 : decode cX5_at 19 = .ok (.getfield 41, 3) := by decide +kernel
theorem dX5_at_22 : decode cX5_at 22 = .ok (.iload_n 1, 1) := by decide +kernel
theorem dX5_at_23 : decode cX5_at 23 = .ok (.invokevirtual 175, 3) := by decide +kernel
theorem dX5_at_26 : decode cX5_at 26 = .ok (.ireturn, 1) := by decide +kernel
set_option maxRecDepth 20000 in
theorem ggX5_concludes_X2_has : GoodIn wsX5_concludes wsX2_has := goodIn_r _ [8, 9, 42, 43, 44, 45, 46] (by decide +kernel) (by decide +kernel)
set_option maxRecDepth 20000 in
theorem gX5_concludes_X2_has : GoodIn wsX5_concludes (wsV RX5 85 RX2 yX2_has wsX2_has) := goodIn_app (goodIn_of _ (by decide +kernel)) ggX5_concludes_X2_has
set_option maxRecDepth 20000 in
theorem ggX5_concludes_X4_has : GoodIn wsX5_concludes wsX4_has := goodIn_r _ [14, 15, 16, 17, 13, 18, 19, 47, 48, 49] (by decide +kernel) (by decide +kernel)
set_option maxRecDepth 20000 in
theorem gX5_concludes_X4_has : GoodIn wsX5_concludes (wsV RX5 121 RX4 yX4_has wsX4_has) := goodIn_app (goodIn_of _ (by decide +kernel)) ggX5_concludes_X4_has
set_option maxRecDepth 20000 in
theorem ggX5_concludes_X4_isSame : GoodIn wsX5_concludes wsX4_isSame := goodIn_r _ [23, 15, 16, 17, 13, 18, 19, 24, 25, 26, 27, 28, 29, 30, 31, 32, 47, 48, 49] (by decide +kernel) (by decide +kernel)
set_option maxRecDepth 20000 in
theorem gX5_concludes_X4_isSame : GoodIn wsX5_concludes (wsV RX5 179 RX4 yX4_isSame wsX4_isSame) := goodIn_app (goodIn_of _ (by decide +kernel)) ggX5_concludes_X4_isSame
theorem dX5_concludes_0 : decode cX5_concludes 0 = .ok (.aload_n 0, 1) := by decide +kernel
theorem dX5_concludes_1 : decode cX5_concludes 1 = .ok (.getfield 24, 3) := by decide +kernel
theorem dX5_concludes_4 : decode cX5_concludes 4 = .ok (.iload_n 1, 1) := by decide +kernel
theorem dX5_concludes_5 : decode cX5_concludes 5 = .ok (.invokevirtual 85, 3) := by decide +kernel
theorem dX5_concludes_8 : decode cX5_concludes 8 = .ok (.ifCond .eq 34, 3) := by decide +kernel
theorem dX5_concludes_11 : decode cX5_concludes 11 = .ok (.aload_n 0, 1) := by decide +kernel
theorem dX5_concludes_12 : decode cX5_concludes 12 = .ok (.getfield 18, 3) := by decide +kernel
theorem dX5_concludes_15 : decode cX5_concludes 15 = .ok (.iload_n 2, 1) := by decide +kernel
theorem dX5_concludes_16 : decode cX5_concludes 16 = .ok (.invokevirtual 121, 3) := by decide +kernel
theorem dX5_concludes_19 : decode cX5_concludes 19 = .ok (.ifCond .eq 23, 3) := by decide +kernel
theorem dX5_concludes_22 : decode cX5_concludes 22 = .ok (.aload_n 0, 1) := by decide +kernel
theorem dX5_concludes_23 : decode cX5_concludes 23 = .ok (.getfield 28, 3) := by decide +kernel
theorem dX5_concludes_26 : decode cX5_concludes 26 = .ok (.iload_n 1, 1) := by decide +kernel
theorem dX5_concludes_27 : decode cX5_concludes 27 = .ok (.aload_n 0, 1) := by decide +kernel
theorem dX5_concludes_28 : decode cX5_concludes 28 = .ok (.getfield 18, 3) := by decide +kernel
theorem dX5_concludes_31 : decode cX5_concludes 31 = .ok (.iload_n 2, 1) := by decide +kernel
theorem dX5_concludes_32 : decode cX5_concludes 32 = .ok (.invokevirtual 179, 3) := by decide +kernel
theorem dX5_concludes_35 : decode cX5_concludes 35 = .ok (.ifCond .eq 7, 3) := by decide +kernel
theorem dX5_concludes_38 : decode cX5_concludes 38 = .ok (.iconst 1, 1) := by decide +kernel
theorem dX5_concludes_39 : decode cX5_concludes 39 = .ok (.goto 4, 3) := by decide +kernel
theorem dX5_concludes_42 : decode cX5_concludes 42 = .ok (.iconst 0, 1) := by decide +kernel
theorem dX5_concludes_43 : decode cX5_concludes 43 = .ok (.ireturn, 1) := by decide +kernel
theorem dX5_isTerm_0 : decode cX5_isTerm 0 = .ok (.iload_n 0, 1) := by decide +kernel
theorem dX5_isTerm_1 : decode cX5_isTerm 1 = .ok (.ifCond .lt 14, 3) := by decide +kernel
theorem dX5_isTerm_4 : decode cX5_isTerm 4 = .ok (.iload_n 0, 1) := by decide +kernel
theorem dX5_isTerm_5 : decode cX5_isTerm 5 = .ok (.sipush 1000, 3) := by decide +kernel
theorem dX5_isTerm_8 : decode cX5_isTerm 8 = .ok (.if_icmp .ge 7, 3) := by decide +kernel
theorem dX5_isTerm_11 : decode cX5_isTerm 11 = .ok (.iconst 1, 1) := by decide +kernel
theorem dX5_isTerm_12 : decode cX5_isTerm 12 = .ok (.goto 4, 3) := by decide +kernel
theorem dX5_isTerm_15 : decode cX5_isTerm 15 = .ok (.iconst 0, 1) := by decide +kernel
theorem dX5_isTerm_16 : decode cX5_isTerm 16 = .ok (.ireturn, 1) := by decide +kernel
theorem dX5_ruleNumbered_0 : decode cX5_ruleNumbered 0 = .ok (.iload_n 0, 1) := by decide +kernel
theorem dX5_ruleNumbered_1 : decode cX5_ruleNumbered 1 = .ok (.ifCond .lt 19, 3) := by decide +kernel
theorem dX5_ruleNumbered_4 : decode cX5_ruleNumbered 4 = .ok (.iload_n 0, 1) := by decide +kernel
theorem dX5_ruleNumbered_5 : decode cX5_ruleNumbered 5 = .ok (.getstatic 183, 3) := by decide +kernel
theorem dX5_ruleNumbered_8 : decode cX5_ruleNumbered 8 = .ok (.arraylength, 1) := by decide +kernel
theorem dX5_ruleNumbered_9 : decode cX5_ruleNumbered 9 = .ok (.if_icmp .ge 11, 3) := by decide +kernel
theorem dX5_ruleNumbered_12 : decode cX5_ruleNumbered 12 = .ok (.getstatic 183, 3) := by decide +kernel
theorem dX5_ruleNumbered_15 : decode cX5_ruleNumbered 15 = .ok (.iload_n 0, 1) := by decide +kernel
theorem dX5_ruleNumbered_16 : decode cX5_ruleNumbered 16 = .ok (.aaload, 1) := by decide +kernel
theorem dX5_ruleNumbered_17 : decode cX5_ruleNumbered 17 = .ok (.goto 4, 3) := by decide +kernel
theorem dX5_ruleNumbered_20 : decode cX5_ruleNumbered 20 = .ok (.aconst_null, 1) := by decide +kernel
theorem dX5_ruleNumbered_21 : decode cX5_ruleNumbered 21 = .ok (.areturn, 1) := by decide +kernel
set_option maxRecDepth 20000 in
theorem ggX5_ruleOf_X2_has : GoodIn wsX5_ruleOf wsX2_has := goodIn_r _ [6, 7, 28, 29, 30, 31, 32] (by decide +kernel) (by decide +kernel)
set_option maxRecDepth 20000 in
theorem gX5_ruleOf_X2_has : GoodIn wsX5_ruleOf (wsV RX5 85 RX2 yX2_has wsX2_has) := goodIn_app (goodIn_of _ (by decide +kernel)) ggX5_ruleOf_X2_has
set_option maxRecDepth 20000 in
theorem ggX5_ruleOf_X2_ruleNumber : GoodIn wsX5_ruleOf wsX2_ruleNumber := goodIn_r _ [11, 12, 13, 3, 4, 5, 6, 7, 28, 29, 30, 31, 32] (by decide +kernel) (by decide +kernel)
set_option maxRecDepth 20000 in
theorem gX5_ruleOf_X2_ruleNumber : GoodIn wsX5_ruleOf (wsV RX5 136 RX2 yX2_ruleNumber wsX2_ruleNumber) := goodIn_app (goodIn_of _ (by decide +kernel)) ggX5_ruleOf_X2_ruleNumber
set_option maxRecDepth 20000 in
theorem ggX5_ruleOf_X5_ruleNumbered : GoodIn wsX5_ruleOf wsX5_ruleNumbered := goodIn_r _ [17, 18] (by decide +kernel) (by decide +kernel)
set_option maxRecDepth 20000 in
theorem gX5_ruleOf_X5_ruleNumbered : GoodIn wsX5_ruleOf (va_wsS RX5 77 yX5_ruleNumbered wsX5_ruleNumbered) := goodIn_app (goodIn_of _ (by decide +kernel)) ggX5_ruleOf_X5_ruleNumbered
theorem dX5_ruleOf_0 : decode cX5_ruleOf 0 = .ok (.aload_n 0, 1) := by decide +kernel
theorem dX5_ruleOf_1 : decode cX5_ruleOf 1 = .ok (.getfield 24, 3) := by decide +kernel
theorem dX5_ruleOf_4 : decode cX5_ruleOf 4 = .ok (.iload_n 1, 1) := by decide +kernel
theorem dX5_ruleOf_5 : decode cX5_ruleOf 5 = .ok (.invokevirtual 85, 3) := by decide +kernel
theorem dX5_ruleOf_8 : decode cX5_ruleOf 8 = .ok (.ifCond .eq 17, 3) := by decide +kernel
theorem dX5_ruleOf_11 : decode cX5_ruleOf 11 = .ok (.aload_n 0, 1) := by decide +kernel
theorem dX5_ruleOf_12 : decode cX5_ruleOf 12 = .ok (.getfield 24, 3) := by decide +kernel
theorem dX5_ruleOf_15 : decode cX5_ruleOf 15 = .ok (.iload_n 1, 1) := by decide +kernel
theorem dX5_ruleOf_16 : decode cX5_ruleOf 16 = .ok (.invokevirtual 136, 3) := by decide +kernel
theorem dX5_ruleOf_19 : decode cX5_ruleOf 19 = .ok (.invokestatic 77, 3) := by decide +kernel
theorem dX5_ruleOf_22 : decode cX5_ruleOf 22 = .ok (.goto 4, 3) := by decide +kernel
theorem dX5_ruleOf_25 : decode cX5_ruleOf 25 = .ok (.aconst_null, 1) := by decide +kernel
theorem dX5_ruleOf_26 : decode cX5_ruleOf 26 = .ok (.areturn, 1) := by decide +kernel
set_option maxRecDepth 20000 in
theorem ggX5_isInstance_X4_has : GoodIn wsX5_isInstance wsX4_has := goodIn_r _ [11, 12, 13, 14, 10, 15, 16, 30, 31, 32] (by decide +kernel) (by decide +kernel)
set_option maxRecDepth 20000 in
theorem gX5_isInstance_X4_has : GoodIn wsX5_isInstance (wsV RX5 121 RX4 yX4_has wsX4_has) := goodIn_app (goodIn_of _ (by decide +kernel)) ggX5_isInstance_X4_has
set_option maxRecDepth 20000 in
theorem ggX5_isInstance_X5_isTerm : GoodIn wsX5_isInstance wsX5_isTerm := goodIn_r _ [20] (by decide +kernel) (by decide +kernel)
set_option maxRecDepth 20000 in
theorem gX5_isInstance_X5_isTerm : GoodIn wsX5_isInstance (va_wsS RX5 61 yX5_isTerm wsX5_isTerm) := goodIn_app (goodIn_of _ (by decide +kernel)) ggX5_isInstance_X5_isTerm
theorem dX5_isInstance_0 : decode cX5_isInstance 0 = .ok (.aload_n 1, 1) := by decide +kernel
theorem dX5_isInstance_1 : decode cX5_isInstance 1 = .ok (.getstatic 187, 3) := by decide +kernel
theorem dX5_isInstance_4 : decode cX5_isInstance 4 = .ok (.if_acmp .ne 12, 3) := by decide +kernel
theorem dX5_isInstance_7 : decode cX5_isInstance 7 = .ok (.aload_n 0, 1) := by decide +kernel
theorem dX5_isInstance_8 : decode cX5_isInstance 8 = .ok (.getfield 14, 3) := by decide +kernel
theorem dX5_isInstance_11 : decode cX5_isInstance 11 = .ok (.iload_n 2, 1) := by decide +kernel
theorem dX5_isInstance_12 : decode cX5_isInstance 12 = .ok (.invokevirtual 121, 3) := by decide +kernel
theorem dX5_isInstance_15 : decode cX5_isInstance 15 = .ok (.ireturn, 1) := by decide +kernel
theorem dX5_isInstance_16 : decode cX5_isInstance 16 = .ok (.aload_n 1, 1) := by decide +kernel
theorem dX5_isInstance_17 : decode cX5_isInstance 17 = .ok (.getstatic 191, 3) := by decide +kernel
theorem dX5_isInstance_20 : decode cX5_isInstance 20 = .ok (.if_acmp .eq 10, 3) := by decide +kernel
theorem dX5_isInstance_23 : decode cX5_isInstance 23 = .ok (.aload_n 1, 1) := by decide +kernel
theorem dX5_isInstance_24 : decode cX5_isInstance 24 = .ok (.getstatic 194, 3) := by decide +kernel
theorem dX5_isInstance_27 : decode cX5_isInstance 27 = .ok (.if_acmp .ne 12, 3) := by decide +kernel
theorem dX5_isInstance_30 : decode cX5_isInstance 30 = .ok (.aload_n 0, 1) := by decide +kernel
theorem dX5_isInstance_31 : decode cX5_isInstance 31 = .ok (.getfield 18, 3) := by decide +kernel
theorem dX5_isInstance_34 : decode cX5_isInstance 34 = .ok (.iload_n 2, 1) := by decide +kernel
theorem dX5_isInstance_35 : decode cX5_isInstance 35 = .ok (.invokevirtual 121, 3) := by decide +kernel
theorem dX5_isInstance_38 : decode cX5_isInstance 38 = .ok (.ireturn, 1) := by decide +kernel
theorem dX5_isInstance_39 : decode cX5_isInstance 39 = .ok (.aload_n 1, 1) := by decide +kernel
theorem dX5_isInstance_40 : decode cX5_isInstance 40 = .ok (.getstatic 197, 3) := by decide +kernel
theorem dX5_isInstance_43 : decode cX5_isInstance 43 = .ok (.if_acmp .ne 10, 3) := by decide +kernel
theorem dX5_isInstance_46 : decode cX5_isInstance 46 = .ok (.iload_n 2, 1) := by decide +kernel
theorem dX5_isInstance_47 : decode cX5_isInstance 47 = .ok (.invokestatic 61, 3) := by decide +kernel
theorem dX5_isInstance_50 : decode cX5_isInstance 50 = .ok (.ifCond .eq 7, 3) := by decide +kernel
theorem dX5_isInstance_53 : decode cX5_isInstance 53 = .ok (.iconst 1, 1) := by decide +kernel
theorem dX5_isInstance_54 : decode cX5_isInstance 54 = .ok (.goto 4, 3) := by decide +kernel
theorem dX5_isInstance_57 : decode cX5_isInstance 57 = .ok (.iconst 0, 1) := by decide +kernel
theorem dX5_isInstance_58 : decode cX5_isInstance 58 = .ok (.ireturn, 1) := by decide +kernel
set_option maxRecDepth 20000 in
theorem ggX5_derive_X4_clear : GoodIn wsX5_derive wsX4_clear := goodIn_r _ [6, 7, 8, 9, 5, 10, 11, 12, 175, 176, 177] (by decide +kernel) (by decide +kernel)
set_option maxRecDepth 20000 in
theorem gX5_derive_X4_clear : GoodIn wsX5_derive (wsV RX5 200 RX4 yX4_clear wsX4_clear) := goodIn_app (goodIn_of _ (by decide +kernel)) ggX5_derive_X4_clear
set_option maxRecDepth 20000 in
theorem ggX5_derive_X5_ruleOf : GoodIn wsX5_derive wsX5_ruleOf := goodIn_r _ [17, 18, 19, 20, 21, 22, 23, 24, 25, 26, 27, 28, 29, 30, 31, 32, 16, 33, 34, 166, 167, 168, 169, 170, 171, 172, 173, 174, 178, 179, 180, 181, 182] (by decide +kernel) (by decide +kernel)
set_option maxRecDepth 20000 in
theorem gX5_derive_X5_ruleOf : GoodIn wsX5_derive (wsV RX5 105 RX5 yX5_ruleOf wsX5_ruleOf) := goodIn_app (goodIn_of _ (by decide +kernel)) ggX5_derive_X5_ruleOf
set_option maxRecDepth 20000 in
theorem ggX5_derive_X5_fits : GoodIn wsX5_derive wsX5_fits := goodIn_r _ [38, 18, 39, 40, 41, 42, 22, 43, 44, 30, 20, 21, 23, 24, 45, 46, 47, 48, 49, 50, 51, 52, 53, 54, 55, 56, 57, 58, 59, 60, 61, 62, 63, 64, 65, 66, 67, 68, 69, 70, 71, 72, 73, 74, 75, 76, 77, 78, 79, 80, 81, 16, 82, 1, 83, 84, 85, 5, 86, 11, 87, 88, 89, 90, 91, 92, 93, 94, 95, 96, 97, 98, 99, 100, 101, 102, 103, 104, 105, 106, 107, 108, 109, 110, 111, 112, 113, 114, 115, 116, 117, 118, 119, 120, 121, 122, 123, 124, 125, 126, 127, 128, 129, 130, 131, 132, 133, 134, 12, 135, 136, 137, 138, 139, 140, 141, 142, 166, 167, 168, 169, 170, 171, 172, 173, 174, 178, 179, 180, 181, 182, 183, 175, 176, 177] (by decide +kernel) (by decide +kernel)
set_option maxRecDepth 20000 in
theorem gX5_derive_X5_fits : GoodIn wsX5_derive (wsV RX5 203 RX5 yX5_fits wsX5_fits) := goodIn_app (goodIn_of _ (by decide +kernel)) ggX5_derive_X5_fits
set_option maxRecDepth 20000 in
theorem ggX5_derive_X5_conclude : GoodIn wsX5_derive wsX5_conclude := goodIn_r _ [146, 18, 147, 1, 148, 149, 150, 151, 152, 39, 153, 154, 155, 22, 156, 157, 30, 20, 21, 23, 24, 158, 159, 160, 5, 161, 162, 84, 85, 86, 11, 163, 132, 133, 134, 12, 7, 8, 9, 10, 135, 136, 137, 66, 138, 68, 139, 140, 141, 142, 87, 88, 16, 89, 90, 52, 53, 54, 55, 56, 57, 58, 59, 60, 61, 62, 91, 92, 93, 94, 95, 96, 97, 98, 99, 100, 101, 102, 103, 104, 105, 106, 107, 108, 109, 110, 111, 112, 113, 114, 115, 116, 117, 118, 119, 120, 121, 122, 123, 124, 125, 126, 127, 128, 129, 130, 164, 165, 166, 167, 168, 169, 170, 171, 172, 173, 174, 178, 179, 180, 181, 182, 175, 176, 177, 183] (by decide +kernel) (by decide +kernel)
set_option maxRecDepth 20000 in
theorem gX5_derive_X5_conclude : GoodIn wsX5_derive (wsV RX5 207 RX5 yX5_conclude wsX5_conclude) := goodIn_app (goodIn_of _ (by decide +kernel)) ggX5_derive_X5_conclude
theorem dX5_derive_0 : decode cX5_derive 0 = .ok (.aload_n 0, 1) := by decide +kernel
theorem dX5_derive_1 : decode cX5_derive 1 = .ok (.getfield 28, 3) := by decide +kernel
theorem dX5_derive_4 : decode cX5_derive 4 = .ok (.iload_n 1, 1) := by decide +kernel
theorem dX5_derive_5 : decode cX5_derive 5 = .ok (.invokevirtual 200, 3) := by decide +kernel
theorem dX5_derive_8 : decode cX5_derive 8 = .ok (.aload_n 0, 1) := by decide +kernel
theorem dX5_derive_9 : decode cX5_derive 9 = .ok (.iload_n 1, 1) := by decide +kernel
theorem dX5_derive_10 : decode cX5_derive 10 = .ok (.invokevirtual 105, 3) := by decide +kernel
theorem dX5_derive_13 : decode cX5_derive 13 = .ok (.astore_n 2, 1) := by decide +kernel
theorem dX5_derive_14 : decode cX5_derive 14 = .ok (.aload_n 2, 1) := by decide +kernel
theorem dX5_derive_15 : decode cX5_derive 15 = .ok (.ifnull 18, 3) := by decide +kernel
theorem dX5_derive_18 : decode cX5_derive 18 = .ok (.aload_n 0, 1) := by decide +kernel
theorem dX5_derive_19 : decode cX5_derive 19 = .ok (.iload_n 1, 1) := by decide +kernel
theorem dX5_derive_20 : decode cX5_derive 20 = .ok (.aload_n 2, 1) := by decide +kernel
theorem dX5_derive_21 : decode cX5_derive 21 = .ok (.invokevirtual 203, 3) := by decide +kernel
theorem dX5_derive_24 : decode cX5_derive 24 = .ok (.ifCond .eq 9, 3) := by decide +kernel
theorem dX5_derive_27 : decode cX5_derive 27 = .ok (.aload_n 0, 1) := by decide +kernel
theorem dX5_derive_28 : decode cX5_derive 28 = .ok (.iload_n 1, 1) := by decide +kernel
theorem dX5_derive_29 : decode cX5_derive 29 = .ok (.aload_n 2, 1) := by decide +kernel
theorem dX5_derive_30 : decode cX5_derive 30 = .ok (.invokevirtual 207, 3) := by decide +kernel
theorem dX5_derive_33 : decode cX5_derive 33 = .ok (.return_, 1) := by decide +kernel
set_option maxRecDepth 20000 in
theorem ggX5_fits_X2_premiseCount : GoodIn wsX5_fits wsX2_premiseCount := goodIn_r _ [7, 8, 9, 10, 11, 6, 12, 13, 126, 127, 128, 129, 130] (by decide +kernel) (by decide +kernel)
set_option maxRecDepth 20000 in
theorem gX5_fits_X2_premiseCount : GoodIn wsX5_fits (wsV RX5 108 RX2 yX2_premiseCount wsX2_premiseCount) := goodIn_app (goodIn_of _ (by decide +kernel)) ggX5_fits_X2_premiseCount
set_option maxRecDepth 20000 in
theorem ggX5_fits_X3_takes : GoodIn wsX5_fits wsX3_takes := goodIn_r _ [18, 19, 20, 21, 22, 23, 24, 25, 26, 27, 28, 29, 30, 31] (by decide +kernel) (by decide +kernel)
set_option maxRecDepth 20000 in
theorem gX5_fits_X3_takes : GoodIn wsX5_fits (wsV RX5 88 RX3 yX3_takes wsX3_takes) := goodIn_app (goodIn_of _ (by decide +kernel)) ggX5_fits_X3_takes
set_option maxRecDepth 20000 in
theorem ggX5_fits_X1_forget : GoodIn wsX5_fits wsX1_forget := goodIn_r _ [36, 37, 38, 39, 40, 41, 131] (by decide +kernel) (by decide +kernel)
set_option maxRecDepth 20000 in
theorem gX5_fits_X1_forget : GoodIn wsX5_fits (wsV RX5 211 RX1 yX1_forget wsX1_forget) := goodIn_app (goodIn_of _ (by decide +kernel)) ggX5_fits_X1_forget
set_option maxRecDepth 20000 in
theorem ggX5_fits_X2_premiseAt : GoodIn wsX5_fits wsX2_premiseAt := goodIn_r _ [45, 46, 47, 4, 5, 6, 7, 8, 9, 10, 11, 12, 13, 126, 127, 128, 129, 130] (by decide +kernel) (by decide +kernel)
set_option maxRecDepth 20000 in
theorem gX5_fits_X2_premiseAt : GoodIn wsX5_fits (wsV RX5 214 RX2 yX2_premiseAt wsX2_premiseAt) := goodIn_app (goodIn_of _ (by decide +kernel)) ggX5_fits_X2_premiseAt
set_option maxRecDepth 20000 in
theorem ggX5_fits_X5_isAsTold : GoodIn wsX5_fits wsX5_isAsTold := goodIn_r _ [52, 53, 2, 54, 55, 56, 57, 58, 59, 60, 61, 51, 62, 63, 21, 22, 23, 24, 25, 26, 27, 28, 29, 30, 31, 64, 65, 66, 67, 68, 69, 70, 71, 72, 73, 74, 75, 76, 77, 78, 79, 80, 81, 82, 83, 84, 85, 86, 87, 88, 89, 90, 91, 92, 93, 94, 95, 96, 97, 98, 99, 100, 101, 102, 35, 103, 104, 105, 106, 107, 108, 109, 110, 111, 112, 37, 113, 114, 115, 116, 117, 118, 119, 120, 121, 122, 123, 124, 125, 132, 133, 134, 131] (by decide +kernel) (by decide +kernel)
set_option maxRecDepth 20000 in
theorem gX5_fits_X5_isAsTold : GoodIn wsX5_fits (wsV RX5 220 RX5 yX5_isAsTold wsX5_isAsTold) := goodIn_app (goodIn_of _ (by decide +kernel)) ggX5_fits_X5_isAsTold
theorem dX5_fits_0 : decode cX5_fits 0 = .ok (.aload_n 0, 1) := by decide +kernel
theorem dX5_fits_1 : decode cX5_fits 1 = .ok (.getfield 24, 3) := by decide +kernel
theorem dX5_fits_4 : decode cX5_fits 4 = .ok (.iload_n 1, 1) := by decide +kernel
theorem dX5_fits_5 : decode cX5_fits 5 = .ok (.invokevirtual 108, 3) := by decide +kernel
theorem dX5_fits_8 : decode cX5_fits 8 = .ok (.aload_n 2, 1) := by decide +kernel
theorem dX5_fits_9 : decode cX5_fits 9 = .ok (.invokevirtual 88, 3) := by decide +kernel
theorem dX5_fits_12 : decode cX5_fits 12 = .ok (.if_icmp .eq 5, 3) := by decide +kernel
theorem dX5_fits_15 : decode cX5_fits 15 = .ok (.iconst 0, 1) := by decide +kernel
theorem dX5_fits_16 : decode cX5_fits 16 = .ok (.ireturn, 1) := by decide +kernel
theorem dX5_fits_17 : decode cX5_fits 17 = .ok (.aload_n 0, 1) := by decide +kernel
theorem dX5_fits_18 : decode cX5_fits 18 = .ok (.getfield 34, 3) := by decide +kernel
theorem dX5_fits_21 : decode cX5_fits 21 = .ok (.invokevirtual 211, 3) := by decide +kernel
theorem dX5_fits_24 : decode cX5_fits 24 = .ok (.iconst 0, 1) := by decide +kernel
theorem dX5_fits_25 : decode cX5_fits 25 = .ok (.istore_n 3, 1) := by decide +kernel
theorem dX5_fits_26 : decode cX5_fits 26 = .ok (.iload_n 3, 1) := by decide +kernel
theorem dX5_fits_27 : decode cX5_fits 27 = .ok (.aload_n 2, 1) := by decide +kernel
theorem dX5_fits_28 : decode cX5_fits 28 = .ok (.invokevirtual 88, 3) := by decide +kernel
theorem dX5_fits_31 : decode cX5_fits 31 = .ok (.if_icmp .ge 34, 3) := by decide +kernel
theorem dX5_fits_34 : decode cX5_fits 34 = .ok (.aload_n 0, 1) := by decide +kernel
theorem dX5_fits_35 : decode cX5_fits 35 = .ok (.aload_n 0, 1) := by decide +kernel
theorem dX5_fits_36 : decode cX5_fits 36 = .ok (.getfield 24, 3) := by decide +kernel
theorem dX5_fits_39 : decode cX5_fits 39 = .ok (.iload_n 1, 1) := by decide +kernel
theorem dX5_fits_40 : decode cX5_fits 40 = .ok (.iload_n 3, 1) := by decide +kernel
theorem dX5_fits_41 : decode cX5_fits 41 = .ok (.invokevirtual 214, 3) := by decide +kernel
theorem dX5_fits_44 : decode cX5_fits 44 = .ok (.aload_n 2, 1) := by decide +kernel
theorem dX5_fits_45 : decode cX5_fits 45 = .ok (.getfield 217, 3) := by decide +kernel
theorem dX5_fits_48 : decode cX5_fits 48 = .ok (.iload_n 3, 1) := by decide +kernel
theorem dX5_fits_49 : decode cX5_fits 49 = .ok (.iconst 4, 1) := by decide +kernel
theorem dX5_fits_50 : decode cX5_fits 50 = .ok (.imul, 1) := by decide +kernel
theorem dX5_fits_51 : decode cX5_fits 51 = .ok (.invokevirtual 220, 3) := by decide +kernel
theorem dX5_fits_54 : decode cX5_fits 54 = .ok (.ifCond .ne 5, 3) := by decide +kernel
theorem dX5_fits_57 : decode cX5_fits 57 = .ok (.iconst 0, 1) := by decide +kernel
theorem dX5_fits_58 : decode cX5_fits 58 = .ok (.ireturn, 1) := by decide +kernel
theorem dX5_fits_59 : decode cX5_fits 59 = .ok (.iinc 3 1, 3) := by decide +kernel
theorem dX5_fits_62 : decode cX5_fits 62 = .ok (.goto (-36), 3) := by decide +kernel
theorem dX5_fits_65 : decode cX5_fits 65 = .ok (.iconst 1, 1) := by decide +kernel
theorem dX5_fits_66 : decode cX5_fits 66 = .ok (.ireturn, 1) := by decide +kernel
set_option maxRecDepth 20000 in
theorem ggX5_isAsTold_X4_kind : GoodIn wsX5_isAsTold wsX4_kind := goodIn_r _ [7, 8, 89, 90, 91] (by decide +kernel) (by decide +kernel)
set_option maxRecDepth 20000 in
theorem gX5_isAsTold_X4_kind : GoodIn wsX5_isAsTold (wsV RX5 139 RX4 yX4_kind wsX4_kind) := goodIn_app (goodIn_of _ (by decide +kernel)) ggX5_isAsTold_X4_kind
set_option maxRecDepth 20000 in
theorem ggX5_isAsTold_X5_signAt : GoodIn wsX5_isAsTold wsX5_signAt := goodIn_r _ [12, 13, 14, 15, 16, 17, 18, 19, 20, 21, 22, 23, 24, 25, 26, 27, 28, 29, 30, 31, 32, 33, 34, 35, 36, 37, 38, 39, 40, 41, 42, 43, 44, 45, 46, 47, 48, 49, 50, 51, 52, 53, 54, 55, 56, 57, 58, 59, 60, 61] (by decide +kernel) (by decide +kernel)
set_option maxRecDepth 20000 in
theorem gX5_isAsTold_X5_signAt : GoodIn wsX5_isAsTold (va_wsS RX5 224 yX5_signAt wsX5_signAt) := goodIn_app (goodIn_of _ (by decide +kernel)) ggX5_isAsTold_X5_signAt
set_option maxRecDepth 20000 in
theorem ggX5_isAsTold_X1_kindFor : GoodIn wsX5_isAsTold wsX1_kindFor := goodIn_r _ [65] (by decide +kernel) (by decide +kernel)
set_option maxRecDepth 20000 in
theorem gX5_isAsTold_X1_kindFor : GoodIn wsX5_isAsTold (va_wsS RX5 228 yX1_kindFor wsX1_kindFor) := goodIn_app (goodIn_of _ (by decide +kernel)) ggX5_isAsTold_X1_kindFor
set_option maxRecDepth 20000 in
theorem ggX5_isAsTold_X4_number : GoodIn wsX5_isAsTold wsX4_number := goodIn_r _ [69, 8, 70, 89, 90, 91] (by decide +kernel) (by decide +kernel)
set_option maxRecDepth 20000 in
theorem gX5_isAsTold_X4_number : GoodIn wsX5_isAsTold (wsV RX5 142 RX4 yX4_number wsX4_number) := goodIn_app (goodIn_of _ (by decide +kernel)) ggX5_isAsTold_X4_number
set_option maxRecDepth 20000 in
theorem ggX5_isAsTold_X1_agree : GoodIn wsX5_isAsTold wsX1_agree := goodIn_r _ [74, 75, 76, 77, 78, 64, 79, 92] (by decide +kernel) (by decide +kernel)
set_option maxRecDepth 20000 in
theorem gX5_isAsTold_X1_agree : GoodIn wsX5_isAsTold (wsV RX5 232 RX1 yX1_agree wsX1_agree) := goodIn_app (goodIn_of _ (by decide +kernel)) ggX5_isAsTold_X1_agree
theorem dX5_isAsTold_0 : decode cX5_isAsTold 0 = .ok (.aload_n 0, 1) := by decide +kernel
theorem dX5_isAsTold_1 : decode cX5_isAsTold 1 = .ok (.getfield 28, 3) := by decide +kernel
theorem dX5_isAsTold_4 : decode cX5_isAsTold 4 = .ok (.iload_n 1, 1) := by decide +kernel
theorem dX5_isAsTold_5 : decode cX5_isAsTold 5 = .ok (.invokevirtual 139, 3) := by decide +kernel
theorem dX5_isAsTold_8 : decode cX5_isAsTold 8 = .ok (.aload_n 2, 1) := by decide +kernel
theorem dX5_isAsTold_9 : decode cX5_isAsTold 9 = .ok (.iload_n 3, 1) := by decide +kernel
theorem dX5_isAsTold_10 : decode cX5_isAsTold 10 = .ok (.invokestatic 224, 3) := by decide +kernel
theorem dX5_isAsTold_13 : decode cX5_isAsTold 13 = .ok (.invokestatic 228, 3) := by decide +kernel
theorem dX5_isAsTold_16 : decode cX5_isAsTold 16 = .ok (.if_icmp .eq 5, 3) := by decide +kernel
theorem dX5_isAsTold_19 : decode cX5_isAsTold 19 = .ok (.iconst 0, 1) := by decide +kernel
theorem dX5_isAsTold_20 : decode cX5_isAsTold 20 = .ok (.ireturn, 1) := by decide +kernel
theorem dX5_isAsTold_21 : decode cX5_isAsTold 21 = .ok (.iconst 1, 1) := by decide +kernel
theorem dX5_isAsTold_22 : decode cX5_isAsTold 22 = .ok (.istore 4, 2) := by decide +kernel
theorem dX5_isAsTold_24 : decode cX5_isAsTold 24 = .ok (.iload 4, 2) := by decide +kernel
theorem dX5_isAsTold_26 : decode cX5_isAsTold 26 = .ok (.iconst 3, 1) := by decide +kernel
theorem dX5_isAsTold_27 : decode cX5_isAsTold 27 = .ok (.if_icmp .gt 39, 3) := by decide +kernel
theorem dX5_isAsTold_30 : decode cX5_isAsTold 30 = .ok (.aload_n 0, 1) := by decide +kernel
theorem dX5_isAsTold_31 : decode cX5_isAsTold 31 = .ok (.getfield 34, 3) := by decide +kernel
theorem dX5_isAsTold_34 : decode cX5_isAsTold 34 = .ok (.aload_n 2, 1) := by decide +kernel
theorem dX5_isAsTold_35 : decode cX5_isAsTold 35 = .ok (.iload_n 3, 1) := by decide +kernel
theorem dX5_isAsTold_36 : decode cX5_isAsTold 36 = .ok (.iload 4, 2) := by decide +kernel
theorem dX5_isAsTold_38 : decode cX5_isAsTold 38 = .ok (.iadd, 1) := by decide +kernel
theorem dX5_isAsTold_39 : decode cX5_isAsTold 39 = .ok (.invokestatic 224, 3) := by decide +kernel
theorem dX5_isAsTold_42 : decode cX5_isAsTold 42 = .ok (.aload_n 0, 1) := by decide +kernel
theorem dX5_isAsTold_43 : decode cX5_isAsTold 43 = .ok (.getfield 28, 3) := by decide +kernel
theorem dX5_isAsTold_46 : decode cX5_isAsTold 46 = .ok (.iload_n 1, 1) := by decide +kernel
theorem dX5_isAsTold_47 : decode cX5_isAsTold 47 = .ok (.iload 4, 2) := by decide +kernel
theorem dX5_isAsTold_49 : decode cX5_isAsTold 49 = .ok (.invokevirtual 142, 3) := by decide +kernel
theorem dX5_isAsTold_52 : decode cX5_isAsTold 52 = .ok (.invokevirtual 232, 3) := by decide +kernel
theorem dX5_isAsTold_55 : decode cX5_isAsTold 55 = .ok (.ifCond .ne 5, 3) := by decide +kernel
theorem dX5_isAsTold_58 : decode cX5_isAsTold 58 = .ok (.iconst 0, 1) := by decide +kernel
theorem dX5_isAsTold_59 : decode cX5_isAsTold 59 = .ok (.ireturn, 1) := by decide +kernel
theorem dX5_isAsTold_60 : decode cX5_isAsTold 60 = .ok (.iinc 4 1, 3) := by decide +kernel
theorem dX5_isAsTold_63 : decode cX5_isAsTold 63 = .ok (.goto (-39), 3) := by decide +kernel
theorem dX5_isAsTold_66 : decode cX5_isAsTold 66 = .ok (.iconst 1, 1) := by decide +kernel
theorem dX5_isAsTold_67 : decode cX5_isAsTold 67 = .ok (.ireturn, 1) := by decide +kernel
set_option maxRecDepth 20000 in
theorem ggX5_conclude_X2_instance : GoodIn wsX5_conclude wsX2_instance := goodIn_r _ [14, 15, 16, 17, 18, 13, 19, 20, 117, 118, 119, 120, 121] (by decide +kernel) (by decide +kernel)
set_option maxRecDepth 20000 in
theorem gX5_conclude_X2_instance : GoodIn wsX5_conclude (wsV RX5 236 RX2 yX2_instance wsX2_instance) := goodIn_app (goodIn_of _ (by decide +kernel)) ggX5_conclude_X2_instance
set_option maxRecDepth 20000 in
theorem ggX5_conclude_X4_put : GoodIn wsX5_conclude wsX4_put := goodIn_r _ [25, 26, 27, 28, 24, 29, 30, 31, 32, 33, 34, 35, 36, 37, 38, 39, 122, 123, 124] (by decide +kernel) (by decide +kernel)
set_option maxRecDepth 20000 in
theorem gX5_conclude_X4_put : GoodIn wsX5_conclude (wsV RX5 129 RX4 yX4_put wsX4_put) := goodIn_app (goodIn_of _ (by decide +kernel)) ggX5_conclude_X4_put
set_option maxRecDepth 20000 in
theorem ggX5_conclude_X1_agree : GoodIn wsX5_conclude wsX1_agree := goodIn_r _ [44, 45, 46, 47, 48, 43, 49, 125] (by decide +kernel) (by decide +kernel)
set_option maxRecDepth 20000 in
theorem gX5_conclude_X1_agree : GoodIn wsX5_conclude (wsV RX5 232 RX1 yX1_agree wsX1_agree) := goodIn_app (goodIn_of _ (by decide +kernel)) ggX5_conclude_X1_agree
set_option maxRecDepth 20000 in
theorem ggX5_conclude_X5_signAt : GoodIn wsX5_conclude wsX5_signAt := goodIn_r _ [53, 54, 55, 56, 57, 58, 59, 60, 61, 62, 63, 64, 65, 66, 67, 68, 69, 70, 71, 72, 73, 74, 75, 76, 77, 78, 79, 80, 81, 82, 83, 84, 85, 86, 87, 88, 89, 90, 91, 92, 93, 94, 95, 96, 97, 98, 99, 100, 101, 102] (by decide +kernel) (by decide +kernel)
set_option maxRecDepth 20000 in
theorem gX5_conclude_X5_signAt : GoodIn wsX5_conclude (va_wsS RX5 224 yX5_signAt wsX5_signAt) := goodIn_app (goodIn_of _ (by decide +kernel)) ggX5_conclude_X5_signAt
set_option maxRecDepth 20000 in
theorem ggX5_conclude_X1_kindFor : GoodIn wsX5_conclude wsX1_kindFor := goodIn_r _ [105] (by decide +kernel) (by decide +kernel)
set_option maxRecDepth 20000 in
theorem gX5_conclude_X1_kindFor : GoodIn wsX5_conclude (va_wsS RX5 228 yX1_kindFor wsX1_kindFor) := goodIn_app (goodIn_of _ (by decide +kernel)) ggX5_conclude_X1_kindFor
set_option maxRecDepth 20000 in
theorem ggX5_conclude_X1_meaning : GoodIn wsX5_conclude wsX1_meaning := goodIn_r _ [49, 45, 125] (by decide +kernel) (by decide +kernel)
set_option maxRecDepth 20000 in
theorem gX5_conclude_X1_meaning : GoodIn wsX5_conclude (wsV RX5 242 RX1 yX1_meaning wsX1_meaning) := goodIn_app (goodIn_of _ (by decide +kernel)) ggX5_conclude_X1_meaning
set_option maxRecDepth 20000 in
theorem ggX5_conclude_X4_put_ : GoodIn wsX5_conclude wsX4_put_ := goodIn_r _ [39, 30, 35, 122, 123, 124] (by decide +kernel) (by decide +kernel)
set_option maxRecDepth 20000 in
theorem gX5_conclude_X4_put_ : GoodIn wsX5_conclude (wsV RX5 245 RX4 yX4_put_ wsX4_put_) := goodIn_app (goodIn_of _ (by decide +kernel)) ggX5_conclude_X4_put_
theorem dX5_conclude_0 : decode cX5_conclude 0 = .ok (.aload_n 0, 1) := by decide +kernel
theorem dX5_conclude_1 : decode cX5_conclude 1 = .ok (.getfield 24, 3) := by decide +kernel
theorem dX5_conclude_4 : decode cX5_conclude 4 = .ok (.iload_n 1, 1) := by decide +kernel
theorem dX5_conclude_5 : decode cX5_conclude 5 = .ok (.invokevirtual 236, 3) := by decide +kernel
theorem dX5_conclude_8 : decode cX5_conclude 8 = .ok (.istore_n 3, 1) := by decide +kernel
theorem dX5_conclude_9 : decode cX5_conclude 9 = .ok (.aload_n 2, 1) := by decide +kernel
theorem dX5_conclude_10 : decode cX5_conclude 10 = .ok (.getstatic 187, 3) := by decide +kernel
theorem dX5_conclude_13 : decode cX5_conclude 13 = .ok (.if_acmp .ne 19, 3) := by decide +kernel
theorem dX5_conclude_16 : decode cX5_conclude 16 = .ok (.aload_n 0, 1) := by decide +kernel
theorem dX5_conclude_17 : decode cX5_conclude 17 = .ok (.getfield 28, 3) := by decide +kernel
theorem dX5_conclude_20 : decode cX5_conclude 20 = .ok (.iload_n 1, 1) := by decide +kernel
theorem dX5_conclude_21 : decode cX5_conclude 21 = .ok (.aload_n 0, 1) := by decide +kernel
theorem dX5_conclude_22 : decode cX5_conclude 22 = .ok (.getfield 14, 3) := by decide +kernel
theorem dX5_conclude_25 : decode cX5_conclude 25 = .ok (.iload_n 3, 1) := by decide +kernel
theorem dX5_conclude_26 : decode cX5_conclude 26 = .ok (.invokevirtual 129, 3) := by decide +kernel
theorem dX5_conclude_29 : decode cX5_conclude 29 = .ok (.goto 115, 3) := by decide +kernel
theorem dX5_conclude_32 : decode cX5_conclude 32 = .ok (.aload_n 2, 1) := by decide +kernel
theorem dX5_conclude_33 : decode cX5_conclude 33 = .ok (.getstatic 191, 3) := by decide +kernel
theorem dX5_conclude_36 : decode cX5_conclude 36 = .ok (.if_acmp .eq 10, 3) := by decide +kernel
theorem dX5_conclude_39 : decode cX5_conclude 39 = .ok (.aload_n 2, 1) := by decide +kernel
theorem dX5_conclude_40 : decode cX5_conclude 40 = .ok (.getstatic 194, 3) := by decide +kernel
theorem dX5_conclude_43 : decode cX5_conclude 43 = .ok (.if_acmp .ne 19, 3) := by decide +kernel
theorem dX5_conclude_46 : decode cX5_conclude 46 = .ok (.aload_n 0, 1) := by decide +kernel
theorem dX5_conclude_47 : decode cX5_conclude 47 = .ok (.getfield 28, 3) := by decide +kernel
theorem dX5_conclude_50 : decode cX5_conclude 50 = .ok (.iload_n 1, 1) := by decide +kernel
theorem dX5_conclude_51 : decode cX5_conclude 51 = .ok (.aload_n 0, 1) := by decide +kernel
theorem dX5_conclude_52 : decode cX5_conclude 52 = .ok (.getfield 18, 3) := by decide +kernel
theorem dX5_conclude_55 : decode cX5_conclude 55 = .ok (.iload_n 3, 1) := by decide +kernel
theorem dX5_conclude_56 : decode cX5_conclude 56 = .ok (.invokevirtual 129, 3) := by decide +kernel
theorem dX5_conclude_59 : decode cX5_conclude 59 = .ok (.goto 85, 3) := by decide +kernel
theorem dX5_conclude_62 : decode cX5_conclude 62 = .ok (.aload_n 2, 1) := by decide +kernel
theorem dX5_conclude_63 : decode cX5_conclude 63 = .ok (.getstatic 197, 3) := by decide +kernel
theorem dX5_conclude_66 : decode cX5_conclude 66 = .ok (.if_acmp .ne 14, 3) := by decide +kernel
theorem dX5_conclude_69 : decode cX5_conclude 69 = .ok (.aload_n 0, 1) := by decide +kernel
theorem dX5_conclude_70 : decode cX5_conclude 70 = .ok (.getfield 34, 3) := by decide +kernel
theorem dX5_conclude_73 : decode cX5_conclude 73 = .ok (.bipush 105, 2) := by decide +kernel
theorem dX5_conclude_75 : decode cX5_conclude 75 = .ok (.iload_n 3, 1) := by decide +kernel
theorem dX5_conclude_76 : decode cX5_conclude 76 = .ok (.invokevirtual 232, 3) := by decide +kernel
theorem dX5_conclude_79 : decode cX5_conclude 79 = .ok (.pop, 1) := by decide +kernel
theorem dX5_conclude_80 : decode cX5_conclude 80 = .ok (.aload_n 0, 1) := by decide +kernel
theorem dX5_conclude_81 : decode cX5_conclude 81 = .ok (.getfield 28, 3) := by decide +kernel
theorem dX5_conclude_84 : decode cX5_conclude 84 = .ok (.iload_n 1, 1) := by decide +kernel
theorem dX5_conclude_85 : decode cX5_conclude 85 = .ok (.aload_n 2, 1) := by decide +kernel
theorem dX5_conclude_86 : decode cX5_conclude 86 = .ok (.getfield 239, 3) := by decide +kernel
theorem dX5_conclude_89 : decode cX5_conclude 89 = .ok (.iconst 0, 1) := by decide +kernel
theorem dX5_conclude_90 : decode cX5_conclude 90 = .ok (.invokestatic 224, 3) := by decide +kernel
theorem dX5_conclude_93 : decode cX5_conclude 93 = .ok (.invokestatic 228, 3) := by decide +kernel
theorem dX5_conclude_96 : decode cX5_conclude 96 = .ok (.aload_n 0, 1) := by decide +kernel
theorem dX5_conclude_97 : decode cX5_conclude 97 = .ok (.getfield 34, 3) := by decide +kernel
theorem dX5_conclude_100 : decode cX5_conclude 100 = .ok (.aload_n 2, 1) := by decide +kernel
theorem dX5_conclude_101 : decode cX5_conclude 101 = .ok (.getfield 239, 3) := by decide +kernel
theorem dX5_conclude_104 : decode cX5_conclude 104 = .ok (.iconst 1, 1) := by decide +kernel
theorem dX5_conclude_105 : decode cX5_conclude 105 = .ok (.invokestatic 224, 3) := by decide +kernel
theorem dX5_conclude_108 : decode cX5_conclude 108 = .ok (.invokevirtual 242, 3) := by decide +kernel
theorem dX5_conclude_111 : decode cX5_conclude 111 = .ok (.aload_n 0, 1) := by decide +kernel
theorem dX5_conclude_112 : decode cX5_conclude 112 = .ok (.getfield 34, 3) := by decide +kernel
theorem dX5_conclude_115 : decode cX5_conclude 115 = .ok (.aload_n 2, 1) := by decide +kernel
theorem dX5_conclude_116 : decode cX5_conclude 116 = .ok (.getfield 239, 3) := by decide +kernel
theorem dX5_conclude_119 : decode cX5_conclude 119 = .ok (.iconst 2, 1) := by decide +kernel
theorem dX5_conclude_120 : decode cX5_conclude 120 = .ok (.invokestatic 224, 3) := by decide +kernel
theorem dX5_conclude_123 : decode cX5_conclude 123 = .ok (.invokevirtual 242, 3) := by decide +kernel
theorem dX5_conclude_126 : decode cX5_conclude 126 = .ok (.aload_n 0, 1) := by decide +kernel
theorem dX5_conclude_127 : decode cX5_conclude 127 = .ok (.getfield 34, 3) := by decide +kernel
theorem dX5_conclude_130 : decode cX5_conclude 130 = .ok (.aload_n 2, 1) := by decide +kernel
theorem dX5_conclude_131 : decode cX5_conclude 131 = .ok (.getfield 239, 3) := by decide +kernel
theorem dX5_conclude_134 : decode cX5_conclude 134 = .ok (.iconst 3, 1) := by decide +kernel
theorem dX5_conclude_135 : decode cX5_conclude 135 = .ok (.invokestatic 224, 3) := by decide +kernel
theorem dX5_conclude_138 : decode cX5_conclude 138 = .ok (.invokevirtual 242, 3) := by decide +kernel
theorem dX5_conclude_141 : decode cX5_conclude 141 = .ok (.invokevirtual 245, 3) := by decide +kernel
theorem dX5_conclude_144 : decode cX5_conclude 144 = .ok (.return_, 1) := by decide +kernel
set_option maxRecDepth 20000 in
theorem ggX5_signAt_J0_length_8abf5 : GoodIn wsX5_signAt wsJ0_length_8abf5 := goodIn_r _ [5, 6, 7, 8, 9, 4, 10, 11, 12] (by decide +kernel) (by decide +kernel)
set_option maxRecDepth 20000 in
theorem gX5_signAt_J0_length_8abf5 : GoodIn wsX5_signAt (wsV RX5 248 RJ0 yJ0_length_8abf5 wsJ0_length_8abf5) := goodIn_app (goodIn_of _ (by decide +kernel)) ggX5_signAt_J0_length_8abf5
set_option maxRecDepth 20000 in
theorem ggX5_signAt_J0_charAt_5068e : GoodIn wsX5_signAt wsJ0_charAt_5068e := goodIn_r _ [16, 6, 17, 18, 19, 4, 20, 11, 12, 21, 22, 23, 24, 25, 26, 27, 28, 29, 30, 31, 32, 33, 34, 35, 36, 37, 38, 39, 40, 41, 42, 43, 44, 45, 46, 47, 48, 49] (by decide +kernel) (by decide +kernel)
set_option maxRecDepth 20000 in
theorem gX5_signAt_J0_charAt_5068e : GoodIn wsX5_signAt (wsV RX5 251 RJ0 yJ0_charAt_5068e wsJ0_charAt_5068e) := goodIn_app (goodIn_of _ (by decide +kernel)) ggX5_signAt_J0_charAt_5068e
theorem dX5_signAt_0 : decode cX5_signAt 0 = .ok (.iload_n 1, 1) := by decide +kernel
theorem dX5_signAt_1 : decode cX5_signAt 1 = .ok (.ifCond .lt 19, 3) := by decide +kernel
theorem dX5_signAt_4 : decode cX5_signAt 4 = .ok (.iload_n 1, 1) := by decide +kernel
theorem dX5_signAt_5 : decode cX5_signAt 5 = .ok (.aload_n 0, 1) := by decide +kernel
theorem dX5_signAt_6 : decode cX5_signAt 6 = .ok (.invokevirtual 248, 3) := by decide +kernel
theorem dX5_signAt_9 : decode cX5_signAt 9 = .ok (.if_icmp .ge 11, 3) := by decide +kernel
theorem dX5_signAt_12 : decode cX5_signAt 12 = .ok (.aload_n 0, 1) := by decide +kernel
theorem dX5_signAt_13 : decode cX5_signAt 13 = .ok (.iload_n 1, 1) := by decide +kernel
theorem dX5_signAt_14 : decode cX5_signAt 14 = .ok (.invokevirtual 251, 3) := by decide +kernel
theorem dX5_signAt_17 : decode cX5_signAt 17 = .ok (.goto 5, 3) := by decide +kernel
theorem dX5_signAt_20 : decode cX5_signAt 20 = .ok (.bipush 46, 2) := by decide +kernel
theorem dX5_signAt_22 : decode cX5_signAt 22 = .ok (.ireturn, 1) := by decide +kernel
set_option maxRecDepth 20000 in
theorem ggX5_markProof_X2_has : GoodIn wsX5_markProof wsX2_has := goodIn_r _ [7, 8, 30, 31, 32, 33, 34] (by decide +kernel) (by decide +kernel)
set_option maxRecDepth 20000 in
theorem gX5_markProof_X2_has : GoodIn wsX5_markProof (wsV RX5 85 RX2 yX2_has wsX2_has) := goodIn_app (goodIn_of _ (by decide +kernel)) ggX5_markProof_X2_has
set_option maxRecDepth 20000 in
theorem ggX5_markProof_X2_premiseCount : GoodIn wsX5_markProof wsX2_premiseCount := goodIn_r _ [12, 13, 14, 4, 5, 6, 7, 8, 30, 31, 32, 33, 34] (by decide +kernel) (by decide +kernel)
set_option maxRecDepth 20000 in
theorem gX5_markProof_X2_premiseCount : GoodIn wsX5_markProof (wsV RX5 108 RX2 yX2_premiseCount wsX2_premiseCount) := goodIn_app (goodIn_of _ (by decide +kernel)) ggX5_markProof_X2_premiseCount
set_option maxRecDepth 20000 in
theorem ggX5_markProof_X2_premiseAt : GoodIn wsX5_markProof wsX2_premiseAt := goodIn_r _ [18, 19, 20, 10, 11, 6, 12, 13, 14, 4, 5, 7, 8, 30, 31, 32, 33, 34] (by decide +kernel) (by decide +kernel)
set_option maxRecDepth 20000 in
theorem gX5_markProof_X2_premiseAt : GoodIn wsX5_markProof (wsV RX5 214 RX2 yX2_premiseAt wsX2_premiseAt) := goodIn_app (goodIn_of _ (by decide +kernel)) ggX5_markProof_X2_premiseAt
theorem dX5_markProof_0 : decode cX5_markProof 0 = .ok (.iconst 0, 1) := by decide +kernel
theorem dX5_markProof_1 : decode cX5_markProof 1 = .ok (.istore_n 2, 1) := by decide +kernel
theorem dX5_markProof_2 : decode cX5_markProof 2 = .ok (.iload_n 2, 1) := by decide +kernel
theorem dX5_markProof_3 : decode cX5_markProof 3 = .ok (.aload_n 0, 1) := by decide +kernel
theorem dX5_markProof_4 : decode cX5_markProof 4 = .ok (.getfield 45, 3) := by decide +kernel
theorem dX5_markProof_7 : decode cX5_markProof 7 = .ok (.arraylength, 1) := by decide +kernel
theorem dX5_markProof_8 : decode cX5_markProof 8 = .ok (.if_icmp .ge 16, 3) := by decide +kernel
theorem dX5_markProof_11 : decode cX5_markProof 11 = .ok (.aload_n 0, 1) := by decide +kernel
theorem dX5_markProof_12 : decode cX5_markProof 12 = .ok (.getfield 45, 3) := by decide +kernel
theorem dX5_markProof_15 : decode cX5_markProof 15 = .ok (.iload_n 2, 1) := by decide +kernel
theorem dX5_markProof_16 : decode cX5_markProof 16 = .ok (.iconst 0, 1) := by decide +kernel
theorem dX5_markProof_17 : decode cX5_markProof 17 = .ok (.bastore, 1) := by decide +kernel
theorem dX5_markProof_18 : decode cX5_markProof 18 = .ok (.iinc 2 1, 3) := by decide +kernel
theorem dX5_markProof_21 : decode cX5_markProof 21 = .ok (.goto (-19), 3) := by decide +kernel
theorem dX5_markProof_24 : decode cX5_markProof 24 = .ok (.aload_n 0, 1) := by decide +kernel
theorem dX5_markProof_25 : decode cX5_markProof 25 = .ok (.getfield 24, 3) := by decide +kernel
theorem dX5_markProof_28 : decode cX5_markProof 28 = .ok (.iload_n 1, 1) := by decide +kernel
theorem dX5_markProof_29 : decode cX5_markProof 29 = .ok (.invokevirtual 85, 3) := by decide +kernel
theorem dX5_markProof_32 : decode cX5_markProof 32 = .ok (.ifCond .ne 4, 3) := by decide +kernel
theorem dX5_markProof_35 : decode cX5_markProof 35 = .ok (.return_, 1) := by decide +kernel
theorem dX5_markProof_36 : decode cX5_markProof 36 = .ok (.aload_n 0, 1) := by decide +kernel
theorem dX5_markProof_37 : decode cX5_markProof 37 = .ok (.getfield 45, 3) := by decide +kernel
theorem dX5_markProof_40 : decode cX5_markProof 40 = .ok (.iload_n 1, 1) := by decide +kernel
theorem dX5_markProof_41 : decode cX5_markProof 41 = .ok (.iconst 1, 1) := by decide +kernel
theorem dX5_markProof_42 : decode cX5_markProof 42 = .ok (.bastore, 1) := by decide +kernel
theorem dX5_markProof_43 : decode cX5_markProof 43 = .ok (.iload_n 1, 1) := by decide +kernel
theorem dX5_markProof_44 : decode cX5_markProof 44 = .ok (.istore_n 2, 1) := by decide +kernel
theorem dX5_markProof_45 : decode cX5_markProof 45 = .ok (.iload_n 2, 1) := by decide +kernel
theorem dX5_markProof_46 : decode cX5_markProof 46 = .ok (.iconst 1, 1) := by decide +kernel
theorem dX5_markProof_47 : decode cX5_markProof 47 = .ok (.if_icmp .lt 69, 3) := by decide +kernel
theorem dX5_markProof_50 : decode cX5_markProof 50 = .ok (.iconst 0, 1) := by decide +kernel
theorem dX5_markProof_51 : decode cX5_markProof 51 = .ok (.istore_n 3, 1) := by decide +kernel
theorem dX5_markProof_52 : decode cX5_markProof 52 = .ok (.aload_n 0, 1) := by decide +kernel
theorem dX5_markProof_53 : decode cX5_markProof 53 = .ok (.getfield 45, 3) := by decide +kernel
theorem dX5_markProof_56 : decode cX5_markProof 56 = .ok (.iload_n 2, 1) := by decide +kernel
theorem dX5_markProof_57 : decode cX5_markProof 57 = .ok (.baload, 1) := by decide +kernel
theorem dX5_markProof_58 : decode cX5_markProof 58 = .ok (.ifCond .eq 52, 3) := by decide +kernel
theorem dX5_markProof_61 : decode cX5_markProof 61 = .ok (.iload_n 3, 1) := by decide +kernel
theorem dX5_markProof_62 : decode cX5_markProof 62 = .ok (.aload_n 0, 1) := by decide +kernel
theorem dX5_markProof_63 : decode cX5_markProof 63 = .ok (.getfield 24, 3) := by decide +kernel
theorem dX5_markProof_66 : decode cX5_markProof 66 = .ok (.iload_n 2, 1) := by decide +kernel
theorem dX5_markProof_67 : decode cX5_markProof 67 = .ok (.invokevirtual 108, 3) := by decide +kernel
theorem dX5_markProof_70 : decode cX5_markProof 70 = .ok (.if_icmp .ge 40, 3) := by decide +kernel
theorem dX5_markProof_73 : decode cX5_markProof 73 = .ok (.aload_n 0, 1) := by decide +kernel
theorem dX5_markProof_74 : decode cX5_markProof 74 = .ok (.getfield 24, 3) := by decide +kernel
theorem dX5_markProof_77 : decode cX5_markProof 77 = .ok (.iload_n 2, 1) := by decide +kernel
theorem dX5_markProof_78 : decode cX5_markProof 78 = .ok (.iload_n 3, 1) := by decide +kernel
theorem dX5_markProof_79 : decode cX5_markProof 79 = .ok (.invokevirtual 214, 3) := by decide +kernel
theorem dX5_markProof_82 : decode cX5_markProof 82 = .ok (.istore 4, 2) := by decide +kernel
theorem dX5_markProof_84 : decode cX5_markProof 84 = .ok (.aload_n 0, 1) := by decide +kernel
theorem dX5_markProof_85 : decode cX5_markProof 85 = .ok (.getfield 24, 3) := by decide +kernel
theorem dX5_markProof_88 : decode cX5_markProof 88 = .ok (.iload 4, 2) := by decide +kernel
theorem dX5_markProof_90 : decode cX5_markProof 90 = .ok (.invokevirtual 85, 3) := by decide +kernel
theorem dX5_markProof_93 : decode cX5_markProof 93 = .ok (.ifCond .eq 11, 3) := by decide +kernel
theorem dX5_markProof_96 : decode cX5_markProof 96 = .ok (.aload_n 0, 1) := by decide +kernel
theorem dX5_markProof_97 : decode cX5_markProof 97 = .ok (.getfield 45, 3) := by decide +kernel
theorem dX5_markProof_100 : decode cX5_markProof 100 = .ok (.iload 4, 2) := by decide +kernel
theorem dX5_markProof_102 : decode cX5_markProof 102 = .ok (.iconst 1, 1) := by decide +kernel
theorem dX5_markProof_103 : decode cX5_markProof 103 = .ok (.bastore, 1) := by decide +kernel
theorem dX5_markProof_104 : decode cX5_markProof 104 = .ok (.iinc 3 1, 3) := by decide +kernel
theorem dX5_markProof_107 : decode cX5_markProof 107 = .ok (.goto (-55), 3) := by decide +kernel
theorem dX5_markProof_110 : decode cX5_markProof 110 = .ok (.iinc 2 (-1), 3) := by decide +kernel
theorem dX5_markProof_113 : decode cX5_markProof 113 = .ok (.goto (-68), 3) := by decide +kernel
theorem dX5_markProof_116 : decode cX5_markProof 116 = .ok (.return_, 1) := by decide +kernel
set_option maxRecDepth 20000 in
theorem ggX5_leastBroken_X4_has : GoodIn wsX5_leastBroken wsX4_has := goodIn_r _ [7, 8, 9, 10, 6, 11, 12, 22, 23, 24] (by decide +kernel) (by decide +kernel)
set_option maxRecDepth 20000 in
theorem gX5_leastBroken_X4_has : GoodIn wsX5_leastBroken (wsV RX5 121 RX4 yX4_has wsX4_has) := goodIn_app (goodIn_of _ (by decide +kernel)) ggX5_leastBroken_X4_has
theorem dX5_leastBroken_0 : decode cX5_leastBroken 0 = .ok (.iconst 1, 1) := by decide +kernel
theorem dX5_leastBroken_1 : decode cX5_leastBroken 1 = .ok (.istore_n 2, 1) := by decide +kernel
theorem dX5_leastBroken_2 : decode cX5_leastBroken 2 = .ok (.iload_n 2, 1) := by decide +kernel
theorem dX5_leastBroken_3 : decode cX5_leastBroken 3 = .ok (.iload_n 1, 1) := by decide +kernel
theorem dX5_leastBroken_4 : decode cX5_leastBroken 4 = .ok (.if_icmp .gt 40, 3) := by decide +kernel
theorem dX5_leastBroken_7 : decode cX5_leastBroken 7 = .ok (.iload_n 2, 1) := by decide +kernel
theorem dX5_leastBroken_8 : decode cX5_leastBroken 8 = .ok (.aload_n 0, 1) := by decide +kernel
theorem dX5_leastBroken_9 : decode cX5_leastBroken 9 = .ok (.getfield 45, 3) := by decide +kernel
theorem dX5_leastBroken_12 : decode cX5_leastBroken 12 = .ok (.arraylength, 1) := by decide +kernel
theorem dX5_leastBroken_13 : decode cX5_leastBroken 13 = .ok (.if_icmp .ge 31, 3) := by decide +kernel
theorem dX5_leastBroken_16 : decode cX5_leastBroken 16 = .ok (.aload_n 0, 1) := by decide +kernel
theorem dX5_leastBroken_17 : decode cX5_leastBroken 17 = .ok (.getfield 45, 3) := by decide +kernel
theorem dX5_leastBroken_20 : decode cX5_leastBroken 20 = .ok (.iload_n 2, 1) := by decide +kernel
theorem dX5_leastBroken_21 : decode cX5_leastBroken 21 = .ok (.baload, 1) := by decide +kernel
theorem dX5_leastBroken_22 : decode cX5_leastBroken 22 = .ok (.ifCond .eq 16, 3) := by decide +kernel
theorem dX5_leastBroken_25 : decode cX5_leastBroken 25 = .ok (.aload_n 0, 1) := by decide +kernel
theorem dX5_leastBroken_26 : decode cX5_leastBroken 26 = .ok (.getfield 28, 3) := by decide +kernel
theorem dX5_leastBroken_29 : decode cX5_leastBroken 29 = .ok (.iload_n 2, 1) := by decide +kernel
theorem dX5_leastBroken_30 : decode cX5_leastBroken 30 = .ok (.invokevirtual 121, 3) := by decide +kernel
theorem dX5_leastBroken_33 : decode cX5_leastBroken 33 = .ok (.ifCond .ne 5, 3) := by decide +kernel
theorem dX5_leastBroken_36 : decode cX5_leastBroken 36 = .ok (.iload_n 2, 1) := by decide +kernel
theorem dX5_leastBroken_37 : decode cX5_leastBroken 37 = .ok (.ireturn, 1) := by decide +kernel
theorem dX5_leastBroken_38 : decode cX5_leastBroken 38 = .ok (.iinc 2 1, 3) := by decide +kernel
theorem dX5_leastBroken_41 : decode cX5_leastBroken 41 = .ok (.goto (-39), 3) := by decide +kernel
theorem dX5_leastBroken_44 : decode cX5_leastBroken 44 = .ok (.iconst 0, 1) := by decide +kernel
theorem dX5_leastBroken_45 : decode cX5_leastBroken 45 = .ok (.ireturn, 1) := by decide +kernel
set_option maxRecDepth 20000 in
theorem ggX5_sizeAbovePremises_X2_premiseCount : GoodIn wsX5_sizeAbovePremises wsX2_premiseCount := goodIn_r _ [12, 13, 14, 15, 16, 11, 17, 18, 35, 36, 37, 38, 39] (by decide +kernel) (by decide +kernel)
set_option maxRecDepth 20000 in
theorem gX5_sizeAbovePremises_X2_premiseCount : GoodIn wsX5_sizeAbovePremises (wsV RX5 108 RX2 yX2_premiseCount wsX2_premiseCount) := goodIn_app (goodIn_of _ (by decide +kernel)) ggX5_sizeAbovePremises_X2_premiseCount
set_option maxRecDepth 20000 in
theorem ggX5_sizeAbovePremises_X2_premiseAt : GoodIn wsX5_sizeAbovePremises wsX2_premiseAt := goodIn_r _ [22, 23, 24, 9, 10, 11, 12, 13, 14, 15, 16, 17, 18, 35, 36, 37, 38, 39] (by decide +kernel) (by decide +kernel)
set_option maxRecDepth 20000 in
theorem gX5_sizeAbovePremises_X2_premiseAt : GoodIn wsX5_sizeAbovePremises (wsV RX5 214 RX2 yX2_premiseAt wsX2_premiseAt) := goodIn_app (goodIn_of _ (by decide +kernel)) ggX5_sizeAbovePremises_X2_premiseAt
set_option maxRecDepth 20000 in
theorem ggX5_sizeAbovePremises_X2_has : GoodIn wsX5_sizeAbovePremises wsX2_has := goodIn_r _ [17, 18, 35, 36, 37, 38, 39] (by decide +kernel) (by decide +kernel)
set_option maxRecDepth 20000 in
theorem gX5_sizeAbovePremises_X2_has : GoodIn wsX5_sizeAbovePremises (wsV RX5 85 RX2 yX2_has wsX2_has) := goodIn_app (goodIn_of _ (by decide +kernel)) ggX5_sizeAbovePremises_X2_has
theorem dX5_sizeAbovePremises_0 : decode cX5_sizeAbovePremises 0 = .ok (.lconst 1, 1) := by decide +kernel
theorem dX5_sizeAbovePremises_1 : decode cX5_sizeAbovePremises 1 = .ok (.lstore_n 2, 1) := by decide +kernel
theorem dX5_sizeAbovePremises_2 : decode cX5_sizeAbovePremises 2 = .ok (.iconst 0, 1) := by decide +kernel
theorem dX5_sizeAbovePremises_3 : decode cX5_sizeAbovePremises 3 = .ok (.istore 4, 2) := by decide +kernel
theorem dX5_sizeAbovePremises_5 : decode cX5_sizeAbovePremises 5 = .ok (.iload 4, 2) := by decide +kernel
theorem dX5_sizeAbovePremises_7 : decode cX5_sizeAbovePremises 7 = .ok (.aload_n 0, 1) := by decide +kernel
theorem dX5_sizeAbovePremises_8 : decode cX5_sizeAbovePremises 8 = .ok (.getfield 24, 3) := by decide +kernel
theorem dX5_sizeAbovePremises_11 : decode cX5_sizeAbovePremises 11 = .ok (.iload_n 1, 1) := by decide +kernel
theorem dX5_sizeAbovePremises_12 : decode cX5_sizeAbovePremises 12 = .ok (.invokevirtual 108, 3) := by decide +kernel
theorem dX5_sizeAbovePremises_15 : decode cX5_sizeAbovePremises 15 = .ok (.if_icmp .ge 44, 3) := by decide +kernel
theorem dX5_sizeAbovePremises_18 : decode cX5_sizeAbovePremises 18 = .ok (.aload_n 0, 1) := by decide +kernel
theorem dX5_sizeAbovePremises_19 : decode cX5_sizeAbovePremises 19 = .ok (.getfield 24, 3) := by decide +kernel
theorem dX5_sizeAbovePremises_22 : decode cX5_sizeAbovePremises 22 = .ok (.iload_n 1, 1) := by decide +kernel
theorem dX5_sizeAbovePremises_23 : decode cX5_sizeAbovePremises 23 = .ok (.iload 4, 2) := by decide +kernel
theorem dX5_sizeAbovePremises_25 : decode cX5_sizeAbovePremises 25 = .ok (.invokevirtual 214, 3) := by decide +kernel
theorem dX5_sizeAbovePremises_28 : decode cX5_sizeAbovePremises 28 = .ok (.istore 5, 2) := by decide +kernel
theorem dX5_sizeAbovePremises_30 : decode cX5_sizeAbovePremises 30 = .ok (.aload_n 0, 1) := by decide +kernel
theorem dX5_sizeAbovePremises_31 : decode cX5_sizeAbovePremises 31 = .ok (.getfield 24, 3) := by decide +kernel
theorem dX5_sizeAbovePremises_34 : decode cX5_sizeAbovePremises 34 = .ok (.iload 5, 2) := by decide +kernel
theorem dX5_sizeAbovePremises_36 : decode cX5_sizeAbovePremises 36 = .ok (.invokevirtual 85, 3) := by decide +kernel
theorem dX5_sizeAbovePremises_39 : decode cX5_sizeAbovePremises 39 = .ok (.ifCond .eq 14, 3) := by decide +kernel
theorem dX5_sizeAbovePremises_42 : decode cX5_sizeAbovePremises 42 = .ok (.lload_n 2, 1) := by decide +kernel
theorem dX5_sizeAbovePremises_43 : decode cX5_sizeAbovePremises 43 = .ok (.aload_n 0, 1) := by decide +kernel
theorem dX5_sizeAbovePremises_44 : decode cX5_sizeAbovePremises 44 = .ok (.getfield 49, 3) := by decide +kernel
theorem dX5_sizeAbovePremises_47 : decode cX5_sizeAbovePremises 47 = .ok (.iload 5, 2) := by decide +kernel
theorem dX5_sizeAbovePremises_49 : decode cX5_sizeAbovePremises 49 = .ok (.iaload, 1) := by decide +kernel
theorem dX5_sizeAbovePremises_50 : decode cX5_sizeAbovePremises 50 = .ok (.i2l, 1) := by decide +kernel
theorem dX5_sizeAbovePremises_51 : decode cX5_sizeAbovePremises 51 = .ok (.ladd, 1) := by decide +kernel
theorem dX5_sizeAbovePremises_52 : decode cX5_sizeAbovePremises 52 = .ok (.lstore_n 2, 1) := by decide +kernel
theorem dX5_sizeAbovePremises_53 : decode cX5_sizeAbovePremises 53 = .ok (.iinc 4 1, 3) := by decide +kernel
theorem dX5_sizeAbovePremises_56 : decode cX5_sizeAbovePremises 56 = .ok (.goto (-51), 3) := by decide +kernel
theorem dX5_sizeAbovePremises_59 : decode cX5_sizeAbovePremises 59 = .ok (.lload_n 2, 1) := by decide +kernel
theorem dX5_sizeAbovePremises_60 : decode cX5_sizeAbovePremises 60 = .ok (.ldc2_w 252, 3) := by decide +kernel
theorem dX5_sizeAbovePremises_63 : decode cX5_sizeAbovePremises 63 = .ok (.invokestatic 254, 3) := by decide +kernel
theorem dX5_sizeAbovePremises_66 : decode cX5_sizeAbovePremises 66 = .ok (.l2i, 1) := by decide +kernel
theorem dX5_sizeAbovePremises_67 : decode cX5_sizeAbovePremises 67 = .ok (.ireturn, 1) := by decide +kernel
set_option maxRecDepth 20000 in
theorem ggX5_tellStatement_X5_wordingFor : GoodIn wsX5_tellStatement wsX5_wordingFor := goodIn_r _ [7, 2, 8, 9, 10, 11, 12, 13, 14, 15, 16, 17, 18, 19, 20, 201, 202, 203, 204, 205, 206, 207, 208, 209, 210, 211, 212] (by decide +kernel) (by decide +kernel)
set_option maxRecDepth 20000 in
theorem gX5_tellStatement_X5_wordingFor : GoodIn wsX5_tellStatement (wsV RX5 260 RX5 yX5_wordingFor wsX5_wordingFor) := goodIn_app (goodIn_of _ (by decide +kernel)) ggX5_tellStatement_X5_wordingFor
set_option maxRecDepth 20000 in
theorem ggX5_tellStatement_J0_length_8abf5 : GoodIn wsX5_tellStatement wsJ0_length_8abf5 := goodIn_r _ [25, 26, 27, 28, 29, 24, 30, 31, 32] (by decide +kernel) (by decide +kernel)
set_option maxRecDepth 20000 in
theorem gX5_tellStatement_J0_length_8abf5 : GoodIn wsX5_tellStatement (wsV RX5 248 RJ0 yJ0_length_8abf5 wsJ0_length_8abf5) := goodIn_app (goodIn_of _ (by decide +kernel)) ggX5_tellStatement_J0_length_8abf5
set_option maxRecDepth 20000 in
theorem ggX5_tellStatement_J0_charAt_5068e : GoodIn wsX5_tellStatement wsJ0_charAt_5068e := goodIn_r _ [36, 26, 37, 38, 39, 24, 40, 31, 32, 41, 42, 43, 44, 45, 46, 47, 48, 49, 50, 51, 52, 53, 54, 55, 56, 57, 58, 59, 60, 61, 62, 63, 64, 65, 66, 67, 68, 69] (by decide +kernel) (by decide +kernel)
set_option maxRecDepth 20000 in
theorem gX5_tellStatement_J0_charAt_5068e : GoodIn wsX5_tellStatement (wsV RX5 251 RJ0 yJ0_charAt_5068e wsJ0_charAt_5068e) := goodIn_app (goodIn_of _ (by decide +kernel)) ggX5_tellStatement_J0_charAt_5068e
set_option maxRecDepth 20000 in
theorem ggX5_tellStatement_X4_number : GoodIn wsX5_tellStatement wsX4_number := goodIn_r _ [19, 15, 20, 210, 211, 212] (by decide +kernel) (by decide +kernel)
set_option maxRecDepth 20000 in
theorem gX5_tellStatement_X4_number : GoodIn wsX5_tellStatement (wsV RX5 142 RX4 yX4_number wsX4_number) := goodIn_app (goodIn_of _ (by decide +kernel)) ggX5_tellStatement_X4_number
set_option maxRecDepth 20000 in
theorem ggX5_tellStatement_J4_append_bf812 : GoodIn wsX5_tellStatement wsJ4_append_bf812 := goodIn_r _ [74, 75, 76, 77, 78, 79, 80, 81, 82, 83, 84, 85, 86, 87, 88, 89, 90, 91, 92, 93, 94, 95, 96, 97, 98, 99, 100, 101, 102, 103, 104, 105, 106, 107, 108, 109, 110, 111, 112, 113, 114, 115, 116, 117, 118, 119, 120, 121, 122, 123, 124, 125, 126, 127, 128, 129, 130, 131, 132, 133, 134, 135, 136, 137, 138, 139, 140, 141, 55, 142, 67, 143, 144, 145, 60, 61, 62, 146, 147, 24, 148, 48, 149, 150, 51, 151, 152, 153, 154, 155, 156, 157, 158, 159, 68, 69, 213, 214, 215, 216] (by decide +kernel) (by decide +kernel)
set_option maxRecDepth 20000 in
theorem gX5_tellStatement_J4_append_bf812 : GoodIn wsX5_tellStatement (wsV RX5 148 RJ4 yJ4_append_bf812 wsJ4_append_bf812) := goodIn_app (goodIn_of _ (by decide +kernel)) ggX5_tellStatement_J4_append_bf812
set_option maxRecDepth 20000 in
theorem ggX5_tellStatement_J4_append_cf468 : GoodIn wsX5_tellStatement wsJ4_append_cf468 := goodIn_r _ [163, 164, 165, 77, 166, 79, 167, 81, 82, 87, 88, 89, 90, 91, 92, 93, 94, 95, 96, 97, 98, 99, 100, 101, 102, 103, 104, 105, 106, 107, 108, 109, 110, 111, 112, 113, 114, 115, 116, 117, 118, 119, 120, 121, 122, 123, 124, 125, 126, 127, 128, 129, 130, 131, 132, 133, 134, 168, 169, 43, 170, 171, 172, 173, 174, 175, 176, 177, 55, 178, 179, 180, 181, 182, 183, 184, 185, 186, 187, 188, 189, 190, 191, 60, 61, 62, 192, 193, 24, 194, 48, 195, 196, 51, 197, 157, 158, 159, 67, 68, 69, 198, 199, 200, 57, 58, 59, 63, 46, 47, 49, 50, 52, 213, 214, 215, 216] (by decide +kernel) (by decide +kernel)
set_option maxRecDepth 20000 in
theorem gX5_tellStatement_J4_append_cf468 : GoodIn wsX5_tellStatement (wsV RX5 169 RJ4 yJ4_append_cf468 wsJ4_append_cf468) := goodIn_app (goodIn_of _ (by decide +kernel)) ggX5_tellStatement_J4_append_cf468
theorem dX5_tellStatement_0 : decode cX5_tellStatement 0 = .ok (.aload_n 0, 1) := by decide +kernel
theorem dX5_tellStatement_1 : decode cX5_tellStatement 1 = .ok (.iload_n 1, 1) := by decide +kernel
theorem dX5_tellStatement_2 : decode cX5_tellStatement 2 = .ok (.invokevirtual 260, 3) := by decide +kernel
theorem dX5_tellStatement_5 : decode cX5_tellStatement 5 = .ok (.astore_n 2, 1) := by decide +kernel
theorem dX5_tellStatement_6 : decode cX5_tellStatement 6 = .ok (.iconst 0, 1) := by decide +kernel
theorem dX5_tellStatement_7 : decode cX5_tellStatement 7 = .ok (.istore_n 3, 1) := by decide +kernel
theorem dX5_tellStatement_8 : decode cX5_tellStatement 8 = .ok (.iload_n 3, 1) := by decide +kernel
theorem dX5_tellStatement_9 : decode cX5_tellStatement 9 = .ok (.aload_n 2, 1) := by decide +kernel
theorem dX5_tellStatement_10 : decode cX5_tellStatement 10 = .ok (.invokevirtual 248, 3) := by decide +kernel
theorem dX5_tellStatement_13 : decode cX5_tellStatement 13 = .ok (.if_icmp .ge 66, 3) := by decide +kernel
theorem dX5_tellStatement_16 : decode cX5_tellStatement 16 = .ok (.aload_n 2, 1) := by decide +kernel
theorem dX5_tellStatement_17 : decode cX5_tellStatement 17 = .ok (.iload_n 3, 1) := by decide +kernel
theorem dX5_tellStatement_18 : decode cX5_tellStatement 18 = .ok (.invokevirtual 251, 3) := by decide +kernel
theorem dX5_tellStatement_21 : decode cX5_tellStatement 21 = .ok (.istore 4, 2) := by decide +kernel
theorem dX5_tellStatement_23 : decode cX5_tellStatement 23 = .ok (.iload 4, 2) := by decide +kernel
theorem dX5_tellStatement_25 : decode cX5_tellStatement 25 = .ok (.bipush 65, 2) := by decide +kernel
theorem dX5_tellStatement_27 : decode cX5_tellStatement 27 = .ok (.if_icmp .lt 36, 3) := by decide +kernel
theorem dX5_tellStatement_30 : decode cX5_tellStatement 30 = .ok (.iload 4, 2) := by decide +kernel
theorem dX5_tellStatement_32 : decode cX5_tellStatement 32 = .ok (.bipush 67, 2) := by decide +kernel
theorem dX5_tellStatement_34 : decode cX5_tellStatement 34 = .ok (.if_icmp .gt 29, 3) := by decide +kernel
theorem dX5_tellStatement_37 : decode cX5_tellStatement 37 = .ok (.aload_n 0, 1) := by decide +kernel
theorem dX5_tellStatement_38 : decode cX5_tellStatement 38 = .ok (.getfield 41, 3) := by decide +kernel
theorem dX5_tellStatement_41 : decode cX5_tellStatement 41 = .ok (.aload_n 0, 1) := by decide +kernel
theorem dX5_tellStatement_42 : decode cX5_tellStatement 42 = .ok (.getfield 28, 3) := by decide +kernel
theorem dX5_tellStatement_45 : decode cX5_tellStatement 45 = .ok (.iload_n 1, 1) := by decide +kernel
theorem dX5_tellStatement_46 : decode cX5_tellStatement 46 = .ok (.iload 4, 2) := by decide +kernel
theorem dX5_tellStatement_48 : decode cX5_tellStatement 48 = .ok (.bipush 65, 2) := by decide +kernel
theorem dX5_tellStatement_50 : decode cX5_tellStatement 50 = .ok (.isub, 1) := by decide +kernel
theorem dX5_tellStatement_51 : decode cX5_tellStatement 51 = .ok (.iconst 1, 1) := by decide +kernel
theorem dX5_tellStatement_52 : decode cX5_tellStatement 52 = .ok (.iadd, 1) := by decide +kernel
theorem dX5_tellStatement_53 : decode cX5_tellStatement 53 = .ok (.invokevirtual 142, 3) := by decide +kernel
theorem dX5_tellStatement_56 : decode cX5_tellStatement 56 = .ok (.invokevirtual 148, 3) := by decide +kernel
theorem dX5_tellStatement_59 : decode cX5_tellStatement 59 = .ok (.pop, 1) := by decide +kernel
theorem dX5_tellStatement_60 : decode cX5_tellStatement 60 = .ok (.goto 13, 3) := by decide +kernel
theorem dX5_tellStatement_63 : decode cX5_tellStatement 63 = .ok (.aload_n 0, 1) := by decide +kernel
theorem dX5_tellStatement_64 : decode cX5_tellStatement 64 = .ok (.getfield 41, 3) := by decide +kernel
theorem dX5_tellStatement_67 : decode cX5_tellStatement 67 = .ok (.iload 4, 2) := by decide +kernel
theorem dX5_tellStatement_69 : decode cX5_tellStatement 69 = .ok (.invokevirtual 169, 3) := by decide +kernel
theorem dX5_tellStatement_72 : decode cX5_tellStatement 72 = .ok (.pop, 1) := by decide +kernel
theorem dX5_tellStatement_73 : decode cX5_tellStatement 73 = .ok (.iinc 3 1, 3) := by decide +kernel
theorem dX5_tellStatement_76 : decode cX5_tellStatement 76 = .ok (.goto (-68), 3) := by decide +kernel
theorem dX5_tellStatement_79 : decode cX5_tellStatement 79 = .ok (.return_, 1) := by decide +kernel
set_option maxRecDepth 20000 in
theorem ggX5_wordingFor_X4_kind : GoodIn wsX5_wordingFor wsX4_kind := goodIn_r _ [8, 9, 24, 25, 26] (by decide +kernel) (by decide +kernel)
set_option maxRecDepth 20000 in
theorem gX5_wordingFor_X4_kind : GoodIn wsX5_wordingFor (wsV RX5 139 RX4 yX4_kind wsX4_kind) := goodIn_app (goodIn_of _ (by decide +kernel)) ggX5_wordingFor_X4_kind
set_option maxRecDepth 20000 in
theorem ggX5_wordingFor_X4_number : GoodIn wsX5_wordingFor wsX4_number := goodIn_r _ [13, 9, 14, 24, 25, 26] (by decide +kernel) (by decide +kernel)
set_option maxRecDepth 20000 in
theorem gX5_wordingFor_X4_number : GoodIn wsX5_wordingFor (wsV RX5 142 RX4 yX4_number wsX4_number) := goodIn_app (goodIn_of _ (by decide +kernel)) ggX5_wordingFor_X4_number
theorem dX5_wordingFor_0 : decode cX5_wordingFor 0 = .ok (.aload_n 0, 1) := by decide +kernel
theorem dX5_wordingFor_1 : decode cX5_wordingFor 1 = .ok (.getfield 28, 3) := by decide +kernel
theorem dX5_wordingFor_4 : decode cX5_wordingFor 4 = .ok (.iload_n 1, 1) := by decide +kernel
theorem dX5_wordingFor_5 : decode cX5_wordingFor 5 = .ok (.invokevirtual 139, 3) := by decide +kernel
theorem dX5_wordingFor_8 : decode cX5_wordingFor 8 = .ok (.istore_n 2, 1) := by decide +kernel
theorem dX5_wordingFor_9 : decode cX5_wordingFor 9 = .ok (.iload_n 2, 1) := by decide +kernel
theorem dX5_wordingFor_10 : decode cX5_wordingFor 10 = .ok (.bipush 11, 2) := by decide +kernel
theorem dX5_wordingFor_12 : decode cX5_wordingFor 12 = .ok (.if_icmp .ne 19, 3) := by decide +kernel
theorem dX5_wordingFor_15 : decode cX5_wordingFor 15 = .ok (.aload_n 0, 1) := by decide +kernel
theorem dX5_wordingFor_16 : decode cX5_wordingFor 16 = .ok (.getfield 28, 3) := by decide +kernel
theorem dX5_wordingFor_19 : decode cX5_wordingFor 19 = .ok (.iload_n 1, 1) := by decide +kernel
theorem dX5_wordingFor_20 : decode cX5_wordingFor 20 = .ok (.iconst 2, 1) := by decide +kernel
theorem dX5_wordingFor_21 : decode cX5_wordingFor 21 = .ok (.invokevirtual 142, 3) := by decide +kernel
theorem dX5_wordingFor_24 : decode cX5_wordingFor 24 = .ok (.ifCond .ne 7, 3) := by decide +kernel
theorem dX5_wordingFor_27 : decode cX5_wordingFor 27 = .ok (.ldc_w 264, 3) := by decide +kernel
theorem dX5_wordingFor_30 : decode cX5_wordingFor 30 = .ok (.areturn, 1) := by decide +kernel
theorem dX5_wordingFor_31 : decode cX5_wordingFor 31 = .ok (.iload_n 2, 1) := by decide +kernel
theorem dX5_wordingFor_32 : decode cX5_wordingFor 32 = .ok (.bipush 11, 2) := by decide +kernel
theorem dX5_wordingFor_34 : decode cX5_wordingFor 34 = .ok (.if_icmp .ne 20, 3) := by decide +kernel
theorem dX5_wordingFor_37 : decode cX5_wordingFor 37 = .ok (.aload_n 0, 1) := by decide +kernel
theorem dX5_wordingFor_38 : decode cX5_wordingFor 38 = .ok (.getfield 28, 3) := by decide +kernel
theorem dX5_wordingFor_41 : decode cX5_wordingFor 41 = .ok (.iload_n 1, 1) := by decide +kernel
theorem dX5_wordingFor_42 : decode cX5_wordingFor 42 = .ok (.iconst 2, 1) := by decide +kernel
theorem dX5_wordingFor_43 : decode cX5_wordingFor 43 = .ok (.invokevirtual 142, 3) := by decide +kernel
theorem dX5_wordingFor_46 : decode cX5_wordingFor 46 = .ok (.iconst 1, 1) := by decide +kernel
theorem dX5_wordingFor_47 : decode cX5_wordingFor 47 = .ok (.if_icmp .ne 7, 3) := by decide +kernel
theorem dX5_wordingFor_50 : decode cX5_wordingFor 50 = .ok (.ldc_w 266, 3) := by decide +kernel
theorem dX5_wordingFor_53 : decode cX5_wordingFor 53 = .ok (.areturn, 1) := by decide +kernel
theorem dX5_wordingFor_54 : decode cX5_wordingFor 54 = .ok (.iload_n 2, 1) := by decide +kernel
theorem dX5_wordingFor_55 : decode cX5_wordingFor 55 = .ok (.ifCond .lt 22, 3) := by decide +kernel
theorem dX5_wordingFor_58 : decode cX5_wordingFor 58 = .ok (.iload_n 2, 1) := by decide +kernel
theorem dX5_wordingFor_59 : decode cX5_wordingFor 59 = .ok (.getstatic 57, 3) := by decide +kernel
theorem dX5_wordingFor_62 : decode cX5_wordingFor 62 = .ok (.arraylength, 1) := by decide +kernel
theorem dX5_wordingFor_63 : decode cX5_wordingFor 63 = .ok (.if_icmp .ge 14, 3) := by decide +kernel
theorem dX5_wordingFor_66 : decode cX5_wordingFor 66 = .ok (.getstatic 57, 3) := by decide +kernel
theorem dX5_wordingFor_69 : decode cX5_wordingFor 69 = .ok (.iload_n 2, 1) := by decide +kernel
theorem dX5_wordingFor_70 : decode cX5_wordingFor 70 = .ok (.aaload, 1) := by decide +kernel
theorem dX5_wordingFor_71 : decode cX5_wordingFor 71 = .ok (.getfield 268, 3) := by decide +kernel
theorem dX5_wordingFor_74 : decode cX5_wordingFor 74 = .ok (.goto 9, 3) := by decide +kernel
theorem dX5_wordingFor_77 : decode cX5_wordingFor 77 = .ok (.getstatic 271, 3) := by decide +kernel
theorem dX5_wordingFor_80 : decode cX5_wordingFor 80 = .ok (.getfield 268, 3) := by decide +kernel
theorem dX5_wordingFor_83 : decode cX5_wordingFor 83 = .ok (.areturn, 1) := by decide +kernel
set_option maxRecDepth 20000 in
theorem ggX5_tellPremises_X2_premiseCount : GoodIn wsX5_tellPremises wsX2_premiseCount := goodIn_r _ [7, 8, 9, 10, 11, 6, 12, 13, 201, 202, 203, 204, 205] (by decide +kernel) (by decide +kernel)
set_option maxRecDepth 20000 in
theorem gX5_tellPremises_X2_premiseCount : GoodIn wsX5_tellPremises (wsV RX5 108 RX2 yX2_premiseCount wsX2_premiseCount) := goodIn_app (goodIn_of _ (by decide +kernel)) ggX5_tellPremises_X2_premiseCount
set_option maxRecDepth 20000 in
theorem ggX5_tellPremises_J4_append_15ec4 : GoodIn wsX5_tellPremises wsJ4_append_15ec4 := goodIn_r _ [18, 19, 20, 21, 22, 23, 24, 25, 26, 27, 28, 29, 30, 31, 32, 33, 34, 35, 36, 37, 38, 39, 40, 41, 42, 43, 44, 45, 46, 47, 48, 49, 50, 51, 52, 53, 54, 55, 56, 57, 58, 59, 60, 61, 62, 63, 64, 65, 66, 67, 68, 69, 70, 71, 72, 73, 74, 75, 76, 77, 78, 79, 80, 81, 82, 83, 84, 85, 86, 87, 88, 89, 90, 91, 92, 93, 94, 95, 96, 97, 98, 99, 100, 101, 102, 103, 104, 105, 106, 107, 108, 109, 110, 111, 112, 113, 114, 115, 116, 117, 118, 119, 120, 121, 122, 123, 124, 125, 126, 127, 128, 129, 130, 131, 132, 133, 134, 135, 136, 137, 138, 139, 140, 141, 142, 143, 144, 145, 146, 147, 148, 149, 150, 151, 152, 153, 154, 155, 156, 157, 158, 159, 160, 206, 207, 208, 209] (by decide +kernel) (by decide +kernel)
set_option maxRecDepth 20000 in
theorem gX5_tellPremises_J4_append_15ec4 : GoodIn wsX5_tellPremises (wsV RX5 154 RJ4 yJ4_append_15ec4 wsJ4_append_15ec4) := goodIn_app (goodIn_of _ (by decide +kernel)) ggX5_tellPremises_J4_append_15ec4
set_option maxRecDepth 20000 in
theorem ggX5_tellPremises_X2_premiseAt : GoodIn wsX5_tellPremises wsX2_premiseAt := goodIn_r _ [164, 165, 166, 4, 5, 6, 7, 8, 9, 10, 11, 12, 13, 201, 202, 203, 204, 205] (by decide +kernel) (by decide +kernel)
set_option maxRecDepth 20000 in
theorem gX5_tellPremises_X2_premiseAt : GoodIn wsX5_tellPremises (wsV RX5 214 RX2 yX2_premiseAt wsX2_premiseAt) := goodIn_app (goodIn_of _ (by decide +kernel)) ggX5_tellPremises_X2_premiseAt
set_option maxRecDepth 20000 in
theorem ggX5_tellPremises_J4_append_bf812 : GoodIn wsX5_tellPremises wsJ4_append_bf812 := goodIn_r _ [170, 171, 172, 21, 173, 23, 174, 25, 31, 175, 176, 177, 178, 32, 33, 34, 35, 36, 37, 38, 39, 40, 41, 42, 43, 44, 45, 46, 47, 48, 49, 50, 51, 52, 53, 54, 55, 56, 57, 58, 59, 60, 61, 62, 63, 64, 65, 66, 67, 68, 69, 70, 71, 72, 73, 74, 75, 76, 77, 78, 79, 179, 180, 181, 182, 183, 184, 185, 82, 186, 84, 85, 86, 87, 88, 89, 90, 91, 92, 93, 94, 95, 96, 97, 98, 99, 187, 188, 189, 190, 191, 100, 101, 102, 103, 104, 206, 207, 208, 209] (by decide +kernel) (by decide +kernel)
set_option maxRecDepth 20000 in
theorem gX5_tellPremises_J4_append_bf812 : GoodIn wsX5_tellPremises (wsV RX5 148 RJ4 yJ4_append_bf812 wsJ4_append_bf812) := goodIn_app (goodIn_of _ (by decide +kernel)) ggX5_tellPremises_J4_append_bf812
theorem dX5_tellPremises_0 : decode cX5_tellPremises 0 = .ok (.iconst 0, 1) := by decide +kernel
theorem dX5_tellPremises_1 : decode cX5_tellPremises 1 = .ok (.istore_n 2, 1) := by decide +kernel
theorem dX5_tellPremises_2 : decode cX5_tellPremises 2 = .ok (.iload_n 2, 1) := by decide +kernel
theorem dX5_tellPremises_3 : decode cX5_tellPremises 3 = .ok (.aload_n 0, 1) := by decide +kernel
theorem dX5_tellPremises_4 : decode cX5_tellPremises 4 = .ok (.getfield 24, 3) := by decide +kernel
theorem dX5_tellPremises_7 : decode cX5_tellPremises 7 = .ok (.iload_n 1, 1) := by decide +kernel
theorem dX5_tellPremises_8 : decode cX5_tellPremises 8 = .ok (.invokevirtual 108, 3) := by decide +kernel
theorem dX5_tellPremises_11 : decode cX5_tellPremises 11 = .ok (.if_icmp .ge 42, 3) := by decide +kernel
theorem dX5_tellPremises_14 : decode cX5_tellPremises 14 = .ok (.aload_n 0, 1) := by decide +kernel
theorem dX5_tellPremises_15 : decode cX5_tellPremises 15 = .ok (.getfield 41, 3) := by decide +kernel
theorem dX5_tellPremises_18 : decode cX5_tellPremises 18 = .ok (.iload_n 2, 1) := by decide +kernel
theorem dX5_tellPremises_19 : decode cX5_tellPremises 19 = .ok (.ifCond .ne 9, 3) := by decide +kernel
theorem dX5_tellPremises_22 : decode cX5_tellPremises 22 = .ok (.ldc_w 275, 3) := by decide +kernel
theorem dX5_tellPremises_25 : decode cX5_tellPremises 25 = .ok (.goto 6, 3) := by decide +kernel
theorem dX5_tellPremises_28 : decode cX5_tellPremises 28 = .ok (.ldc_w 277, 3) := by decide +kernel
theorem dX5_tellPremises_31 : decode cX5_tellPremises 31 = .ok (.invokevirtual 154, 3) := by decide +kernel
theorem dX5_tellPremises_34 : decode cX5_tellPremises 34 = .ok (.aload_n 0, 1) := by decide +kernel
theorem dX5_tellPremises_35 : decode cX5_tellPremises 35 = .ok (.getfield 24, 3) := by decide +kernel
theorem dX5_tellPremises_38 : decode cX5_tellPremises 38 = .ok (.iload_n 1, 1) := by decide +kernel
theorem dX5_tellPremises_39 : decode cX5_tellPremises 39 = .ok (.iload_n 2, 1) := by decide +kernel
theorem dX5_tellPremises_40 : decode cX5_tellPremises 40 = .ok (.invokevirtual 214, 3) := by decide +kernel
theorem dX5_tellPremises_43 : decode cX5_tellPremises 43 = .ok (.invokevirtual 148, 3) := by decide +kernel
theorem dX5_tellPremises_46 : decode cX5_tellPremises 46 = .ok (.pop, 1) := by decide +kernel
theorem dX5_tellPremises_47 : decode cX5_tellPremises 47 = .ok (.iinc 2 1, 3) := by decide +kernel
theorem dX5_tellPremises_50 : decode cX5_tellPremises 50 = .ok (.goto (-48), 3) := by decide +kernel
theorem dX5_tellPremises_53 : decode cX5_tellPremises 53 = .ok (.return_, 1) := by decide +kernel
theorem dX6_init_0 : decode cX6_init 0 = .ok (.aload_n 0, 1) := by decide +kernel
theorem dX6_init_1 : decode cX6_init 1 = .ok (.invokespecial 1, 3) := by decide +kernel
theorem dX6_init_4 : decode cX6_init 4 = .ok (.aload_n 0, 1) := by decide +kernel
theorem dX6_init_5 : decode cX6_init 5 = .ok (.bipush 98, 2) := by decide +kernel
theorem dX6_init_7 : decode cX6_init 7 = .ok (.newarray .long, 2) := by decide +kernel
theorem dX6_init_9 : decode cX6_init 9 = .ok (.dup, 1) := by decide +kernel
theorem dX6_init_10 : decode cX6_init 10 = .ok (.iconst 0, 1) := by decide +kernel
theorem dX6_init_11 : decode cX6_init 11 = .ok (.ldc2_w 7, 3) := by decide +kernel
theorem dX6_init_14 : decode cX6_init 14 = .ok (.lastore, 1) := by decide +kernel
theorem dX6_init_15 : decode cX6_init 15 = .ok (.dup, 1) := by decide +kernel
theorem dX6_init_16 : decode cX6_init 16 = .ok (.iconst 1, 1) := by decide +kernel
theorem dX6_init_17 : decode cX6_init 17 = .ok (.lconst 0, 1) := by decide +kernel
theorem dX6_init_18 : decode cX6_init 18 = .ok (.lastore, 1) := by decide +kernel
theorem dX6_init_19 : decode cX6_init 19 = .ok (.dup, 1) := by decide +kernel
theorem dX6_init_20 : decode cX6_init 20 = .ok (.iconst 2, 1) := by decide +kernel
theorem dX6_init_21 : decode cX6_init 21 = .ok (.ldc2_w 9, 3) := by decide +kernel
theorem dX6_init_24 : decode cX6_init 24 = .ok (.lastore, 1) := by decide +kernel
theorem dX6_init_25 : decode cX6_init 25 = .ok (.dup, 1) := by decide +kernel
theorem dX6_init_26 : decode cX6_init 26 = .ok (.iconst 3, 1) := by decide +kernel
theorem dX6_init_27 : decode cX6_init 27 = .ok (.lconst 0, 1) := by decide +kernel
theorem dX6_init_28 : decode cX6_init 28 = .ok (.lastore, 1) := by decide +kernel
theorem dX6_init_29 : decode cX6_init 29 = .ok (.dup, 1) := by decide +kernel
theorem dX6_init_30 : decode cX6_init 30 = .ok (.iconst 4, 1) := by decide +kernel
theorem dX6_init_31 : decode cX6_init 31 = .ok (.ldc2_w 11, 3) := by decide +kernel
theorem dX6_init_34 : decode cX6_init 34 = .ok (.lastore, 1) := by decide +kernel
theorem dX6_init_35 : decode cX6_init 35 = .ok (.dup, 1) := by decide +kernel
theorem dX6_init_36 : decode cX6_init 36 = .ok (.iconst 5, 1) := by decide +kernel
theorem dX6_init_37 : decode cX6_init 37 = .ok (.lconst 0, 1) := by decide +kernel
theorem dX6_init_38 : decode cX6_init 38 = .ok (.lastore, 1) := by decide +kernel
theorem dX6_init_39 : decode cX6_init 39 = .ok (.dup, 1) := by decide +kernel
theorem dX6_init_40 : decode cX6_init 40 = .ok (.bipush 6, 2) := by decide +kernel
theorem dX6_init_42 : decode cX6_init 42 = .ok (.ldc2_w 13, 3) := by decide +kernel
theorem dX6_init_45 : decode cX6_init 45 = .ok (.lastore, 1) := by decide +kernel
theorem dX6_init_46 : decode cX6_init 46 = .ok (.dup, 1) := by decide +kernel
theorem dX6_init_47 : decode cX6_init 47 = .ok (.bipush 7, 2) := by decide +kernel
theorem dX6_init_49 : decode cX6_init 49 = .ok (.lconst 0, 1) := by decide +kernel
theorem dX6_init_50 : decode cX6_init 50 = .ok (.lastore, 1) := by decide +kernel
theorem dX6_init_51 : decode cX6_init 51 = .ok (.dup, 1) := by decide +kernel
theorem dX6_init_52 : decode cX6_init 52 = .ok (.bipush 8, 2) := by decide +kernel
theorem dX6_init_54 : decode cX6_init 54 = .ok (.ldc2_w 15, 3) := by decide +kernel
theorem dX6_init_57 : decode cX6_init 57 = .ok (.lastore, 1) := by decide +kernel
theorem dX6_init_58 : decode cX6_init 58 = .ok (.dup, 1) := by decide +kernel
theorem dX6_init_59 : decode cX6_init 59 = .ok (.bipush 9, 2) := by decide +kernel
theorem dX6_init_61 : decode cX6_init 61 = .ok (.ldc2_w 17, 3) := by decide +kernel
theorem dX6_init_64 : decode cX6_init 64 = .ok (.lastore, 1) := by decide +kernel
theorem dX6_init_65 : decode cX6_init 65 = .ok (.dup, 1) := by decide +kernel
theorem dX6_init_66 : decode cX6_init 66 = .ok (.bipush 10, 2) := by decide +kernel
theorem dX6_init_68 : decode cX6_init 68 = .ok (.lconst 0, 1) := by decide +kernel
theorem dX6_init_69 : decode cX6_init 69 = .ok (.lastore, 1) := by decide +kernel
theorem dX6_init_70 : decode cX6_init 70 = .ok (.dup, 1) := by decide +kernel
theorem dX6_init_71 : decode cX6_init 71 = .ok (.bipush 11, 2) := by decide +kernel
theorem dX6_init_73 : decode cX6_init 73 = .ok (.ldc2_w 19, 3) := by decide +kernel
theorem dX6_init_76 : decode cX6_init 76 = .ok (.lastore, 1) := by decide +kernel
theorem dX6_init_77 : decode cX6_init 77 = .ok (.dup, 1) := by decide +kernel
theorem dX6_init_78 : decode cX6_init 78 = .ok (.bipush 12, 2) := by decide +kernel
theorem dX6_init_80 : decode cX6_init 80 = .ok (.lconst 0, 1) := by decide +kernel
theorem dX6_init_81 : decode cX6_init 81 = .ok (.lastore, 1) := by decide +kernel
theorem dX6_init_82 : decode cX6_init 82 = .ok (.dup, 1) := by decide +kernel
theorem dX6_init_83 : decode cX6_init 83 = .ok (.bipush 13, 2) := by decide +kernel
theorem dX6_init_85 : decode cX6_init 85 = .ok (.ldc2_w 21, 3) := by decide +kernel
theorem dX6_init_88 : decode cX6_init 88 = .ok (.lastore, 1) := by decide +kernel
theorem dX6_init_89 : decode cX6_init 89 = .ok (.dup, 1) := by decide +kernel
theorem dX6_init_90 : decode cX6_init 90 = .ok (.bipush 14, 2) := by decide +kernel
theorem dX6_init_92 : decode cX6_init 92 = .ok (.lconst 0, 1) := by decide +kernel
theorem dX6_init_93 : decode cX6_init 93 = .ok (.lastore, 1) := by decide +kernel
theorem dX6_init_94 : decode cX6_init 94 = .ok (.dup, 1) := by decide +kernel
theorem dX6_init_95 : decode cX6_init 95 = .ok (.bipush 15, 2) := by decide +kernel
theorem dX6_init_97 : decode cX6_init 97 = .ok (.ldc2_w 23, 3) := by decide +kernel
theorem dX6_init_100 : decode cX6_init 100 = .ok (.lastore, 1) := by decide +kernel
theorem dX6_init_101 : decode cX6_init 101 = .ok (.dup, 1) := by decide +kernel
theorem dX6_init_102 : decode cX6_init 102 = .ok (.bipush 16, 2) := by decide +kernel
theorem dX6_init_104 : decode cX6_init 104 = .ok (.lconst 0, 1) := by decide +kernel
theorem dX6_init_105 : decode cX6_init 105 = .ok (.lastore, 1) := by decide +kernel
theorem dX6_init_106 : decode cX6_init 106 = .ok (.dup, 1) := by decide +kernel
theorem dX6_init_107 : decode cX6_init 107 = .ok (.bipush 17, 2) := by decide +kernel
theorem dX6_init_109 : decode cX6_init 109 = .ok (.ldc2_w 25, 3) := by decide +kernel
theorem dX6_init_112 : decode cX6_init 112 = .ok (.lastore, 1) := by decide +kernel
theorem dX6_init_113 : decode cX6_init 113 = .ok (.dup, 1) := by decide +kernel
theorem dX6_init_114 : decode cX6_init 114 = .ok (.bipush 18, 2) := by decide +kernel
theorem dX6_init_116 : decode cX6_init 116 = .ok (.lconst 0, 1) := by decide +kernel
theorem dX6_init_117 : decode cX6_init 117 = .ok (.lastore, 1) := by decide +kernel
theorem dX6_init_118 : decode cX6_init 118 = .ok (.dup, 1) := by decide +kernel
theorem dX6_init_119 : decode cX6_init 119 = .ok (.bipush 19, 2) := by decide +kernel
theorem dX6_init_121 : decode cX6_init 121 = .ok (.ldc2_w 27, 3) := by decide +kernel
theorem dX6_init_124 : decode cX6_init 124 = .ok (.lastore, 1) := by decide +kernel
theorem dX6_init_125 : decode cX6_init 125 = .ok (.dup, 1) := by decide +kernel
theorem dX6_init_126 : decode cX6_init 126 = .ok (.bipush 20, 2) := by decide +kernel
theorem dX6_init_128 : decode cX6_init 128 = .ok (.lconst 0, 1) := by decide +kernel
theorem dX6_init_129 : decode cX6_init 129 = .ok (.lastore, 1) := by decide +kernel
theorem dX6_init_130 : decode cX6_init 130 = .ok (.dup, 1) := by decide +kernel
theorem dX6_init_131 : decode cX6_init 131 = .ok (.bipush 21, 2) := by decide +kernel
theorem dX6_init_133 : decode cX6_init 133 = .ok (.ldc2_w 29, 3) := by decide +kernel
theorem dX6_init_136 : decode cX6_init 136 = .ok (.lastore, 1) := by decide +kernel
theorem dX6_init_137 : decode cX6_init 137 = .ok (.dup, 1) := by decide +kernel
theorem dX6_init_138 : decode cX6_init 138 = .ok (.bipush 22, 2) := by decide +kernel
theorem dX6_init_140 : decode cX6_init 140 = .ok (.lconst 0, 1) := by decide +kernel
theorem dX6_init_141 : decode cX6_init 141 = .ok (.lastore, 1) := by decide +kernel
theorem dX6_init_142 : decode cX6_init 142 = .ok (.dup, 1) := by decide +kernel
theorem dX6_init_143 : decode cX6_init 143 = .ok (.bipush 23, 2) := by decide +kernel
theorem dX6_init_145 : decode cX6_init 145 = .ok (.ldc2_w 31, 3) := by decide +kernel
theorem dX6_init_148 : decode cX6_init 148 = .ok (.lastore, 1) := by decide +kernel
theorem dX6_init_149 : decode cX6_init 149 = .ok (.dup, 1) := by decide +kernel
theorem dX6_init_150 : decode cX6_init 150 = .ok (.bipush 24, 2) := by decide +kernel
theorem dX6_init_152 : decode cX6_init 152 = .ok (.lconst 0, 1) := by decide +kernel
theorem dX6_init_153 : decode cX6_init 153 = .ok (.lastore, 1) := by decide +kernel
theorem dX6_init_154 : decode cX6_init 154 = .ok (.dup, 1) := by decide +kernel
theorem dX6_init_155 : decode cX6_init 155 = .ok (.bipush 25, 2) := by decide +kernel
theorem dX6_init_157 : decode cX6_init 157 = .ok (.ldc2_w 33, 3) := by decide +kernel
theorem dX6_init_160 : decode cX6_init 160 = .ok (.lastore, 1) := by decide +kernel
theorem dX6_init_161 : decode cX6_init 161 = .ok (.dup, 1) := by decide +kernel
theorem dX6_init_162 : decode cX6_init 162 = .ok (.bipush 26, 2) := by decide +kernel
theorem dX6_init_164 : decode cX6_init 164 = .ok (.lconst 0, 1) := by decide +kernel
theorem dX6_init_165 : decode cX6_init 165 = .ok (.lastore, 1) := by decide +kernel
theorem dX6_init_166 : decode cX6_init 166 = .ok (.dup, 1) := by decide +kernel
theorem dX6_init_167 : decode cX6_init 167 = .ok (.bipush 27, 2) := by decide +kernel
theorem dX6_init_169 : decode cX6_init 169 = .ok (.ldc2_w 35, 3) := by decide +kernel
theorem dX6_init_172 : decode cX6_init 172 = .ok (.lastore, 1) := by decide +kernel
theorem dX6_init_173 : decode cX6_init 173 = .ok (.dup, 1) := by decide +kernel
theorem dX6_init_174 : decode cX6_init 174 = .ok (.bipush 28, 2) := by decide +kernel
theorem dX6_init_176 : decode cX6_init 176 = .ok (.lconst 0, 1) := by decide +kernel
theorem dX6_init_177 : decode cX6_init 177 = .ok (.lastore, 1) := by decide +kernel
theorem dX6_init_178 : decode cX6_init 178 = .ok (.dup, 1) := by decide +kernel
theorem dX6_init_179 : decode cX6_init 179 = .ok (.bipush 29, 2) := by decide +kernel
theorem dX6_init_181 : decode cX6_init 181 = .ok (.ldc2_w 37, 3) := by decide +kernel
theorem dX6_init_184 : decode cX6_init 184 = .ok (.lastore, 1) := by decide +kernel
theorem dX6_init_185 : decode cX6_init 185 = .ok (.dup, 1) := by decide +kernel
theorem dX6_init_186 : decode cX6_init 186 = .ok (.bipush 30, 2) := by decide +kernel
theorem dX6_init_188 : decode cX6_init 188 = .ok (.lconst 0, 1) := by decide +kernel
theorem dX6_init_189 : decode cX6_init 189 = .ok (.lastore, 1) := by decide +kernel
theorem dX6_init_190 : decode cX6_init 190 = .ok (.dup, 1) := by decide +kernel
theorem dX6_init_191 : decode cX6_init 191 = .ok (.bipush 31, 2) := by decide +kernel
theorem dX6_init_193 : decode cX6_init 193 = .ok (.ldc2_w 39, 3) := by decide +kernel
theorem dX6_init_196 : decode cX6_init 196 = .ok (.lastore, 1) := by decide +kernel
theorem dX6_init_197 : decode cX6_init 197 = .ok (.dup, 1) := by decide +kernel
theorem dX6_init_198 : decode cX6_init 198 = .ok (.bipush 32, 2) := by decide +kernel
theorem dX6_init_200 : decode cX6_init 200 = .ok (.lconst 0, 1) := by decide +kernel
theorem dX6_init_201 : decode cX6_init 201 = .ok (.lastore, 1) := by decide +kernel
theorem dX6_init_202 : decode cX6_init 202 = .ok (.dup, 1) := by decide +kernel
theorem dX6_init_203 : decode cX6_init 203 = .ok (.bipush 33, 2) := by decide +kernel
theorem dX6_init_205 : decode cX6_init 205 = .ok (.ldc2_w 41, 3) := by decide +kernel
theorem dX6_init_208 : decode cX6_init 208 = .ok (.lastore, 1) := by decide +kernel
theorem dX6_init_209 : decode cX6_init 209 = .ok (.dup, 1) := by decide +kernel
theorem dX6_init_210 : decode cX6_init 210 = .ok (.bipush 34, 2) := by decide +kernel
theorem dX6_init_212 : decode cX6_init 212 = .ok (.lconst 0, 1) := by decide +kernel
theorem dX6_init_213 : decode cX6_init 213 = .ok (.lastore, 1) := by decide +kernel
theorem dX6_init_214 : decode cX6_init 214 = .ok (.dup, 1) := by decide +kernel
theorem dX6_init_215 : decode cX6_init 215 = .ok (.bipush 35, 2) := by decide +kernel
theorem dX6_init_217 : decode cX6_init 217 = .ok (.ldc2_w 43, 3) := by decide +kernel
theorem dX6_init_220 : decode cX6_init 220 = .ok (.lastore, 1) := by decide +kernel
theorem dX6_init_221 : decode cX6_init 221 = .ok (.dup, 1) := by decide +kernel
theorem dX6_init_222 : decode cX6_init 222 = .ok (.bipush 36, 2) := by decide +kernel
theorem dX6_init_224 : decode cX6_init 224 = .ok (.lconst 0, 1) := by decide +kernel
theorem dX6_init_225 : decode cX6_init 225 = .ok (.lastore, 1) := by decide +kernel
theorem dX6_init_226 : decode cX6_init 226 = .ok (.dup, 1) := by decide +kernel
theorem dX6_init_227 : decode cX6_init 227 = .ok (.bipush 37, 2) := by decide +kernel
theorem dX6_init_229 : decode cX6_init 229 = .ok (.ldc2_w 45, 3) := by decide +kernel
theorem dX6_init_232 : decode cX6_init 232 = .ok (.lastore, 1) := by decide +kernel
theorem dX6_init_233 : decode cX6_init 233 = .ok (.dup, 1) := by decide +kernel
theorem dX6_init_234 : decode cX6_init 234 = .ok (.bipush 38, 2) := by decide +kernel
theorem dX6_init_236 : decode cX6_init 236 = .ok (.lconst 0, 1) := by decide +kernel
theorem dX6_init_237 : decode cX6_init 237 = .ok (.lastore, 1) := by decide +kernel
theorem dX6_init_238 : decode cX6_init 238 = .ok (.dup, 1) := by decide +kernel
theorem dX6_init_239 : decode cX6_init 239 = .ok (.bipush 39, 2) := by decide +kernel
theorem dX6_init_241 : decode cX6_init 241 = .ok (.ldc2_w 47, 3) := by decide +kernel
theorem dX6_init_244 : decode cX6_init 244 = .ok (.lastore, 1) := by decide +kernel
theorem dX6_init_245 : decode cX6_init 245 = .ok (.dup, 1) := by decide +kernel
theorem dX6_init_246 : decode cX6_init 246 = .ok (.bipush 40, 2) := by decide +kernel
theorem dX6_init_248 : decode cX6_init 248 = .ok (.ldc2_w 49, 3) := by decide +kernel
theorem dX6_init_251 : decode cX6_init 251 = .ok (.lastore, 1) := by decide +kernel
theorem dX6_init_252 : decode cX6_init 252 = .ok (.dup, 1) := by decide +kernel
theorem dX6_init_253 : decode cX6_init 253 = .ok (.bipush 41, 2) := by decide +kernel
theorem dX6_init_255 : decode cX6_init 255 = .ok (.lconst 0, 1) := by decide +kernel
theorem dX6_init_256 : decode cX6_init 256 = .ok (.lastore, 1) := by decide +kernel
theorem dX6_init_257 : decode cX6_init 257 = .ok (.dup, 1) := by decide +kernel
theorem dX6_init_258 : decode cX6_init 258 = .ok (.bipush 42, 2) := by decide +kernel
theorem dX6_init_260 : decode cX6_init 260 = .ok (.ldc2_w 51, 3) := by decide +kernel
theorem dX6_init_263 : decode cX6_init 263 = .ok (.lastore, 1) := by decide +kernel
theorem dX6_init_264 : decode cX6_init 264 = .ok (.dup, 1) := by decide +kernel
theorem dX6_init_265 : decode cX6_init 265 = .ok (.bipush 43, 2) := by decide +kernel
theorem dX6_init_267 : decode cX6_init 267 = .ok (.lconst 0, 1) := by decide +kernel
theorem dX6_init_268 : decode cX6_init 268 = .ok (.lastore, 1) := by decide +kernel
theorem dX6_init_269 : decode cX6_init 269 = .ok (.dup, 1) := by decide +kernel
theorem dX6_init_270 : decode cX6_init 270 = .ok (.bipush 44, 2) := by decide +kernel
theorem dX6_init_272 : decode cX6_init 272 = .ok (.ldc2_w 53, 3) := by decide +kernel
theorem dX6_init_275 : decode cX6_init 275 = .ok (.lastore, 1) := by decide +kernel
theorem dX6_init_276 : decode cX6_init 276 = .ok (.dup, 1) := by decide +kernel
theorem dX6_init_277 : decode cX6_init 277 = .ok (.bipush 45, 2) := by decide +kernel
theorem dX6_init_279 : decode cX6_init 279 = .ok (.lconst 0, 1) := by decide +kernel
theorem dX6_init_280 : decode cX6_init 280 = .ok (.lastore, 1) := by decide +kernel
theorem dX6_init_281 : decode cX6_init 281 = .ok (.dup, 1) := by decide +kernel
theorem dX6_init_282 : decode cX6_init 282 = .ok (.bipush 46, 2) := by decide +kernel
theorem dX6_init_284 : decode cX6_init 284 = .ok (.ldc2_w 55, 3) := by decide +kernel
theorem dX6_init_287 : decode cX6_init 287 = .ok (.lastore, 1) := by decide +kernel
theorem dX6_init_288 : decode cX6_init 288 = .ok (.dup, 1) := by decide +kernel
theorem dX6_init_289 : decode cX6_init 289 = .ok (.bipush 47, 2) := by decide +kernel
theorem dX6_init_291 : decode cX6_init 291 = .ok (.ldc2_w 57, 3) := by decide +kernel
theorem dX6_init_294 : decode cX6_init 294 = .ok (.lastore, 1) := by decide +kernel
theorem dX6_init_295 : decode cX6_init 295 = .ok (.dup, 1) := by decide +kernel
theorem dX6_init_296 : decode cX6_init 296 = .ok (.bipush 48, 2) := by decide +kernel
theorem dX6_init_298 : decode cX6_init 298 = .ok (.lconst 0, 1) := by decide +kernel
theorem dX6_init_299 : decode cX6_init 299 = .ok (.lastore, 1) := by decide +kernel
theorem dX6_init_300 : decode cX6_init 300 = .ok (.dup, 1) := by decide +kernel
theorem dX6_init_301 : decode cX6_init 301 = .ok (.bipush 49, 2) := by decide +kernel
theorem dX6_init_303 : decode cX6_init 303 = .ok (.ldc2_w 55, 3) := by decide +kernel
theorem dX6_init_306 : decode cX6_init 306 = .ok (.lastore, 1) := by decide +kernel
theorem dX6_init_307 : decode cX6_init 307 = .ok (.dup, 1) := by decide +kernel
theorem dX6_init_308 : decode cX6_init 308 = .ok (.bipush 50, 2) := by decide +kernel
theorem dX6_init_310 : decode cX6_init 310 = .ok (.ldc2_w 59, 3) := by decide +kernel
theorem dX6_init_313 : decode cX6_init 313 = .ok (.lastore, 1) := by decide +kernel
theorem dX6_init_314 : decode cX6_init 314 = .ok (.dup, 1) := by decide +kernel
theorem dX6_init_315 : decode cX6_init 315 = .ok (.bipush 51, 2) := by decide +kernel
theorem dX6_init_317 : decode cX6_init 317 = .ok (.lconst 0, 1) := by decide +kernel
theorem dX6_init_318 : decode cX6_init 318 = .ok (.lastore, 1) := by decide +kernel
theorem dX6_init_319 : decode cX6_init 319 = .ok (.dup, 1) := by decide +kernel
theorem dX6_init_320 : decode cX6_init 320 = .ok (.bipush 52, 2) := by decide +kernel
theorem dX6_init_322 : decode cX6_init 322 = .ok (.ldc2_w 61, 3) := by decide +kernel
theorem dX6_init_325 : decode cX6_init 325 = .ok (.lastore, 1) := by decide +kernel
theorem dX6_init_326 : decode cX6_init 326 = .ok (.dup, 1) := by decide +kernel
theorem dX6_init_327 : decode cX6_init 327 = .ok (.bipush 53, 2) := by decide +kernel
theorem dX6_init_329 : decode cX6_init 329 = .ok (.ldc2_w 63, 3) := by decide +kernel
theorem dX6_init_332 : decode cX6_init 332 = .ok (.lastore, 1) := by decide +kernel
theorem dX6_init_333 : decode cX6_init 333 = .ok (.dup, 1) := by decide +kernel
theorem dX6_init_334 : decode cX6_init 334 = .ok (.bipush 54, 2) := by decide +kernel
theorem dX6_init_336 : decode cX6_init 336 = .ok (.ldc2_w 65, 3) := by decide +kernel
theorem dX6_init_339 : decode cX6_init 339 = .ok (.lastore, 1) := by decide +kernel
theorem dX6_init_340 : decode cX6_init 340 = .ok (.dup, 1) := by decide +kernel
theorem dX6_init_341 : decode cX6_init 341 = .ok (.bipush 55, 2) := by decide +kernel
theorem dX6_init_343 : decode cX6_init 343 = .ok (.lconst 0, 1) := by decide +kernel
theorem dX6_init_344 : decode cX6_init 344 = .ok (.lastore, 1) := by decide +kernel
theorem dX6_init_345 : decode cX6_init 345 = .ok (.dup, 1) := by decide +kernel
theorem dX6_init_346 : decode cX6_init 346 = .ok (.bipush 56, 2) := by decide +kernel
theorem dX6_init_348 : decode cX6_init 348 = .ok (.ldc2_w 67, 3) := by decide +kernel
theorem dX6_init_351 : decode cX6_init 351 = .ok (.lastore, 1) := by decide +kernel
theorem dX6_init_352 : decode cX6_init 352 = .ok (.dup, 1) := by decide +kernel
theorem dX6_init_353 : decode cX6_init 353 = .ok (.bipush 57, 2) := by decide +kernel
theorem dX6_init_355 : decode cX6_init 355 = .ok (.ldc2_w 69, 3) := by decide +kernel
theorem dX6_init_358 : decode cX6_init 358 = .ok (.lastore, 1) := by decide +kernel
theorem dX6_init_359 : decode cX6_init 359 = .ok (.dup, 1) := by decide +kernel
theorem dX6_init_360 : decode cX6_init 360 = .ok (.bipush 58, 2) := by decide +kernel
theorem dX6_init_362 : decode cX6_init 362 = .ok (.ldc2_w 71, 3) := by decide +kernel
theorem dX6_init_365 : decode cX6_init 365 = .ok (.lastore, 1) := by decide +kernel
theorem dX6_init_366 : decode cX6_init 366 = .ok (.dup, 1) := by decide +kernel
theorem dX6_init_367 : decode cX6_init 367 = .ok (.bipush 59, 2) := by decide +kernel
theorem dX6_init_369 : decode cX6_init 369 = .ok (.lconst 0, 1) := by decide +kernel
theorem dX6_init_370 : decode cX6_init 370 = .ok (.lastore, 1) := by decide +kernel
theorem dX6_init_371 : decode cX6_init 371 = .ok (.dup, 1) := by decide +kernel
theorem dX6_init_372 : decode cX6_init 372 = .ok (.bipush 60, 2) := by decide +kernel
theorem dX6_init_374 : decode cX6_init 374 = .ok (.ldc2_w 73, 3) := by decide +kernel
theorem dX6_init_377 : decode cX6_init 377 = .ok (.lastore, 1) := by decide +kernel
theorem dX6_init_378 : decode cX6_init 378 = .ok (.dup, 1) := by decide +kernel
theorem dX6_init_379 : decode cX6_init 379 = .ok (.bipush 61, 2) := by decide +kernel
theorem dX6_init_381 : decode cX6_init 381 = .ok (.ldc2_w 71, 3) := by decide +kernel
theorem dX6_init_384 : decode cX6_init 384 = .ok (.lastore, 1) := by decide +kernel
theorem dX6_init_385 : decode cX6_init 385 = .ok (.dup, 1) := by decide +kernel
theorem dX6_init_386 : decode cX6_init 386 = .ok (.bipush 62, 2) := by decide +kernel
theorem dX6_init_388 : decode cX6_init 388 = .ok (.lconst 0, 1) := by decide +kernel
theorem dX6_init_389 : decode cX6_init 389 = .ok (.lastore, 1) := by decide +kernel
theorem dX6_init_390 : decode cX6_init 390 = .ok (.dup, 1) := by decide +kernel
theorem dX6_init_391 : decode cX6_init 391 = .ok (.bipush 63, 2) := by decide +kernel
theorem dX6_init_393 : decode cX6_init 393 = .ok (.ldc2_w 75, 3) := by decide +kernel
theorem dX6_init_396 : decode cX6_init 396 = .ok (.lastore, 1) := by decide +kernel
theorem dX6_init_397 : decode cX6_init 397 = .ok (.dup, 1) := by decide +kernel
theorem dX6_init_398 : decode cX6_init 398 = .ok (.bipush 64, 2) := by decide +kernel
theorem dX6_init_400 : decode cX6_init 400 = .ok (.ldc2_w 77, 3) := by decide +kernel
theorem dX6_init_403 : decode cX6_init 403 = .ok (.lastore, 1) := by decide +kernel
theorem dX6_init_404 : decode cX6_init 404 = .ok (.dup, 1) := by decide +kernel
theorem dX6_init_405 : decode cX6_init 405 = .ok (.bipush 65, 2) := by decide +kernel
theorem dX6_init_407 : decode cX6_init 407 = .ok (.lconst 0, 1) := by decide +kernel
theorem dX6_init_408 : decode cX6_init 408 = .ok (.lastore, 1) := by decide +kernel
theorem dX6_init_409 : decode cX6_init 409 = .ok (.dup, 1) := by decide +kernel
theorem dX6_init_410 : decode cX6_init 410 = .ok (.bipush 66, 2) := by decide +kernel
theorem dX6_init_412 : decode cX6_init 412 = .ok (.ldc2_w 79, 3) := by decide +kernel
theorem dX6_init_415 : decode cX6_init 415 = .ok (.lastore, 1) := by decide +kernel
theorem dX6_init_416 : decode cX6_init 416 = .ok (.dup, 1) := by decide +kernel
theorem dX6_init_417 : decode cX6_init 417 = .ok (.bipush 67, 2) := by decide +kernel
theorem dX6_init_419 : decode cX6_init 419 = .ok (.ldc2_w 81, 3) := by decide +kernel
theorem dX6_init_422 : decode cX6_init 422 = .ok (.lastore, 1) := by decide +kernel
theorem dX6_init_423 : decode cX6_init 423 = .ok (.dup, 1) := by decide +kernel
theorem dX6_init_424 : decode cX6_init 424 = .ok (.bipush 68, 2) := by decide +kernel
theorem dX6_init_426 : decode cX6_init 426 = .ok (.lconst 0, 1) := by decide +kernel
theorem dX6_init_427 : decode cX6_init 427 = .ok (.lastore, 1) := by decide +kernel
theorem dX6_init_428 : decode cX6_init 428 = .ok (.dup, 1) := by decide +kernel
theorem dX6_init_429 : decode cX6_init 429 = .ok (.bipush 69, 2) := by decide +kernel
theorem dX6_init_431 : decode cX6_init 431 = .ok (.ldc2_w 83, 3) := by decide +kernel
theorem dX6_init_434 : decode cX6_init 434 = .ok (.lastore, 1) := by decide +kernel
theorem dX6_init_435 : decode cX6_init 435 = .ok (.dup, 1) := by decide +kernel
theorem dX6_init_436 : decode cX6_init 436 = .ok (.bipush 70, 2) := by decide +kernel
theorem dX6_init_438 : decode cX6_init 438 = .ok (.lconst 0, 1) := by decide +kernel
theorem dX6_init_439 : decode cX6_init 439 = .ok (.lastore, 1) := by decide +kernel
theorem dX6_init_440 : decode cX6_init 440 = .ok (.dup, 1) := by decide +kernel
theorem dX6_init_441 : decode cX6_init 441 = .ok (.bipush 71, 2) := by decide +kernel
theorem dX6_init_443 : decode cX6_init 443 = .ok (.ldc2_w 67, 3) := by decide +kernel
theorem dX6_init_446 : decode cX6_init 446 = .ok (.lastore, 1) := by decide +kernel
theorem dX6_init_447 : decode cX6_init 447 = .ok (.dup, 1) := by decide +kernel
theorem dX6_init_448 : decode cX6_init 448 = .ok (.bipush 72, 2) := by decide +kernel
theorem dX6_init_450 : decode cX6_init 450 = .ok (.ldc2_w 85, 3) := by decide +kernel
theorem dX6_init_453 : decode cX6_init 453 = .ok (.lastore, 1) := by decide +kernel
theorem dX6_init_454 : decode cX6_init 454 = .ok (.dup, 1) := by decide +kernel
theorem dX6_init_455 : decode cX6_init 455 = .ok (.bipush 73, 2) := by decide +kernel
theorem dX6_init_457 : decode cX6_init 457 = .ok (.lconst 0, 1) := by decide +kernel
theorem dX6_init_458 : decode cX6_init 458 = .ok (.lastore, 1) := by decide +kernel
theorem dX6_init_459 : decode cX6_init 459 = .ok (.dup, 1) := by decide +kernel
theorem dX6_init_460 : decode cX6_init 460 = .ok (.bipush 74, 2) := by decide +kernel
theorem dX6_init_462 : decode cX6_init 462 = .ok (.ldc2_w 87, 3) := by decide +kernel
theorem dX6_init_465 : decode cX6_init 465 = .ok (.lastore, 1) := by decide +kernel
theorem dX6_init_466 : decode cX6_init 466 = .ok (.dup, 1) := by decide +kernel
theorem dX6_init_467 : decode cX6_init 467 = .ok (.bipush 75, 2) := by decide +kernel
theorem dX6_init_469 : decode cX6_init 469 = .ok (.lconst 0, 1) := by decide +kernel
theorem dX6_init_470 : decode cX6_init 470 = .ok (.lastore, 1) := by decide +kernel
theorem dX6_init_471 : decode cX6_init 471 = .ok (.dup, 1) := by decide +kernel
theorem dX6_init_472 : decode cX6_init 472 = .ok (.bipush 76, 2) := by decide +kernel
theorem dX6_init_474 : decode cX6_init 474 = .ok (.ldc2_w 89, 3) := by decide +kernel
theorem dX6_init_477 : decode cX6_init 477 = .ok (.lastore, 1) := by decide +kernel
theorem dX6_init_478 : decode cX6_init 478 = .ok (.dup, 1) := by decide +kernel
theorem dX6_init_479 : decode cX6_init 479 = .ok (.bipush 77, 2) := by decide +kernel
theorem dX6_init_481 : decode cX6_init 481 = .ok (.ldc2_w 91, 3) := by decide +kernel
theorem dX6_init_484 : decode cX6_init 484 = .ok (.lastore, 1) := by decide +kernel
theorem dX6_init_485 : decode cX6_init 485 = .ok (.dup, 1) := by decide +kernel
theorem dX6_init_486 : decode cX6_init 486 = .ok (.bipush 78, 2) := by decide +kernel
theorem dX6_init_488 : decode cX6_init 488 = .ok (.lconst 0, 1) := by decide +kernel
theorem dX6_init_489 : decode cX6_init 489 = .ok (.lastore, 1) := by decide +kernel
theorem dX6_init_490 : decode cX6_init 490 = .ok (.dup, 1) := by decide +kernel
theorem dX6_init_491 : decode cX6_init 491 = .ok (.bipush 79, 2) := by decide +kernel
theorem dX6_init_493 : decode cX6_init 493 = .ok (.ldc2_w 93, 3) := by decide +kernel
theorem dX6_init_496 : decode cX6_init 496 = .ok (.lastore, 1) := by decide +kernel
theorem dX6_init_497 : decode cX6_init 497 = .ok (.dup, 1) := by decide +kernel
theorem dX6_init_498 : decode cX6_init 498 = .ok (.bipush 80, 2) := by decide +kernel
theorem dX6_init_500 : decode cX6_init 500 = .ok (.lconst 0, 1) := by decide +kernel
theorem dX6_init_501 : decode cX6_init 501 = .ok (.lastore, 1) := by decide +kernel
theorem dX6_init_502 : decode cX6_init 502 = .ok (.dup, 1) := by decide +kernel
theorem dX6_init_503 : decode cX6_init 503 = .ok (.bipush 81, 2) := by decide +kernel
theorem dX6_init_505 : decode cX6_init 505 = .ok (.ldc2_w 95, 3) := by decide +kernel
theorem dX6_init_508 : decode cX6_init 508 = .ok (.lastore, 1) := by decide +kernel
theorem dX6_init_509 : decode cX6_init 509 = .ok (.dup, 1) := by decide +kernel
theorem dX6_init_510 : decode cX6_init 510 = .ok (.bipush 82, 2) := by decide +kernel
theorem dX6_init_512 : decode cX6_init 512 = .ok (.ldc2_w 97, 3) := by decide +kernel
theorem dX6_init_515 : decode cX6_init 515 = .ok (.lastore, 1) := by decide +kernel
theorem dX6_init_516 : decode cX6_init 516 = .ok (.dup, 1) := by decide +kernel
theorem dX6_init_517 : decode cX6_init 517 = .ok (.bipush 83, 2) := by decide +kernel
theorem dX6_init_519 : decode cX6_init 519 = .ok (.ldc2_w 99, 3) := by decide +kernel
theorem dX6_init_522 : decode cX6_init 522 = .ok (.lastore, 1) := by decide +kernel
theorem dX6_init_523 : decode cX6_init 523 = .ok (.dup, 1) := by decide +kernel
theorem dX6_init_524 : decode cX6_init 524 = .ok (.bipush 84, 2) := by decide +kernel
theorem dX6_init_526 : decode cX6_init 526 = .ok (.lconst 0, 1) := by decide +kernel
theorem dX6_init_527 : decode cX6_init 527 = .ok (.lastore, 1) := by decide +kernel
theorem dX6_init_528 : decode cX6_init 528 = .ok (.dup, 1) := by decide +kernel
theorem dX6_init_529 : decode cX6_init 529 = .ok (.bipush 85, 2) := by decide +kernel
theorem dX6_init_531 : decode cX6_init 531 = .ok (.ldc2_w 101, 3) := by decide +kernel
theorem dX6_init_534 : decode cX6_init 534 = .ok (.lastore, 1) := by decide +kernel
theorem dX6_init_535 : decode cX6_init 535 = .ok (.dup, 1) := by decide +kernel
theorem dX6_init_536 : decode cX6_init 536 = .ok (.bipush 86, 2) := by decide +kernel
theorem dX6_init_538 : decode cX6_init 538 = .ok (.ldc2_w 103, 3) := by decide +kernel
theorem dX6_init_541 : decode cX6_init 541 = .ok (.lastore, 1) := by decide +kernel
theorem dX6_init_542 : decode cX6_init 542 = .ok (.dup, 1) := by decide +kernel
theorem dX6_init_543 : decode cX6_init 543 = .ok (.bipush 87, 2) := by decide +kernel
theorem dX6_init_545 : decode cX6_init 545 = .ok (.lconst 0, 1) := by decide +kernel
theorem dX6_init_546 : decode cX6_init 546 = .ok (.lastore, 1) := by decide +kernel
theorem dX6_init_547 : decode cX6_init 547 = .ok (.dup, 1) := by decide +kernel
theorem dX6_init_548 : decode cX6_init 548 = .ok (.bipush 88, 2) := by decide +kernel
theorem dX6_init_550 : decode cX6_init 550 = .ok (.ldc2_w 105, 3) := by decide +kernel
theorem dX6_init_553 : decode cX6_init 553 = .ok (.lastore, 1) := by decide +kernel
theorem dX6_init_554 : decode cX6_init 554 = .ok (.dup, 1) := by decide +kernel
theorem dX6_init_555 : decode cX6_init 555 = .ok (.bipush 89, 2) := by decide +kernel
theorem dX6_init_557 : decode cX6_init 557 = .ok (.lconst 0, 1) := by decide +kernel
theorem dX6_init_558 : decode cX6_init 558 = .ok (.lastore, 1) := by decide +kernel
theorem dX6_init_559 : decode cX6_init 559 = .ok (.dup, 1) := by decide +kernel
theorem dX6_init_560 : decode cX6_init 560 = .ok (.bipush 90, 2) := by decide +kernel
theorem dX6_init_562 : decode cX6_init 562 = .ok (.ldc2_w 107, 3) := by decide +kernel
theorem dX6_init_565 : decode cX6_init 565 = .ok (.lastore, 1) := by decide +kernel
theorem dX6_init_566 : decode cX6_init 566 = .ok (.dup, 1) := by decide +kernel
theorem dX6_init_567 : decode cX6_init 567 = .ok (.bipush 91, 2) := by decide +kernel
theorem dX6_init_569 : decode cX6_init 569 = .ok (.lconst 0, 1) := by decide +kernel
theorem dX6_init_570 : decode cX6_init 570 = .ok (.lastore, 1) := by decide +kernel
theorem dX6_init_571 : decode cX6_init 571 = .ok (.dup, 1) := by decide +kernel
theorem dX6_init_572 : decode cX6_init 572 = .ok (.bipush 92, 2) := by decide +kernel
theorem dX6_init_574 : decode cX6_init 574 = .ok (.ldc2_w 109, 3) := by decide +kernel
theorem dX6_init_577 : decode cX6_init 577 = .ok (.lastore, 1) := by decide +kernel
theorem dX6_init_578 : decode cX6_init 578 = .ok (.dup, 1) := by decide +kernel
theorem dX6_init_579 : decode cX6_init 579 = .ok (.bipush 93, 2) := by decide +kernel
theorem dX6_init_581 : decode cX6_init 581 = .ok (.lconst 0, 1) := by decide +kernel
theorem dX6_init_582 : decode cX6_init 582 = .ok (.lastore, 1) := by decide +kernel
theorem dX6_init_583 : decode cX6_init 583 = .ok (.dup, 1) := by decide +kernel
theorem dX6_init_584 : decode cX6_init 584 = .ok (.bipush 94, 2) := by decide +kernel
theorem dX6_init_586 : decode cX6_init 586 = .ok (.ldc2_w 111, 3) := by decide +kernel
theorem dX6_init_589 : decode cX6_init 589 = .ok (.lastore, 1) := by decide +kernel
theorem dX6_init_590 : decode cX6_init 590 = .ok (.dup, 1) := by decide +kernel
theorem dX6_init_591 : decode cX6_init 591 = .ok (.bipush 95, 2) := by decide +kernel
theorem dX6_init_593 : decode cX6_init 593 = .ok (.lconst 0, 1) := by decide +kernel
theorem dX6_init_594 : decode cX6_init 594 = .ok (.lastore, 1) := by decide +kernel
theorem dX6_init_595 : decode cX6_init 595 = .ok (.dup, 1) := by decide +kernel
theorem dX6_init_596 : decode cX6_init 596 = .ok (.bipush 96, 2) := by decide +kernel
theorem dX6_init_598 : decode cX6_init 598 = .ok (.ldc2_w 113, 3) := by decide +kernel
theorem dX6_init_601 : decode cX6_init 601 = .ok (.lastore, 1) := by decide +kernel
theorem dX6_init_602 : decode cX6_init 602 = .ok (.dup, 1) := by decide +kernel
theorem dX6_init_603 : decode cX6_init 603 = .ok (.bipush 97, 2) := by decide +kernel
theorem dX6_init_605 : decode cX6_init 605 = .ok (.lconst 0, 1) := by decide +kernel
theorem dX6_init_606 : decode cX6_init 606 = .ok (.lastore, 1) := by decide +kernel
theorem dX6_init_607 : decode cX6_init 607 = .ok (.putfield 115, 3) := by decide +kernel
theorem dX6_init_610 : decode cX6_init 610 = .ok (.aload_n 0, 1) := by decide +kernel
theorem dX6_init_611 : decode cX6_init 611 = .ok (.sipush 404, 3) := by decide +kernel
theorem dX6_init_614 : decode cX6_init 614 = .ok (.newarray .int, 2) := by decide +kernel
theorem dX6_init_616 : decode cX6_init 616 = .ok (.putfield 121, 3) := by decide +kernel
theorem dX6_init_619 : decode cX6_init 619 = .ok (.aload_n 0, 1) := by decide +kernel
theorem dX6_init_620 : decode cX6_init 620 = .ok (.sipush 404, 3) := by decide +kernel
theorem dX6_init_623 : decode cX6_init 623 = .ok (.newarray .int, 2) := by decide +kernel
theorem dX6_init_625 : decode cX6_init 625 = .ok (.putfield 125, 3) := by decide +kernel
theorem dX6_init_628 : decode cX6_init 628 = .ok (.aload_n 0, 1) := by decide +kernel
theorem dX6_init_629 : decode cX6_init 629 = .ok (.sipush 301, 3) := by decide +kernel
theorem dX6_init_632 : decode cX6_init 632 = .ok (.newarray .int, 2) := by decide +kernel
theorem dX6_init_634 : decode cX6_init 634 = .ok (.putfield 128, 3) := by decide +kernel
theorem dX6_init_637 : decode cX6_init 637 = .ok (.aload_n 0, 1) := by decide +kernel
theorem dX6_init_638 : decode cX6_init 638 = .ok (.sipush 301, 3) := by decide +kernel
theorem dX6_init_641 : decode cX6_init 641 = .ok (.newarray .int, 2) := by decide +kernel
theorem dX6_init_643 : decode cX6_init 643 = .ok (.putfield 131, 3) := by decide +kernel
theorem dX6_init_646 : decode cX6_init 646 = .ok (.aload_n 0, 1) := by decide +kernel
theorem dX6_init_647 : decode cX6_init 647 = .ok (.sipush 301, 3) := by decide +kernel
theorem dX6_init_650 : decode cX6_init 650 = .ok (.newarray .int, 2) := by decide +kernel
theorem dX6_init_652 : decode cX6_init 652 = .ok (.putfield 134, 3) := by decide +kernel
theorem dX6_init_655 : decode cX6_init 655 = .ok (.aload_n 0, 1) := by decide +kernel
theorem dX6_init_656 : decode cX6_init 656 = .ok (.sipush 903, 3) := by decide +kernel
theorem dX6_init_659 : decode cX6_init 659 = .ok (.newarray .int, 2) := by decide +kernel
theorem dX6_init_661 : decode cX6_init 661 = .ok (.putfield 137, 3) := by decide +kernel
theorem dX6_init_664 : decode cX6_init 664 = .ok (.aload_n 0, 1) := by decide +kernel
theorem dX6_init_665 : decode cX6_init 665 = .ok (.sipush 1204, 3) := by decide +kernel
theorem dX6_init_668 : decode cX6_init 668 = .ok (.newarray .int, 2) := by decide +kernel
theorem dX6_init_670 : decode cX6_init 670 = .ok (.putfield 140, 3) := by decide +kernel
theorem dX6_init_673 : decode cX6_init 673 = .ok (.aload_n 0, 1) := by decide +kernel
theorem dX6_init_674 : decode cX6_init 674 = .ok (.sipush 301, 3) := by decide +kernel
theorem dX6_init_677 : decode cX6_init 677 = .ok (.newarray .boolean, 2) := by decide +kernel
theorem dX6_init_679 : decode cX6_init 679 = .ok (.putfield 143, 3) := by decide +kernel
theorem dX6_init_682 : decode cX6_init 682 = .ok (.aload_n 0, 1) := by decide +kernel
theorem dX6_init_683 : decode cX6_init 683 = .ok (.sipush 400, 3) := by decide +kernel
theorem dX6_init_686 : decode cX6_init 686 = .ok (.newarray .int, 2) := by decide +kernel
theorem dX6_init_688 : decode cX6_init 688 = .ok (.putfield 147, 3) := by decide +kernel
theorem dX6_init_691 : decode cX6_init 691 = .ok (.aload_n 0, 1) := by decide +kernel
theorem dX6_init_692 : decode cX6_init 692 = .ok (.sipush 301, 3) := by decide +kernel
theorem dX6_init_695 : decode cX6_init 695 = .ok (.newarray .int, 2) := by decide +kernel
theorem dX6_init_697 : decode cX6_init 697 = .ok (.putfield 150, 3) := by decide +kernel
theorem dX6_init_700 : decode cX6_init 700 = .ok (.aload_n 0, 1) := by decide +kernel
theorem dX6_init_701 : decode cX6_init 701 = .ok (.sipush 301, 3) := by decide +kernel
theorem dX6_init_704 : decode cX6_init 704 = .ok (.newarray .int, 2) := by decide +kernel
theorem dX6_init_706 : decode cX6_init 706 = .ok (.putfield 153, 3) := by decide +kernel
theorem dX6_init_709 : decode cX6_init 709 = .ok (.return_, 1) := by decide +kernel
theorem dX6_isTerm_0 : decode cX6_isTerm 0 = .ok (.iload_n 0, 1) := by decide +kernel
theorem dX6_isTerm_1 : decode cX6_isTerm 1 = .ok (.ifCond .lt 14, 3) := by decide +kernel
theorem dX6_isTerm_4 : decode cX6_isTerm 4 = .ok (.iload_n 0, 1) := by decide +kernel
theorem dX6_isTerm_5 : decode cX6_isTerm 5 = .ok (.sipush 1000, 3) := by decide +kernel
theorem dX6_isTerm_8 : decode cX6_isTerm 8 = .ok (.if_icmp .ge 7, 3) := by decide +kernel
theorem dX6_isTerm_11 : decode cX6_isTerm 11 = .ok (.iconst 1, 1) := by decide +kernel
theorem dX6_isTerm_12 : decode cX6_isTerm 12 = .ok (.goto 4, 3) := by decide +kernel
theorem dX6_isTerm_15 : decode cX6_isTerm 15 = .ok (.iconst 0, 1) := by decide +kernel
theorem dX6_isTerm_16 : decode cX6_isTerm 16 = .ok (.ireturn, 1) := by decide +kernel
set_option maxRecDepth 20000 in
theorem ggX6_axiom_X6_isTerm : GoodIn wsX6_axiom wsX6_isTerm := goodIn_r _ [6] (by decide +kernel) (by decide +kernel)
set_option maxRecDepth 20000 in
theorem gX6_axiom_X6_isTerm : GoodIn wsX6_axiom (va_wsS RX6 156 yX6_isTerm wsX6_isTerm) := goodIn_app (goodIn_of _ (by decide +kernel)) ggX6_axiom_X6_isTerm
theorem dX6_axiom_0 : decode cX6_axiom 0 = .ok (.iload_n 1, 1) := by decide +kernel
theorem dX6_axiom_1 : decode cX6_axiom 1 = .ok (.bipush 6, 2) := by decide +kernel
theorem dX6_axiom_3 : decode cX6_axiom 3 = .ok (.if_icmp .eq 15, 3) := by decide +kernel
theorem dX6_axiom_6 : decode cX6_axiom 6 = .ok (.iload_n 1, 1) := by decide +kernel
theorem dX6_axiom_7 : decode cX6_axiom 7 = .ok (.bipush 7, 2) := by decide +kernel
theorem dX6_axiom_9 : decode cX6_axiom 9 = .ok (.if_icmp .eq 9, 3) := by decide +kernel
theorem dX6_axiom_12 : decode cX6_axiom 12 = .ok (.iload_n 1, 1) := by decide +kernel
theorem dX6_axiom_13 : decode cX6_axiom 13 = .ok (.bipush 9, 2) := by decide +kernel
theorem dX6_axiom_15 : decode cX6_axiom 15 = .ok (.if_icmp .ne 7, 3) := by decide +kernel
theorem dX6_axiom_18 : decode cX6_axiom 18 = .ok (.iconst 1, 1) := by decide +kernel
theorem dX6_axiom_19 : decode cX6_axiom 19 = .ok (.goto 4, 3) := by decide +kernel
theorem dX6_axiom_22 : decode cX6_axiom 22 = .ok (.iconst 0, 1) := by decide +kernel
theorem dX6_axiom_23 : decode cX6_axiom 23 = .ok (.istore 4, 2) := by decide +kernel
theorem dX6_axiom_25 : decode cX6_axiom 25 = .ok (.iload_n 1, 1) := by decide +kernel
theorem dX6_axiom_26 : decode cX6_axiom 26 = .ok (.iconst 1, 1) := by decide +kernel
theorem dX6_axiom_27 : decode cX6_axiom 27 = .ok (.if_icmp .lt 28, 3) := by decide +kernel
theorem dX6_axiom_30 : decode cX6_axiom 30 = .ok (.iload_n 1, 1) := by decide +kernel
theorem dX6_axiom_31 : decode cX6_axiom 31 = .ok (.bipush 10, 2) := by decide +kernel
theorem dX6_axiom_33 : decode cX6_axiom 33 = .ok (.if_icmp .gt 22, 3) := by decide +kernel
theorem dX6_axiom_36 : decode cX6_axiom 36 = .ok (.iload_n 2, 1) := by decide +kernel
theorem dX6_axiom_37 : decode cX6_axiom 37 = .ok (.invokestatic 156, 3) := by decide +kernel
theorem dX6_axiom_40 : decode cX6_axiom 40 = .ok (.ifCond .eq 15, 3) := by decide +kernel
theorem dX6_axiom_43 : decode cX6_axiom 43 = .ok (.iload 4, 2) := by decide +kernel
theorem dX6_axiom_45 : decode cX6_axiom 45 = .ok (.ifCond .ne 13, 3) := by decide +kernel
theorem dX6_axiom_48 : decode cX6_axiom 48 = .ok (.iload_n 3, 1) := by decide +kernel
theorem dX6_axiom_49 : decode cX6_axiom 49 = .ok (.invokestatic 156, 3) := by decide +kernel
theorem dX6_axiom_52 : decode cX6_axiom 52 = .ok (.ifCond .ne 6, 3) := by decide +kernel
theorem dX6_axiom_55 : decode cX6_axiom 55 = .ok (.bipush (-2), 2) := by decide +kernel
theorem dX6_axiom_57 : decode cX6_axiom 57 = .ok (.ireturn, 1) := by decide +kernel
theorem dX6_axiom_58 : decode cX6_axiom 58 = .ok (.aload_n 0, 1) := by decide +kernel
theorem dX6_axiom_59 : decode cX6_axiom 59 = .ok (.getfield 160, 3) := by decide +kernel
theorem dX6_axiom_62 : decode cX6_axiom 62 = .ok (.bipush 100, 2) := by decide +kernel
theorem dX6_axiom_64 : decode cX6_axiom 64 = .ok (.if_icmp .ne 6, 3) := by decide +kernel
theorem dX6_axiom_67 : decode cX6_axiom 67 = .ok (.bipush (-4), 2) := by decide +kernel
theorem dX6_axiom_69 : decode cX6_axiom 69 = .ok (.ireturn, 1) := by decide +kernel
theorem dX6_axiom_70 : decode cX6_axiom 70 = .ok (.aload_n 0, 1) := by decide +kernel
theorem dX6_axiom_71 : decode cX6_axiom 71 = .ok (.dup, 1) := by decide +kernel
theorem dX6_axiom_72 : decode cX6_axiom 72 = .ok (.getfield 160, 3) := by decide +kernel
theorem dX6_axiom_75 : decode cX6_axiom 75 = .ok (.iconst 1, 1) := by decide +kernel
theorem dX6_axiom_76 : decode cX6_axiom 76 = .ok (.iadd, 1) := by decide +kernel
theorem dX6_axiom_77 : decode cX6_axiom 77 = .ok (.putfield 160, 3) := by decide +kernel
theorem dX6_axiom_80 : decode cX6_axiom 80 = .ok (.aload_n 0, 1) := by decide +kernel
theorem dX6_axiom_81 : decode cX6_axiom 81 = .ok (.getfield 121, 3) := by decide +kernel
theorem dX6_axiom_84 : decode cX6_axiom 84 = .ok (.iconst 4, 1) := by decide +kernel
theorem dX6_axiom_85 : decode cX6_axiom 85 = .ok (.aload_n 0, 1) := by decide +kernel
theorem dX6_axiom_86 : decode cX6_axiom 86 = .ok (.getfield 160, 3) := by decide +kernel
theorem dX6_axiom_89 : decode cX6_axiom 89 = .ok (.imul, 1) := by decide +kernel
theorem dX6_axiom_90 : decode cX6_axiom 90 = .ok (.iload_n 1, 1) := by decide +kernel
theorem dX6_axiom_91 : decode cX6_axiom 91 = .ok (.iastore, 1) := by decide +kernel
theorem dX6_axiom_92 : decode cX6_axiom 92 = .ok (.aload_n 0, 1) := by decide +kernel
theorem dX6_axiom_93 : decode cX6_axiom 93 = .ok (.getfield 121, 3) := by decide +kernel
theorem dX6_axiom_96 : decode cX6_axiom 96 = .ok (.iconst 4, 1) := by decide +kernel
theorem dX6_axiom_97 : decode cX6_axiom 97 = .ok (.aload_n 0, 1) := by decide +kernel
theorem dX6_axiom_98 : decode cX6_axiom 98 = .ok (.getfield 160, 3) := by decide +kernel
theorem dX6_axiom_101 : decode cX6_axiom 101 = .ok (.imul, 1) := by decide +kernel
theorem dX6_axiom_102 : decode cX6_axiom 102 = .ok (.iconst 1, 1) := by decide +kernel
theorem dX6_axiom_103 : decode cX6_axiom 103 = .ok (.iadd, 1) := by decide +kernel
theorem dX6_axiom_104 : decode cX6_axiom 104 = .ok (.iload_n 2, 1) := by decide +kernel
theorem dX6_axiom_105 : decode cX6_axiom 105 = .ok (.iastore, 1) := by decide +kernel
theorem dX6_axiom_106 : decode cX6_axiom 106 = .ok (.aload_n 0, 1) := by decide +kernel
theorem dX6_axiom_107 : decode cX6_axiom 107 = .ok (.getfield 121, 3) := by decide +kernel
theorem dX6_axiom_110 : decode cX6_axiom 110 = .ok (.iconst 4, 1) := by decide +kernel
theorem dX6_axiom_111 : decode cX6_axiom 111 = .ok (.aload_n 0, 1) := by decide +kernel
theorem dX6_axiom_112 : decode cX6_axiom 112 = .ok (.getfield 160, 3) := by decide +kernel
theorem dX6_axiom_115 : decode cX6_axiom 115 = .ok (.imul, 1) := by decide +kernel
theorem dX6_axiom_116 : decode cX6_axiom 116 = .ok (.iconst 2, 1) := by decide +kernel
theorem dX6_axiom_117 : decode cX6_axiom 117 = .ok (.iadd, 1) := by decide +kernel
theorem dX6_axiom_118 : decode cX6_axiom 118 = .ok (.iload 4, 2) := by decide +kernel
theorem dX6_axiom_120 : decode cX6_axiom 120 = .ok (.ifCond .eq 7, 3) := by decide +kernel
theorem dX6_axiom_123 : decode cX6_axiom 123 = .ok (.iconst 0, 1) := by decide +kernel
theorem dX6_axiom_124 : decode cX6_axiom 124 = .ok (.goto 4, 3) := by decide +kernel
theorem dX6_axiom_127 : decode cX6_axiom 127 = .ok (.iload_n 3, 1) := by decide +kernel
theorem dX6_axiom_128 : decode cX6_axiom 128 = .ok (.iastore, 1) := by decide +kernel
theorem dX6_axiom_129 : decode cX6_axiom 129 = .ok (.aload_n 0, 1) := by decide +kernel
theorem dX6_axiom_130 : decode cX6_axiom 130 = .ok (.getfield 121, 3) := by decide +kernel
theorem dX6_axiom_133 : decode cX6_axiom 133 = .ok (.iconst 4, 1) := by decide +kernel
theorem dX6_axiom_134 : decode cX6_axiom 134 = .ok (.aload_n 0, 1) := by decide +kernel
theorem dX6_axiom_135 : decode cX6_axiom 135 = .ok (.getfield 160, 3) := by decide +kernel
theorem dX6_axiom_138 : decode cX6_axiom 138 = .ok (.imul, 1) := by decide +kernel
theorem dX6_axiom_139 : decode cX6_axiom 139 = .ok (.iconst 3, 1) := by decide +kernel
theorem dX6_axiom_140 : decode cX6_axiom 140 = .ok (.iadd, 1) := by decide +kernel
theorem dX6_axiom_141 : decode cX6_axiom 141 = .ok (.iconst 0, 1) := by decide +kernel
theorem dX6_axiom_142 : decode cX6_axiom 142 = .ok (.iastore, 1) := by decide +kernel
theorem dX6_axiom_143 : decode cX6_axiom 143 = .ok (.aload_n 0, 1) := by decide +kernel
theorem dX6_axiom_144 : decode cX6_axiom 144 = .ok (.getfield 160, 3) := by decide +kernel
theorem dX6_axiom_147 : decode cX6_axiom 147 = .ok (.ireturn, 1) := by decide +kernel
set_option maxRecDepth 20000 in
theorem ggX6_triple_X6_isTerm : GoodIn wsX6_triple wsX6_isTerm := goodIn_r _ [6] (by decide +kernel) (by decide +kernel)
set_option maxRecDepth 20000 in
theorem gX6_triple_X6_isTerm : GoodIn wsX6_triple (va_wsS RX6 156 yX6_isTerm wsX6_isTerm) := goodIn_app (goodIn_of _ (by decide +kernel)) ggX6_triple_X6_isTerm
theorem dX6_triple_0 : decode cX6_triple 0 = .ok (.iload_n 1, 1) := by decide +kernel
theorem dX6_triple_1 : decode cX6_triple 1 = .ok (.invokestatic 156, 3) := by decide +kernel
theorem dX6_triple_4 : decode cX6_triple 4 = .ok (.ifCond .eq 17, 3) := by decide +kernel
theorem dX6_triple_7 : decode cX6_triple 7 = .ok (.iload_n 2, 1) := by decide +kernel
theorem dX6_triple_8 : decode cX6_triple 8 = .ok (.invokestatic 156, 3) := by decide +kernel
theorem dX6_triple_11 : decode cX6_triple 11 = .ok (.ifCond .eq 10, 3) := by decide +kernel
theorem dX6_triple_14 : decode cX6_triple 14 = .ok (.iload_n 3, 1) := by decide +kernel
theorem dX6_triple_15 : decode cX6_triple 15 = .ok (.invokestatic 156, 3) := by decide +kernel
theorem dX6_triple_18 : decode cX6_triple 18 = .ok (.ifCond .ne 6, 3) := by decide +kernel
theorem dX6_triple_21 : decode cX6_triple 21 = .ok (.bipush (-2), 2) := by decide +kernel
theorem dX6_triple_23 : decode cX6_triple 23 = .ok (.ireturn, 1) := by decide +kernel
theorem dX6_triple_24 : decode cX6_triple 24 = .ok (.iconst 1, 1) := by decide +kernel
theorem dX6_triple_25 : decode cX6_triple 25 = .ok (.istore 4, 2) := by decide +kernel
theorem dX6_triple_27 : decode cX6_triple 27 = .ok (.iload 4, 2) := by decide +kernel
theorem dX6_triple_29 : decode cX6_triple 29 = .ok (.aload_n 0, 1) := by decide +kernel
theorem dX6_triple_30 : decode cX6_triple 30 = .ok (.getfield 164, 3) := by decide +kernel
theorem dX6_triple_33 : decode cX6_triple 33 = .ok (.if_icmp .gt 57, 3) := by decide +kernel
theorem dX6_triple_36 : decode cX6_triple 36 = .ok (.aload_n 0, 1) := by decide +kernel
theorem dX6_triple_37 : decode cX6_triple 37 = .ok (.getfield 125, 3) := by decide +kernel
theorem dX6_triple_40 : decode cX6_triple 40 = .ok (.iconst 4, 1) := by decide +kernel
theorem dX6_triple_41 : decode cX6_triple 41 = .ok (.iload 4, 2) := by decide +kernel
theorem dX6_triple_43 : decode cX6_triple 43 = .ok (.imul, 1) := by decide +kernel
theorem dX6_triple_44 : decode cX6_triple 44 = .ok (.iconst 1, 1) := by decide +kernel
theorem dX6_triple_45 : decode cX6_triple 45 = .ok (.iadd, 1) := by decide +kernel
theorem dX6_triple_46 : decode cX6_triple 46 = .ok (.iaload, 1) := by decide +kernel
theorem dX6_triple_47 : decode cX6_triple 47 = .ok (.iload_n 1, 1) := by decide +kernel
theorem dX6_triple_48 : decode cX6_triple 48 = .ok (.if_icmp .ne 36, 3) := by decide +kernel
theorem dX6_triple_51 : decode cX6_triple 51 = .ok (.aload_n 0, 1) := by decide +kernel
theorem dX6_triple_52 : decode cX6_triple 52 = .ok (.getfield 125, 3) := by decide +kernel
theorem dX6_triple_55 : decode cX6_triple 55 = .ok (.iconst 4, 1) := by decide +kernel
theorem dX6_triple_56 : decode cX6_triple 56 = .ok (.iload 4, 2) := by decide +kernel
theorem dX6_triple_58 : decode cX6_triple 58 = .ok (.imul, 1) := by decide +kernel
theorem dX6_triple_59 : decode cX6_triple 59 = .ok (.iconst 2, 1) := by decide +kernel
theorem dX6_triple_60 : decode cX6_triple 60 = .ok (.iadd, 1) := by decide +kernel
theorem dX6_triple_61 : decode cX6_triple 61 = .ok (.iaload, 1) := by decide +kernel
theorem dX6_triple_62 : decode cX6_triple 62 = .ok (.iload_n 2, 1) := by decide +kernel
theorem dX6_triple_63 : decode cX6_triple 63 = .ok (.if_icmp .ne 21, 3) := by decide +kernel
theorem dX6_triple_66 : decode cX6_triple 66 = .ok (.aload_n 0, 1) := by decide +kernel
theorem dX6_triple_67 : decode cX6_triple 67 = .ok (.getfield 125, 3) := by decide +kernel
theorem dX6_triple_70 : decode cX6_triple 70 = .ok (.iconst 4, 1) := by decide +kernel
theorem dX6_triple_71 : decode cX6_triple 71 = .ok (.iload 4, 2) := by decide +kernel
theorem dX6_triple_73 : decode cX6_triple 73 = .ok (.imul, 1) := by decide +kernel
theorem dX6_triple_74 : decode cX6_triple 74 = .ok (.iconst 3, 1) := by decide +kernel
theorem dX6_triple_75 : decode cX6_triple 75 = .ok (.iadd, 1) := by decide +kernel
theorem dX6_triple_76 : decode cX6_triple 76 = .ok (.iaload, 1) := by decide +kernel
theorem dX6_triple_77 : decode cX6_triple 77 = .ok (.iload_n 3, 1) := by decide +kernel
theorem dX6_triple_78 : decode cX6_triple 78 = .ok (.if_icmp .ne 6, 3) := by decide +kernel
theorem dX6_triple_81 : decode cX6_triple 81 = .ok (.iload 4, 2) := by decide +kernel
theorem dX6_triple_83 : decode cX6_triple 83 = .ok (.ireturn, 1) := by decide +kernel
theorem dX6_triple_84 : decode cX6_triple 84 = .ok (.iinc 4 1, 3) := by decide +kernel
theorem dX6_triple_87 : decode cX6_triple 87 = .ok (.goto (-60), 3) := by decide +kernel
theorem dX6_triple_90 : decode cX6_triple 90 = .ok (.aload_n 0, 1) := by decide +kernel
theorem dX6_triple_91 : decode cX6_triple 91 = .ok (.getfield 164, 3) := by decide +kernel
theorem dX6_triple_94 : decode cX6_triple 94 = .ok (.bipush 100, 2) := by decide +kernel
theorem dX6_triple_96 : decode cX6_triple 96 = .ok (.if_icmp .ne 6, 3) := by decide +kernel
theorem dX6_triple_99 : decode cX6_triple 99 = .ok (.bipush (-4), 2) := by decide +kernel
theorem dX6_triple_101 : decode cX6_triple 101 = .ok (.ireturn, 1) := by decide +kernel
theorem dX6_triple_102 : decode cX6_triple 102 = .ok (.aload_n 0, 1) := by decide +kernel
theorem dX6_triple_103 : decode cX6_triple 103 = .ok (.dup, 1) := by decide +kernel
theorem dX6_triple_104 : decode cX6_triple 104 = .ok (.getfield 164, 3) := by decide +kernel
theorem dX6_triple_107 : decode cX6_triple 107 = .ok (.iconst 1, 1) := by decide +kernel
theorem dX6_triple_108 : decode cX6_triple 108 = .ok (.iadd, 1) := by decide +kernel
theorem dX6_triple_109 : decode cX6_triple 109 = .ok (.putfield 164, 3) := by decide +kernel
theorem dX6_triple_112 : decode cX6_triple 112 = .ok (.aload_n 0, 1) := by decide +kernel
theorem dX6_triple_113 : decode cX6_triple 113 = .ok (.getfield 125, 3) := by decide +kernel
theorem dX6_triple_116 : decode cX6_triple 116 = .ok (.iconst 4, 1) := by decide +kernel
theorem dX6_triple_117 : decode cX6_triple 117 = .ok (.aload_n 0, 1) := by decide +kernel
theorem dX6_triple_118 : decode cX6_triple 118 = .ok (.getfield 164, 3) := by decide +kernel
theorem dX6_triple_121 : decode cX6_triple 121 = .ok (.imul, 1) := by decide +kernel
theorem dX6_triple_122 : decode cX6_triple 122 = .ok (.bipush 11, 2) := by decide +kernel
theorem dX6_triple_124 : decode cX6_triple 124 = .ok (.iastore, 1) := by decide +kernel
theorem dX6_triple_125 : decode cX6_triple 125 = .ok (.aload_n 0, 1) := by decide +kernel
theorem dX6_triple_126 : decode cX6_triple 126 = .ok (.getfield 125, 3) := by decide +kernel
theorem dX6_triple_129 : decode cX6_triple 129 = .ok (.iconst 4, 1) := by decide +kernel
theorem dX6_triple_130 : decode cX6_triple 130 = .ok (.aload_n 0, 1) := by decide +kernel
theorem dX6_triple_131 : decode cX6_triple 131 = .ok (.getfield 164, 3) := by decide +kernel
theorem dX6_triple_134 : decode cX6_triple 134 = .ok (.imul, 1) := by decide +kernel
theorem dX6_triple_135 : decode cX6_triple 135 = .ok (.iconst 1, 1) := by decide +kernel
theorem dX6_triple_136 : decode cX6_triple 136 = .ok (.iadd, 1) := by decide +kernel
theorem dX6_triple_137 : decode cX6_triple 137 = .ok (.iload_n 1, 1) := by decide +kernel
theorem dX6_triple_138 : decode cX6_triple 138 = .ok (.iastore, 1) := by decide +kernel
theorem dX6_triple_139 : decode cX6_triple 139 = .ok (.aload_n 0, 1) := by decide +kernel
theorem dX6_triple_140 : decode cX6_triple 140 = .ok (.getfield 125, 3) := by decide +kernel
theorem dX6_triple_143 : decode cX6_triple 143 = .ok (.iconst 4, 1) := by decide +kernel
theorem dX6_triple_144 : decode cX6_triple 144 = .ok (.aload_n 0, 1) := by decide +kernel
theorem dX6_triple_145 : decode cX6_triple 145 = .ok (.getfield 164, 3) := by decide +kernel
theorem dX6_triple_148 : decode cX6_triple 148 = .ok (.imul, 1) := by decide +kernel
theorem dX6_triple_149 : decode cX6_triple 149 = .ok (.iconst 2, 1) := by decide +kernel
theorem dX6_triple_150 : decode cX6_triple 150 = .ok (.iadd, 1) := by decide +kernel
theorem dX6_triple_151 : decode cX6_triple 151 = .ok (.iload_n 2, 1) := by decide +kernel
theorem dX6_triple_152 : decode cX6_triple 152 = .ok (.iastore, 1) := by decide +kernel
theorem dX6_triple_153 : decode cX6_triple 153 = .ok (.aload_n 0, 1) := by decide +kernel
theorem dX6_triple_154 : decode cX6_triple 154 = .ok (.getfield 125, 3) := by decide +kernel
theorem dX6_triple_157 : decode cX6_triple 157 = .ok (.iconst 4, 1) := by decide +kernel
theorem dX6_triple_158 : decode cX6_triple 158 = .ok (.aload_n 0, 1) := by decide +kernel
theorem dX6_triple_159 : decode cX6_triple 159 = .ok (.getfield 164, 3) := by decide +kernel
theorem dX6_triple_162 : decode cX6_triple 162 = .ok (.imul, 1) := by decide +kernel
theorem dX6_triple_163 : decode cX6_triple 163 = .ok (.iconst 3, 1) := by decide +kernel
theorem dX6_triple_164 : decode cX6_triple 164 = .ok (.iadd, 1) := by decide +kernel
theorem dX6_triple_165 : decode cX6_triple 165 = .ok (.iload_n 3, 1) := by decide +kernel
theorem dX6_triple_166 : decode cX6_triple 166 = .ok (.iastore, 1) := by decide +kernel
theorem dX6_triple_167 : decode cX6_triple 167 = .ok (.aload_n 0, 1) := by decide +kernel
theorem dX6_triple_168 : decode cX6_triple 168 = .ok (.getfield 164, 3) := by decide +kernel
theorem dX6_triple_171 : decode cX6_triple 171 = .ok (.ireturn, 1) := by decide +kernel
theorem dX6_takes_0 : decode cX6_takes 0 = .ok (.iload_n 0, 1) := by decide +kernel
theorem dX6_takes_1 : decode cX6_takes 1 = .ok (.iconst 3, 1) := by decide +kernel
theorem dX6_takes_2 : decode cX6_takes 2 = .ok (.if_icmp .ge 5, 3) := by decide +kernel
theorem dX6_takes_5 : decode cX6_takes 5 = .ok (.iconst 0, 1) := by decide +kernel
theorem dX6_takes_6 : decode cX6_takes 6 = .ok (.ireturn, 1) := by decide +kernel
theorem dX6_takes_7 : decode cX6_takes 7 = .ok (.iload_n 0, 1) := by decide +kernel
theorem dX6_takes_8 : decode cX6_takes 8 = .ok (.bipush 12, 2) := by decide +kernel
theorem dX6_takes_10 : decode cX6_takes 10 = .ok (.if_icmp .eq 9, 3) := by decide +kernel
theorem dX6_takes_13 : decode cX6_takes 13 = .ok (.iload_n 0, 1) := by decide +kernel
theorem dX6_takes_14 : decode cX6_takes 14 = .ok (.bipush 17, 2) := by decide +kernel
theorem dX6_takes_16 : decode cX6_takes 16 = .ok (.if_icmp .ne 5, 3) := by decide +kernel
theorem dX6_takes_19 : decode cX6_takes 19 = .ok (.iconst 1, 1) := by decide +kernel
theorem dX6_takes_20 : decode cX6_takes 20 = .ok (.ireturn, 1) := by decide +kernel
theorem dX6_takes_21 : decode cX6_takes 21 = .ok (.iload_n 0, 1) := by decide +kernel
theorem dX6_takes_22 : decode cX6_takes 22 = .ok (.bipush 10, 2) := by decide +kernel
theorem dX6_takes_24 : decode cX6_takes 24 = .ok (.if_icmp .eq 15, 3) := by decide +kernel
theorem dX6_takes_27 : decode cX6_takes 27 = .ok (.iload_n 0, 1) := by decide +kernel
theorem dX6_takes_28 : decode cX6_takes 28 = .ok (.bipush 14, 2) := by decide +kernel
theorem dX6_takes_30 : decode cX6_takes 30 = .ok (.if_icmp .eq 9, 3) := by decide +kernel
theorem dX6_takes_33 : decode cX6_takes 33 = .ok (.iload_n 0, 1) := by decide +kernel
theorem dX6_takes_34 : decode cX6_takes 34 = .ok (.bipush 15, 2) := by decide +kernel
theorem dX6_takes_36 : decode cX6_takes 36 = .ok (.if_icmp .ne 7, 3) := by decide +kernel
theorem dX6_takes_39 : decode cX6_takes 39 = .ok (.iconst 3, 1) := by decide +kernel
theorem dX6_takes_40 : decode cX6_takes 40 = .ok (.goto 4, 3) := by decide +kernel
theorem dX6_takes_43 : decode cX6_takes 43 = .ok (.iconst 2, 1) := by decide +kernel
theorem dX6_takes_44 : decode cX6_takes 44 = .ok (.ireturn, 1) := by decide +kernel
theorem dX6_isRow_0 : decode cX6_isRow 0 = .ok (.iload_n 1, 1) := by decide +kernel
theorem dX6_isRow_1 : decode cX6_isRow 1 = .ok (.ifCond .le 15, 3) := by decide +kernel
theorem dX6_isRow_4 : decode cX6_isRow 4 = .ok (.iload_n 1, 1) := by decide +kernel
theorem dX6_isRow_5 : decode cX6_isRow 5 = .ok (.aload_n 0, 1) := by decide +kernel
theorem dX6_isRow_6 : decode cX6_isRow 6 = .ok (.getfield 167, 3) := by decide +kernel
theorem dX6_isRow_9 : decode cX6_isRow 9 = .ok (.if_icmp .gt 7, 3) := by decide +kernel
theorem dX6_isRow_12 : decode cX6_isRow 12 = .ok (.iconst 1, 1) := by decide +kernel
theorem dX6_isRow_13 : decode cX6_isRow 13 = .ok (.goto 4, 3) := by decide +kernel
theorem dX6_isRow_16 : decode cX6_isRow 16 = .ok (.iconst 0, 1) := by decide +kernel
theorem dX6_isRow_17 : decode cX6_isRow 17 = .ok (.ireturn, 1) := by decide +kernel
set_option maxRecDepth 20000 in
theorem ggX6_isInstance_X6_isTerm : GoodIn wsX6_isInstance wsX6_isTerm := goodIn_r _ [6] (by decide +kernel) (by decide +kernel)
set_option maxRecDepth 20000 in
theorem gX6_isInstance_X6_isTerm : GoodIn wsX6_isInstance (va_wsS RX6 156 yX6_isTerm wsX6_isTerm) := goodIn_app (goodIn_of _ (by decide +kernel)) ggX6_isInstance_X6_isTerm
theorem dX6_isInstance_0 : decode cX6_isInstance 0 = .ok (.iload_n 1, 1) := by decide +kernel
theorem dX6_isInstance_1 : decode cX6_isInstance 1 = .ok (.ifCond .ne 21, 3) := by decide +kernel
theorem dX6_isInstance_4 : decode cX6_isInstance 4 = .ok (.iload_n 2, 1) := by decide +kernel
theorem dX6_isInstance_5 : decode cX6_isInstance 5 = .ok (.ifCond .le 15, 3) := by decide +kernel
theorem dX6_isInstance_8 : decode cX6_isInstance 8 = .ok (.iload_n 2, 1) := by decide +kernel
theorem dX6_isInstance_9 : decode cX6_isInstance 9 = .ok (.aload_n 0, 1) := by decide +kernel
theorem dX6_isInstance_10 : decode cX6_isInstance 10 = .ok (.getfield 160, 3) := by decide +kernel
theorem dX6_isInstance_13 : decode cX6_isInstance 13 = .ok (.if_icmp .gt 7, 3) := by decide +kernel
theorem dX6_isInstance_16 : decode cX6_isInstance 16 = .ok (.iconst 1, 1) := by decide +kernel
theorem dX6_isInstance_17 : decode cX6_isInstance 17 = .ok (.goto 4, 3) := by decide +kernel
theorem dX6_isInstance_20 : decode cX6_isInstance 20 = .ok (.iconst 0, 1) := by decide +kernel
theorem dX6_isInstance_21 : decode cX6_isInstance 21 = .ok (.ireturn, 1) := by decide +kernel
theorem dX6_isInstance_22 : decode cX6_isInstance 22 = .ok (.iload_n 1, 1) := by decide +kernel
theorem dX6_isInstance_23 : decode cX6_isInstance 23 = .ok (.iconst 1, 1) := by decide +kernel
theorem dX6_isInstance_24 : decode cX6_isInstance 24 = .ok (.if_icmp .eq 9, 3) := by decide +kernel
theorem dX6_isInstance_27 : decode cX6_isInstance 27 = .ok (.iload_n 1, 1) := by decide +kernel
theorem dX6_isInstance_28 : decode cX6_isInstance 28 = .ok (.bipush 17, 2) := by decide +kernel
theorem dX6_isInstance_30 : decode cX6_isInstance 30 = .ok (.if_icmp .ne 21, 3) := by decide +kernel
theorem dX6_isInstance_33 : decode cX6_isInstance 33 = .ok (.iload_n 2, 1) := by decide +kernel
theorem dX6_isInstance_34 : decode cX6_isInstance 34 = .ok (.ifCond .le 15, 3) := by decide +kernel
theorem dX6_isInstance_37 : decode cX6_isInstance 37 = .ok (.iload_n 2, 1) := by decide +kernel
theorem dX6_isInstance_38 : decode cX6_isInstance 38 = .ok (.aload_n 0, 1) := by decide +kernel
theorem dX6_isInstance_39 : decode cX6_isInstance 39 = .ok (.getfield 164, 3) := by decide +kernel
theorem dX6_isInstance_42 : decode cX6_isInstance 42 = .ok (.if_icmp .gt 7, 3) := by decide +kernel
theorem dX6_isInstance_45 : decode cX6_isInstance 45 = .ok (.iconst 1, 1) := by decide +kernel
theorem dX6_isInstance_46 : decode cX6_isInstance 46 = .ok (.goto 4, 3) := by decide +kernel
theorem dX6_isInstance_49 : decode cX6_isInstance 49 = .ok (.iconst 0, 1) := by decide +kernel
theorem dX6_isInstance_50 : decode cX6_isInstance 50 = .ok (.ireturn, 1) := by decide +kernel
theorem dX6_isInstance_51 : decode cX6_isInstance 51 = .ok (.iload_n 1, 1) := by decide +kernel
theorem dX6_isInstance_52 : decode cX6_isInstance 52 = .ok (.iconst 2, 1) := by decide +kernel
theorem dX6_isInstance_53 : decode cX6_isInstance 53 = .ok (.if_icmp .ne 10, 3) := by decide +kernel
theorem dX6_isInstance_56 : decode cX6_isInstance 56 = .ok (.iload_n 2, 1) := by decide +kernel
theorem dX6_isInstance_57 : decode cX6_isInstance 57 = .ok (.invokestatic 156, 3) := by decide +kernel
theorem dX6_isInstance_60 : decode cX6_isInstance 60 = .ok (.ifCond .eq 7, 3) := by decide +kernel
theorem dX6_isInstance_63 : decode cX6_isInstance 63 = .ok (.iconst 1, 1) := by decide +kernel
theorem dX6_isInstance_64 : decode cX6_isInstance 64 = .ok (.goto 4, 3) := by decide +kernel
theorem dX6_isInstance_67 : decode cX6_isInstance 67 = .ok (.iconst 0, 1) := by decide +kernel
theorem dX6_isInstance_68 : decode cX6_isInstance 68 = .ok (.ireturn, 1) := by decide +kernel
set_option maxRecDepth 20000 in
theorem ggX6_row_X6_isInstance : GoodIn wsX6_row wsX6_isInstance := goodIn_r _ [9, 10, 11, 12, 13, 8, 14, 27, 28, 29, 30, 31, 32, 33, 34, 35, 36, 37, 38, 39, 40, 41, 42, 43] (by decide +kernel) (by decide +kernel)
set_option maxRecDepth 20000 in
theorem gX6_row_X6_isInstance : GoodIn wsX6_row (wsV RX6 170 RX6 yX6_isInstance wsX6_isInstance) := goodIn_app (goodIn_of _ (by decide +kernel)) ggX6_row_X6_isInstance
set_option maxRecDepth 20000 in
theorem ggX6_row_X6_isRow : GoodIn wsX6_row wsX6_isRow := goodIn_r _ [18, 1, 27, 28, 29, 30, 31, 32, 33, 34, 35, 36, 37, 38, 39, 40, 41, 42, 43] (by decide +kernel) (by decide +kernel)
set_option maxRecDepth 20000 in
theorem gX6_row_X6_isRow : GoodIn wsX6_row (wsV RX6 174 RX6 yX6_isRow wsX6_isRow) := goodIn_app (goodIn_of _ (by decide +kernel)) ggX6_row_X6_isRow
set_option maxRecDepth 20000 in
theorem ggX6_row_X6_takes : GoodIn wsX6_row wsX6_takes := goodIn_r _ [21] (by decide +kernel) (by decide +kernel)
set_option maxRecDepth 20000 in
theorem gX6_row_X6_takes : GoodIn wsX6_row (va_wsS RX6 177 yX6_takes wsX6_takes) := goodIn_app (goodIn_of _ (by decide +kernel)) ggX6_row_X6_takes
set_option maxRecDepth 20000 in
theorem ggX6_row_X6_lay : GoodIn wsX6_row wsX6_lay := goodIn_r _ [25, 26, 4, 27, 28, 29, 30, 31, 32, 33, 34, 35, 36, 37, 38, 39, 40, 41, 42, 43] (by decide +kernel) (by decide +kernel)
set_option maxRecDepth 20000 in
theorem gX6_row_X6_lay : GoodIn wsX6_row (wsV RX6 181 RX6 yX6_lay wsX6_lay) := goodIn_app (goodIn_of _ (by decide +kernel)) ggX6_row_X6_lay
theorem dX6_row_0 : decode cX6_row 0 = .ok (.iload_n 1, 1) := by decide +kernel
theorem dX6_row_1 : decode cX6_row 1 = .ok (.ifCond .lt 47, 3) := by decide +kernel
theorem dX6_row_4 : decode cX6_row 4 = .ok (.iload_n 1, 1) := by decide +kernel
theorem dX6_row_5 : decode cX6_row 5 = .ok (.bipush 17, 2) := by decide +kernel
theorem dX6_row_7 : decode cX6_row 7 = .ok (.if_icmp .gt 41, 3) := by decide +kernel
theorem dX6_row_10 : decode cX6_row 10 = .ok (.aload_n 0, 1) := by decide +kernel
theorem dX6_row_11 : decode cX6_row 11 = .ok (.iload_n 1, 1) := by decide +kernel
theorem dX6_row_12 : decode cX6_row 12 = .ok (.iload_n 2, 1) := by decide +kernel
theorem dX6_row_13 : decode cX6_row 13 = .ok (.invokevirtual 170, 3) := by decide +kernel
theorem dX6_row_16 : decode cX6_row 16 = .ok (.ifCond .eq 32, 3) := by decide +kernel
theorem dX6_row_19 : decode cX6_row 19 = .ok (.iload_n 3, 1) := by decide +kernel
theorem dX6_row_20 : decode cX6_row 20 = .ok (.ifCond .eq 18, 3) := by decide +kernel
theorem dX6_row_23 : decode cX6_row 23 = .ok (.aload_n 0, 1) := by decide +kernel
theorem dX6_row_24 : decode cX6_row 24 = .ok (.iload_n 3, 1) := by decide +kernel
theorem dX6_row_25 : decode cX6_row 25 = .ok (.invokevirtual 174, 3) := by decide +kernel
theorem dX6_row_28 : decode cX6_row 28 = .ok (.ifCond .eq 20, 3) := by decide +kernel
theorem dX6_row_31 : decode cX6_row 31 = .ok (.iload_n 1, 1) := by decide +kernel
theorem dX6_row_32 : decode cX6_row 32 = .ok (.invokestatic 177, 3) := by decide +kernel
theorem dX6_row_35 : decode cX6_row 35 = .ok (.ifCond .eq 13, 3) := by decide +kernel
theorem dX6_row_38 : decode cX6_row 38 = .ok (.aload_n 0, 1) := by decide +kernel
theorem dX6_row_39 : decode cX6_row 39 = .ok (.getfield 167, 3) := by decide +kernel
theorem dX6_row_42 : decode cX6_row 42 = .ok (.sipush 300, 3) := by decide +kernel
theorem dX6_row_45 : decode cX6_row 45 = .ok (.if_icmp .ne 5, 3) := by decide +kernel
theorem dX6_row_48 : decode cX6_row 48 = .ok (.iconst 0, 1) := by decide +kernel
theorem dX6_row_49 : decode cX6_row 49 = .ok (.ireturn, 1) := by decide +kernel
theorem dX6_row_50 : decode cX6_row 50 = .ok (.aload_n 0, 1) := by decide +kernel
theorem dX6_row_51 : decode cX6_row 51 = .ok (.dup, 1) := by decide +kernel
theorem dX6_row_52 : decode cX6_row 52 = .ok (.getfield 167, 3) := by decide +kernel
theorem dX6_row_55 : decode cX6_row 55 = .ok (.iconst 1, 1) := by decide +kernel
theorem dX6_row_56 : decode cX6_row 56 = .ok (.iadd, 1) := by decide +kernel
theorem dX6_row_57 : decode cX6_row 57 = .ok (.putfield 167, 3) := by decide +kernel
theorem dX6_row_60 : decode cX6_row 60 = .ok (.aload_n 0, 1) := by decide +kernel
theorem dX6_row_61 : decode cX6_row 61 = .ok (.getfield 128, 3) := by decide +kernel
theorem dX6_row_64 : decode cX6_row 64 = .ok (.aload_n 0, 1) := by decide +kernel
theorem dX6_row_65 : decode cX6_row 65 = .ok (.getfield 167, 3) := by decide +kernel
theorem dX6_row_68 : decode cX6_row 68 = .ok (.iload_n 1, 1) := by decide +kernel
theorem dX6_row_69 : decode cX6_row 69 = .ok (.iastore, 1) := by decide +kernel
theorem dX6_row_70 : decode cX6_row 70 = .ok (.aload_n 0, 1) := by decide +kernel
theorem dX6_row_71 : decode cX6_row 71 = .ok (.getfield 131, 3) := by decide +kernel
theorem dX6_row_74 : decode cX6_row 74 = .ok (.aload_n 0, 1) := by decide +kernel
theorem dX6_row_75 : decode cX6_row 75 = .ok (.getfield 167, 3) := by decide +kernel
theorem dX6_row_78 : decode cX6_row 78 = .ok (.iload_n 2, 1) := by decide +kernel
theorem dX6_row_79 : decode cX6_row 79 = .ok (.iastore, 1) := by decide +kernel
theorem dX6_row_80 : decode cX6_row 80 = .ok (.aload_n 0, 1) := by decide +kernel
theorem dX6_row_81 : decode cX6_row 81 = .ok (.getfield 134, 3) := by decide +kernel
theorem dX6_row_84 : decode cX6_row 84 = .ok (.aload_n 0, 1) := by decide +kernel
theorem dX6_row_85 : decode cX6_row 85 = .ok (.getfield 167, 3) := by decide +kernel
theorem dX6_row_88 : decode cX6_row 88 = .ok (.iconst 0, 1) := by decide +kernel
theorem dX6_row_89 : decode cX6_row 89 = .ok (.iastore, 1) := by decide +kernel
theorem dX6_row_90 : decode cX6_row 90 = .ok (.iload_n 3, 1) := by decide +kernel
theorem dX6_row_91 : decode cX6_row 91 = .ok (.ifCond .eq 12, 3) := by decide +kernel
theorem dX6_row_94 : decode cX6_row 94 = .ok (.aload_n 0, 1) := by decide +kernel
theorem dX6_row_95 : decode cX6_row 95 = .ok (.aload_n 0, 1) := by decide +kernel
theorem dX6_row_96 : decode cX6_row 96 = .ok (.getfield 167, 3) := by decide +kernel
theorem dX6_row_99 : decode cX6_row 99 = .ok (.iload_n 3, 1) := by decide +kernel
theorem dX6_row_100 : decode cX6_row 100 = .ok (.invokevirtual 181, 3) := by decide +kernel
theorem dX6_row_103 : decode cX6_row 103 = .ok (.aload_n 0, 1) := by decide +kernel
theorem dX6_row_104 : decode cX6_row 104 = .ok (.getfield 167, 3) := by decide +kernel
theorem dX6_row_107 : decode cX6_row 107 = .ok (.ireturn, 1) := by decide +kernel
theorem dX6_lay_0 : decode cX6_lay 0 = .ok (.aload_n 0, 1) := by decide +kernel
theorem dX6_lay_1 : decode cX6_lay 1 = .ok (.getfield 137, 3) := by decide +kernel
theorem dX6_lay_4 : decode cX6_lay 4 = .ok (.iconst 3, 1) := by decide +kernel
theorem dX6_lay_5 : decode cX6_lay 5 = .ok (.iload_n 1, 1) := by decide +kernel
theorem dX6_lay_6 : decode cX6_lay 6 = .ok (.imul, 1) := by decide +kernel
theorem dX6_lay_7 : decode cX6_lay 7 = .ok (.aload_n 0, 1) := by decide +kernel
theorem dX6_lay_8 : decode cX6_lay 8 = .ok (.getfield 134, 3) := by decide +kernel
theorem dX6_lay_11 : decode cX6_lay 11 = .ok (.iload_n 1, 1) := by decide +kernel
theorem dX6_lay_12 : decode cX6_lay 12 = .ok (.iaload, 1) := by decide +kernel
theorem dX6_lay_13 : decode cX6_lay 13 = .ok (.iadd, 1) := by decide +kernel
theorem dX6_lay_14 : decode cX6_lay 14 = .ok (.iload_n 2, 1) := by decide +kernel
theorem dX6_lay_15 : decode cX6_lay 15 = .ok (.iastore, 1) := by decide +kernel
theorem dX6_lay_16 : decode cX6_lay 16 = .ok (.aload_n 0, 1) := by decide +kernel
theorem dX6_lay_17 : decode cX6_lay 17 = .ok (.getfield 134, 3) := by decide +kernel
theorem dX6_lay_20 : decode cX6_lay 20 = .ok (.iload_n 1, 1) := by decide +kernel
theorem dX6_lay_21 : decode cX6_lay 21 = .ok (.dup2, 1) := by decide +kernel
theorem dX6_lay_22 : decode cX6_lay 22 = .ok (.iaload, 1) := by decide +kernel
theorem dX6_lay_23 : decode cX6_lay 23 = .ok (.iconst 1, 1) := by decide +kernel
theorem dX6_lay_24 : decode cX6_lay 24 = .ok (.iadd, 1) := by decide +kernel
theorem dX6_lay_25 : decode cX6_lay 25 = .ok (.iastore, 1) := by decide +kernel
theorem dX6_lay_26 : decode cX6_lay 26 = .ok (.return_, 1) := by decide +kernel
set_option maxRecDepth 20000 in
theorem ggX6_premise_X6_isRow : GoodIn wsX6_premise wsX6_isRow := goodIn_r _ [7, 8, 17, 18, 19, 20, 21, 22, 23, 24, 25, 26, 27, 28, 29, 30, 31, 32, 33] (by decide +kernel) (by decide +kernel)
set_option maxRecDepth 20000 in
theorem gX6_premise_X6_isRow : GoodIn wsX6_premise (wsV RX6 174 RX6 yX6_isRow wsX6_isRow) := goodIn_app (goodIn_of _ (by decide +kernel)) ggX6_premise_X6_isRow
set_option maxRecDepth 20000 in
theorem ggX6_premise_X6_takes : GoodIn wsX6_premise wsX6_takes := goodIn_r _ [11] (by decide +kernel) (by decide +kernel)
set_option maxRecDepth 20000 in
theorem gX6_premise_X6_takes : GoodIn wsX6_premise (va_wsS RX6 177 yX6_takes wsX6_takes) := goodIn_app (goodIn_of _ (by decide +kernel)) ggX6_premise_X6_takes
set_option maxRecDepth 20000 in
theorem ggX6_premise_X6_lay : GoodIn wsX6_premise wsX6_lay := goodIn_r _ [15, 16, 1, 17, 18, 19, 20, 21, 22, 23, 24, 25, 26, 27, 28, 29, 30, 31, 32, 33] (by decide +kernel) (by decide +kernel)
set_option maxRecDepth 20000 in
theorem gX6_premise_X6_lay : GoodIn wsX6_premise (wsV RX6 181 RX6 yX6_lay wsX6_lay) := goodIn_app (goodIn_of _ (by decide +kernel)) ggX6_premise_X6_lay
theorem dX6_premise_0 : decode cX6_premise 0 = .ok (.aload_n 0, 1) := by decide +kernel
theorem dX6_premise_1 : decode cX6_premise 1 = .ok (.iload_n 1, 1) := by decide +kernel
theorem dX6_premise_2 : decode cX6_premise 2 = .ok (.invokevirtual 174, 3) := by decide +kernel
theorem dX6_premise_5 : decode cX6_premise 5 = .ok (.ifCond .eq 11, 3) := by decide +kernel
theorem dX6_premise_8 : decode cX6_premise 8 = .ok (.aload_n 0, 1) := by decide +kernel
theorem dX6_premise_9 : decode cX6_premise 9 = .ok (.iload_n 2, 1) := by decide +kernel
theorem dX6_premise_10 : decode cX6_premise 10 = .ok (.invokevirtual 174, 3) := by decide +kernel
theorem dX6_premise_13 : decode cX6_premise 13 = .ok (.ifCond .ne 5, 3) := by decide +kernel
theorem dX6_premise_16 : decode cX6_premise 16 = .ok (.iconst (-1), 1) := by decide +kernel
theorem dX6_premise_17 : decode cX6_premise 17 = .ok (.ireturn, 1) := by decide +kernel
theorem dX6_premise_18 : decode cX6_premise 18 = .ok (.iload_n 2, 1) := by decide +kernel
theorem dX6_premise_19 : decode cX6_premise 19 = .ok (.iload_n 1, 1) := by decide +kernel
theorem dX6_premise_20 : decode cX6_premise 20 = .ok (.if_icmp .ge 21, 3) := by decide +kernel
theorem dX6_premise_23 : decode cX6_premise 23 = .ok (.aload_n 0, 1) := by decide +kernel
theorem dX6_premise_24 : decode cX6_premise 24 = .ok (.getfield 134, 3) := by decide +kernel
theorem dX6_premise_27 : decode cX6_premise 27 = .ok (.iload_n 1, 1) := by decide +kernel
theorem dX6_premise_28 : decode cX6_premise 28 = .ok (.iaload, 1) := by decide +kernel
theorem dX6_premise_29 : decode cX6_premise 29 = .ok (.aload_n 0, 1) := by decide +kernel
theorem dX6_premise_30 : decode cX6_premise 30 = .ok (.getfield 128, 3) := by decide +kernel
theorem dX6_premise_33 : decode cX6_premise 33 = .ok (.iload_n 1, 1) := by decide +kernel
theorem dX6_premise_34 : decode cX6_premise 34 = .ok (.iaload, 1) := by decide +kernel
theorem dX6_premise_35 : decode cX6_premise 35 = .ok (.invokestatic 177, 3) := by decide +kernel
theorem dX6_premise_38 : decode cX6_premise 38 = .ok (.if_icmp .lt 6, 3) := by decide +kernel
theorem dX6_premise_41 : decode cX6_premise 41 = .ok (.bipush (-3), 2) := by decide +kernel
theorem dX6_premise_43 : decode cX6_premise 43 = .ok (.ireturn, 1) := by decide +kernel
theorem dX6_premise_44 : decode cX6_premise 44 = .ok (.aload_n 0, 1) := by decide +kernel
theorem dX6_premise_45 : decode cX6_premise 45 = .ok (.iload_n 1, 1) := by decide +kernel
theorem dX6_premise_46 : decode cX6_premise 46 = .ok (.iload_n 2, 1) := by decide +kernel
theorem dX6_premise_47 : decode cX6_premise 47 = .ok (.invokevirtual 181, 3) := by decide +kernel
theorem dX6_premise_50 : decode cX6_premise 50 = .ok (.aload_n 0, 1) := by decide +kernel
theorem dX6_premise_51 : decode cX6_premise 51 = .ok (.getfield 134, 3) := by decide +kernel
theorem dX6_premise_54 : decode cX6_premise 54 = .ok (.iload_n 1, 1) := by decide +kernel
theorem dX6_premise_55 : decode cX6_premise 55 = .ok (.iaload, 1) := by decide +kernel
theorem dX6_premise_56 : decode cX6_premise 56 = .ok (.ireturn, 1) := by decide +kernel
theorem dX6_kindOf_0 : decode cX6_kindOf 0 = .ok (.aload_n 0, 1) := by decide +kernel
theorem dX6_kindOf_1 : decode cX6_kindOf 1 = .ok (.getfield 140, 3) := by decide +kernel
theorem dX6_kindOf_4 : decode cX6_kindOf 4 = .ok (.iconst 4, 1) := by decide +kernel
theorem dX6_kindOf_5 : decode cX6_kindOf 5 = .ok (.iload_n 1, 1) := by decide +kernel
theorem dX6_kindOf_6 : decode cX6_kindOf 6 = .ok (.imul, 1) := by decide +kernel
theorem dX6_kindOf_7 : decode cX6_kindOf 7 = .ok (.iaload, 1) := by decide +kernel
theorem dX6_kindOf_8 : decode cX6_kindOf 8 = .ok (.ireturn, 1) := by decide +kernel
theorem dX6_of_0 : decode cX6_of 0 = .ok (.aload_n 0, 1) := by decide +kernel
theorem dX6_of_1 : decode cX6_of 1 = .ok (.getfield 140, 3) := by decide +kernel
theorem dX6_of_4 : decode cX6_of 4 = .ok (.iconst 4, 1) := by decide +kernel
theorem dX6_of_5 : decode cX6_of 5 = .ok (.aload_n 0, 1) := by decide +kernel
theorem dX6_of_6 : decode cX6_of 6 = .ok (.getfield 137, 3) := by decide +kernel
theorem dX6_of_9 : decode cX6_of 9 = .ok (.iconst 3, 1) := by decide +kernel
theorem dX6_of_10 : decode cX6_of 10 = .ok (.iload_n 1, 1) := by decide +kernel
theorem dX6_of_11 : decode cX6_of 11 = .ok (.imul, 1) := by decide +kernel
theorem dX6_of_12 : decode cX6_of 12 = .ok (.iload_n 2, 1) := by decide +kernel
theorem dX6_of_13 : decode cX6_of 13 = .ok (.iadd, 1) := by decide +kernel
theorem dX6_of_14 : decode cX6_of 14 = .ok (.iaload, 1) := by decide +kernel
theorem dX6_of_15 : decode cX6_of 15 = .ok (.imul, 1) := by decide +kernel
theorem dX6_of_16 : decode cX6_of 16 = .ok (.iload_n 3, 1) := by decide +kernel
theorem dX6_of_17 : decode cX6_of 17 = .ok (.iadd, 1) := by decide +kernel
theorem dX6_of_18 : decode cX6_of 18 = .ok (.iaload, 1) := by decide +kernel
theorem dX6_of_19 : decode cX6_of 19 = .ok (.ireturn, 1) := by decide +kernel
set_option maxRecDepth 20000 in
theorem ggX6_is_X6_of : GoodIn wsX6_is wsX6_of := goodIn_r _ [5, 6, 7, 8, 9, 10, 11, 12, 13, 14, 15, 16, 17, 18, 19, 20, 21, 22, 23, 24] (by decide +kernel) (by decide +kernel)
set_option maxRecDepth 20000 in
theorem gX6_is_X6_of : GoodIn wsX6_is (wsV RX6 185 RX6 yX6_of wsX6_of) := goodIn_app (goodIn_of _ (by decide +kernel)) ggX6_is_X6_of
theorem dX6_is_0 : decode cX6_is 0 = .ok (.aload_n 0, 1) := by decide +kernel
theorem dX6_is_1 : decode cX6_is 1 = .ok (.iload_n 1, 1) := by decide +kernel
theorem dX6_is_2 : decode cX6_is 2 = .ok (.iload_n 2, 1) := by decide +kernel
theorem dX6_is_3 : decode cX6_is 3 = .ok (.iconst 0, 1) := by decide +kernel
theorem dX6_is_4 : decode cX6_is 4 = .ok (.invokevirtual 185, 3) := by decide +kernel
theorem dX6_is_7 : decode cX6_is 7 = .ok (.iload_n 3, 1) := by decide +kernel
theorem dX6_is_8 : decode cX6_is 8 = .ok (.if_icmp .ne 7, 3) := by decide +kernel
theorem dX6_is_11 : decode cX6_is 11 = .ok (.iconst 1, 1) := by decide +kernel
theorem dX6_is_12 : decode cX6_is 12 = .ok (.goto 4, 3) := by decide +kernel
theorem dX6_is_15 : decode cX6_is 15 = .ok (.iconst 0, 1) := by decide +kernel
theorem dX6_is_16 : decode cX6_is 16 = .ok (.ireturn, 1) := by decide +kernel
theorem dX6_state_0 : decode cX6_state 0 = .ok (.aload_n 0, 1) := by decide +kernel
theorem dX6_state_1 : decode cX6_state 1 = .ok (.getfield 140, 3) := by decide +kernel
theorem dX6_state_4 : decode cX6_state 4 = .ok (.iconst 4, 1) := by decide +kernel
theorem dX6_state_5 : decode cX6_state 5 = .ok (.iload_n 1, 1) := by decide +kernel
theorem dX6_state_6 : decode cX6_state 6 = .ok (.imul, 1) := by decide +kernel
theorem dX6_state_7 : decode cX6_state 7 = .ok (.iload_n 2, 1) := by decide +kernel
theorem dX6_state_8 : decode cX6_state 8 = .ok (.iastore, 1) := by decide +kernel
theorem dX6_state_9 : decode cX6_state 9 = .ok (.aload_n 0, 1) := by decide +kernel
theorem dX6_state_10 : decode cX6_state 10 = .ok (.getfield 140, 3) := by decide +kernel
theorem dX6_state_13 : decode cX6_state 13 = .ok (.iconst 4, 1) := by decide +kernel
theorem dX6_state_14 : decode cX6_state 14 = .ok (.iload_n 1, 1) := by decide +kernel
theorem dX6_state_15 : decode cX6_state 15 = .ok (.imul, 1) := by decide +kernel
theorem dX6_state_16 : decode cX6_state 16 = .ok (.iconst 1, 1) := by decide +kernel
theorem dX6_state_17 : decode cX6_state 17 = .ok (.iadd, 1) := by decide +kernel
theorem dX6_state_18 : decode cX6_state 18 = .ok (.iload_n 3, 1) := by decide +kernel
theorem dX6_state_19 : decode cX6_state 19 = .ok (.iastore, 1) := by decide +kernel
theorem dX6_state_20 : decode cX6_state 20 = .ok (.aload_n 0, 1) := by decide +kernel
theorem dX6_state_21 : decode cX6_state 21 = .ok (.getfield 140, 3) := by decide +kernel
theorem dX6_state_24 : decode cX6_state 24 = .ok (.iconst 4, 1) := by decide +kernel
theorem dX6_state_25 : decode cX6_state 25 = .ok (.iload_n 1, 1) := by decide +kernel
theorem dX6_state_26 : decode cX6_state 26 = .ok (.imul, 1) := by decide +kernel
theorem dX6_state_27 : decode cX6_state 27 = .ok (.iconst 2, 1) := by decide +kernel
theorem dX6_state_28 : decode cX6_state 28 = .ok (.iadd, 1) := by decide +kernel
theorem dX6_state_29 : decode cX6_state 29 = .ok (.iload 4, 2) := by decide +kernel
theorem dX6_state_31 : decode cX6_state 31 = .ok (.iastore, 1) := by decide +kernel
theorem dX6_state_32 : decode cX6_state 32 = .ok (.aload_n 0, 1) := by decide +kernel
theorem dX6_state_33 : decode cX6_state 33 = .ok (.getfield 140, 3) := by decide +kernel
theorem dX6_state_36 : decode cX6_state 36 = .ok (.iconst 4, 1) := by decide +kernel
theorem dX6_state_37 : decode cX6_state 37 = .ok (.iload_n 1, 1) := by decide +kernel
theorem dX6_state_38 : decode cX6_state 38 = .ok (.imul, 1) := by decide +kernel
theorem dX6_state_39 : decode cX6_state 39 = .ok (.iconst 3, 1) := by decide +kernel
theorem dX6_state_40 : decode cX6_state 40 = .ok (.iadd, 1) := by decide +kernel
theorem dX6_state_41 : decode cX6_state 41 = .ok (.iload 5, 2) := by decide +kernel
theorem dX6_state_43 : decode cX6_state 43 = .ok (.iastore, 1) := by decide +kernel
theorem dX6_state_44 : decode cX6_state 44 = .ok (.return_, 1) := by decide +kernel
set_option maxRecDepth 20000 in
theorem ggX6_copy_X6_state : GoodIn wsX6_copy wsX6_state := goodIn_r _ [5, 6, 7, 8, 9, 10, 11, 12, 13, 14, 15, 16, 17, 18, 19, 20, 21, 22, 23] (by decide +kernel) (by decide +kernel)
set_option maxRecDepth 20000 in
theorem gX6_copy_X6_state : GoodIn wsX6_copy (wsV RX6 189 RX6 yX6_state wsX6_state) := goodIn_app (goodIn_of _ (by decide +kernel)) ggX6_copy_X6_state
theorem dX6_copy_0 : decode cX6_copy 0 = .ok (.aload_n 0, 1) := by decide +kernel
theorem dX6_copy_1 : decode cX6_copy 1 = .ok (.iload_n 3, 1) := by decide +kernel
theorem dX6_copy_2 : decode cX6_copy 2 = .ok (.aload_n 1, 1) := by decide +kernel
theorem dX6_copy_3 : decode cX6_copy 3 = .ok (.iconst 4, 1) := by decide +kernel
theorem dX6_copy_4 : decode cX6_copy 4 = .ok (.iload_n 2, 1) := by decide +kernel
theorem dX6_copy_5 : decode cX6_copy 5 = .ok (.imul, 1) := by decide +kernel
theorem dX6_copy_6 : decode cX6_copy 6 = .ok (.iaload, 1) := by decide +kernel
theorem dX6_copy_7 : decode cX6_copy 7 = .ok (.aload_n 1, 1) := by decide +kernel
theorem dX6_copy_8 : decode cX6_copy 8 = .ok (.iconst 4, 1) := by decide +kernel
theorem dX6_copy_9 : decode cX6_copy 9 = .ok (.iload_n 2, 1) := by decide +kernel
theorem dX6_copy_10 : decode cX6_copy 10 = .ok (.imul, 1) := by decide +kernel
theorem dX6_copy_11 : decode cX6_copy 11 = .ok (.iconst 1, 1) := by decide +kernel
theorem dX6_copy_12 : decode cX6_copy 12 = .ok (.iadd, 1) := by decide +kernel
theorem dX6_copy_13 : decode cX6_copy 13 = .ok (.iaload, 1) := by decide +kernel
theorem dX6_copy_14 : decode cX6_copy 14 = .ok (.aload_n 1, 1) := by decide +kernel
theorem dX6_copy_15 : decode cX6_copy 15 = .ok (.iconst 4, 1) := by decide +kernel
theorem dX6_copy_16 : decode cX6_copy 16 = .ok (.iload_n 2, 1) := by decide +kernel
theorem dX6_copy_17 : decode cX6_copy 17 = .ok (.imul, 1) := by decide +kernel
theorem dX6_copy_18 : decode cX6_copy 18 = .ok (.iconst 2, 1) := by decide +kernel
theorem dX6_copy_19 : decode cX6_copy 19 = .ok (.iadd, 1) := by decide +kernel
theorem dX6_copy_20 : decode cX6_copy 20 = .ok (.iaload, 1) := by decide +kernel
theorem dX6_copy_21 : decode cX6_copy 21 = .ok (.aload_n 1, 1) := by decide +kernel
theorem dX6_copy_22 : decode cX6_copy 22 = .ok (.iconst 4, 1) := by decide +kernel
theorem dX6_copy_23 : decode cX6_copy 23 = .ok (.iload_n 2, 1) := by decide +kernel
theorem dX6_copy_24 : decode cX6_copy 24 = .ok (.imul, 1) := by decide +kernel
theorem dX6_copy_25 : decode cX6_copy 25 = .ok (.iconst 3, 1) := by decide +kernel
theorem dX6_copy_26 : decode cX6_copy 26 = .ok (.iadd, 1) := by decide +kernel
theorem dX6_copy_27 : decode cX6_copy 27 = .ok (.iaload, 1) := by decide +kernel
theorem dX6_copy_28 : decode cX6_copy 28 = .ok (.invokevirtual 189, 3) := by decide +kernel
theorem dX6_copy_31 : decode cX6_copy 31 = .ok (.return_, 1) := by decide +kernel
set_option maxRecDepth 20000 in
theorem ggX6_work_X6_state : GoodIn wsX6_work wsX6_state := goodIn_r _ [7, 8, 40, 41, 42, 43, 44, 45, 46, 47, 48, 49, 50, 51, 52, 53, 54, 55, 56] (by decide +kernel) (by decide +kernel)
set_option maxRecDepth 20000 in
theorem gX6_work_X6_state : GoodIn wsX6_work (wsV RX6 189 RX6 yX6_state wsX6_state) := goodIn_app (goodIn_of _ (by decide +kernel)) ggX6_work_X6_state
set_option maxRecDepth 20000 in
theorem ggX6_work_X6_takes : GoodIn wsX6_work wsX6_takes := goodIn_r _ [11] (by decide +kernel) (by decide +kernel)
set_option maxRecDepth 20000 in
theorem gX6_work_X6_takes : GoodIn wsX6_work (va_wsS RX6 177 yX6_takes wsX6_takes) := goodIn_app (goodIn_of _ (by decide +kernel)) ggX6_work_X6_takes
set_option maxRecDepth 20000 in
theorem ggX6_work_X6_of : GoodIn wsX6_work wsX6_of := goodIn_r _ [15, 8, 16, 40, 41, 42, 43, 44, 45, 46, 47, 48, 49, 50, 51, 52, 53, 54, 55, 56] (by decide +kernel) (by decide +kernel)
set_option maxRecDepth 20000 in
theorem gX6_work_X6_of : GoodIn wsX6_work (wsV RX6 185 RX6 yX6_of wsX6_of) := goodIn_app (goodIn_of _ (by decide +kernel)) ggX6_work_X6_of
set_option maxRecDepth 20000 in
theorem ggX6_work_X6_single : GoodIn wsX6_work wsX6_single := goodIn_r _ [20, 21, 2, 22, 23, 24, 25, 26, 6, 27, 3, 4, 5, 7, 8, 28, 29, 30, 31, 1, 32, 33, 34, 35, 12, 13, 14, 15, 16, 36, 37, 38, 39, 40, 41, 42, 43, 44, 45, 46, 47, 48, 49, 50, 51, 52, 53, 54, 55, 56] (by decide +kernel) (by decide +kernel)
set_option maxRecDepth 20000 in
theorem gX6_work_X6_single : GoodIn wsX6_work (wsV RX6 193 RX6 yX6_single wsX6_single) := goodIn_app (goodIn_of _ (by decide +kernel)) ggX6_work_X6_single
theorem dX6_work_0 : decode cX6_work 0 = .ok (.iconst 1, 1) := by decide +kernel
theorem dX6_work_1 : decode cX6_work 1 = .ok (.istore_n 2, 1) := by decide +kernel
theorem dX6_work_2 : decode cX6_work 2 = .ok (.iload_n 2, 1) := by decide +kernel
theorem dX6_work_3 : decode cX6_work 3 = .ok (.iload_n 1, 1) := by decide +kernel
theorem dX6_work_4 : decode cX6_work 4 = .ok (.if_icmp .gt 92, 3) := by decide +kernel
theorem dX6_work_7 : decode cX6_work 7 = .ok (.aload_n 0, 1) := by decide +kernel
theorem dX6_work_8 : decode cX6_work 8 = .ok (.iload_n 2, 1) := by decide +kernel
theorem dX6_work_9 : decode cX6_work 9 = .ok (.iconst 0, 1) := by decide +kernel
theorem dX6_work_10 : decode cX6_work 10 = .ok (.iconst 0, 1) := by decide +kernel
theorem dX6_work_11 : decode cX6_work 11 = .ok (.iconst 0, 1) := by decide +kernel
theorem dX6_work_12 : decode cX6_work 12 = .ok (.iconst 0, 1) := by decide +kernel
theorem dX6_work_13 : decode cX6_work 13 = .ok (.invokevirtual 189, 3) := by decide +kernel
theorem dX6_work_16 : decode cX6_work 16 = .ok (.aload_n 0, 1) := by decide +kernel
theorem dX6_work_17 : decode cX6_work 17 = .ok (.getfield 134, 3) := by decide +kernel
theorem dX6_work_20 : decode cX6_work 20 = .ok (.iload_n 2, 1) := by decide +kernel
theorem dX6_work_21 : decode cX6_work 21 = .ok (.iaload, 1) := by decide +kernel
theorem dX6_work_22 : decode cX6_work 22 = .ok (.aload_n 0, 1) := by decide +kernel
theorem dX6_work_23 : decode cX6_work 23 = .ok (.getfield 128, 3) := by decide +kernel
theorem dX6_work_26 : decode cX6_work 26 = .ok (.iload_n 2, 1) := by decide +kernel
theorem dX6_work_27 : decode cX6_work 27 = .ok (.iaload, 1) := by decide +kernel
theorem dX6_work_28 : decode cX6_work 28 = .ok (.invokestatic 177, 3) := by decide +kernel
theorem dX6_work_31 : decode cX6_work 31 = .ok (.if_icmp .ne 7, 3) := by decide +kernel
theorem dX6_work_34 : decode cX6_work 34 = .ok (.iconst 1, 1) := by decide +kernel
theorem dX6_work_35 : decode cX6_work 35 = .ok (.goto 4, 3) := by decide +kernel
theorem dX6_work_38 : decode cX6_work 38 = .ok (.iconst 0, 1) := by decide +kernel
theorem dX6_work_39 : decode cX6_work 39 = .ok (.istore_n 3, 1) := by decide +kernel
theorem dX6_work_40 : decode cX6_work 40 = .ok (.iconst 0, 1) := by decide +kernel
theorem dX6_work_41 : decode cX6_work 41 = .ok (.istore 4, 2) := by decide +kernel
theorem dX6_work_43 : decode cX6_work 43 = .ok (.iload 4, 2) := by decide +kernel
theorem dX6_work_45 : decode cX6_work 45 = .ok (.aload_n 0, 1) := by decide +kernel
theorem dX6_work_46 : decode cX6_work 46 = .ok (.getfield 134, 3) := by decide +kernel
theorem dX6_work_49 : decode cX6_work 49 = .ok (.iload_n 2, 1) := by decide +kernel
theorem dX6_work_50 : decode cX6_work 50 = .ok (.iaload, 1) := by decide +kernel
theorem dX6_work_51 : decode cX6_work 51 = .ok (.if_icmp .ge 30, 3) := by decide +kernel
theorem dX6_work_54 : decode cX6_work 54 = .ok (.iload_n 3, 1) := by decide +kernel
theorem dX6_work_55 : decode cX6_work 55 = .ok (.ifCond .eq 18, 3) := by decide +kernel
theorem dX6_work_58 : decode cX6_work 58 = .ok (.aload_n 0, 1) := by decide +kernel
theorem dX6_work_59 : decode cX6_work 59 = .ok (.iload_n 2, 1) := by decide +kernel
theorem dX6_work_60 : decode cX6_work 60 = .ok (.iload 4, 2) := by decide +kernel
theorem dX6_work_62 : decode cX6_work 62 = .ok (.iconst 0, 1) := by decide +kernel
theorem dX6_work_63 : decode cX6_work 63 = .ok (.invokevirtual 185, 3) := by decide +kernel
theorem dX6_work_66 : decode cX6_work 66 = .ok (.ifCond .eq 7, 3) := by decide +kernel
theorem dX6_work_69 : decode cX6_work 69 = .ok (.iconst 1, 1) := by decide +kernel
theorem dX6_work_70 : decode cX6_work 70 = .ok (.goto 4, 3) := by decide +kernel
theorem dX6_work_73 : decode cX6_work 73 = .ok (.iconst 0, 1) := by decide +kernel
theorem dX6_work_74 : decode cX6_work 74 = .ok (.istore_n 3, 1) := by decide +kernel
theorem dX6_work_75 : decode cX6_work 75 = .ok (.iinc 4 1, 3) := by decide +kernel
theorem dX6_work_78 : decode cX6_work 78 = .ok (.goto (-35), 3) := by decide +kernel
theorem dX6_work_81 : decode cX6_work 81 = .ok (.iload_n 3, 1) := by decide +kernel
theorem dX6_work_82 : decode cX6_work 82 = .ok (.ifCond .eq 8, 3) := by decide +kernel
theorem dX6_work_85 : decode cX6_work 85 = .ok (.aload_n 0, 1) := by decide +kernel
theorem dX6_work_86 : decode cX6_work 86 = .ok (.iload_n 2, 1) := by decide +kernel
theorem dX6_work_87 : decode cX6_work 87 = .ok (.invokevirtual 193, 3) := by decide +kernel
theorem dX6_work_90 : decode cX6_work 90 = .ok (.iinc 2 1, 3) := by decide +kernel
theorem dX6_work_93 : decode cX6_work 93 = .ok (.goto (-91), 3) := by decide +kernel
theorem dX6_work_96 : decode cX6_work 96 = .ok (.return_, 1) := by decide +kernel
set_option maxRecDepth 20000 in
theorem ggX6_single_X6_copy : GoodIn wsX6_single wsX6_copy := goodIn_r _ [9, 10, 11, 12, 8, 13, 14, 33, 34, 35, 36, 37, 38, 39, 40, 41, 42, 43, 44, 45, 46, 47, 48, 49] (by decide +kernel) (by decide +kernel)
set_option maxRecDepth 20000 in
theorem gX6_single_X6_copy : GoodIn wsX6_single (wsV RX6 197 RX6 yX6_copy wsX6_copy) := goodIn_app (goodIn_of _ (by decide +kernel)) ggX6_single_X6_copy
set_option maxRecDepth 20000 in
theorem ggX6_single_X6_state : GoodIn wsX6_single wsX6_state := goodIn_r _ [13, 14, 33, 34, 35, 36, 37, 38, 39, 40, 41, 42, 43, 44, 45, 46, 47, 48, 49] (by decide +kernel) (by decide +kernel)
set_option maxRecDepth 20000 in
theorem gX6_single_X6_state : GoodIn wsX6_single (wsV RX6 189 RX6 yX6_state wsX6_state) := goodIn_app (goodIn_of _ (by decide +kernel)) ggX6_single_X6_state
set_option maxRecDepth 20000 in
theorem ggX6_single_X6_chain : GoodIn wsX6_single wsX6_chain := goodIn_r _ [18, 19, 2, 4, 1, 20, 21, 22, 8, 23, 24, 25, 26, 27, 14, 28, 10, 11, 12, 13, 5, 6, 7, 9, 29, 30, 31, 32, 33, 34, 35, 36, 37, 38, 39, 40, 41, 42, 43, 44, 45, 46, 47, 48, 49] (by decide +kernel) (by decide +kernel)
set_option maxRecDepth 20000 in
theorem gX6_single_X6_chain : GoodIn wsX6_single (wsV RX6 201 RX6 yX6_chain wsX6_chain) := goodIn_app (goodIn_of _ (by decide +kernel)) ggX6_single_X6_chain
theorem dX6_single_0 : decode cX6_single 0 = .ok (.aload_n 0, 1) := by decide +kernel
theorem dX6_single_1 : decode cX6_single 1 = .ok (.getfield 131, 3) := by decide +kernel
theorem dX6_single_4 : decode cX6_single 4 = .ok (.iload_n 1, 1) := by decide +kernel
theorem dX6_single_5 : decode cX6_single 5 = .ok (.iaload, 1) := by decide +kernel
theorem dX6_single_6 : decode cX6_single 6 = .ok (.istore_n 2, 1) := by decide +kernel
theorem dX6_single_7 : decode cX6_single 7 = .ok (.aload_n 0, 1) := by decide +kernel
theorem dX6_single_8 : decode cX6_single 8 = .ok (.getfield 128, 3) := by decide +kernel
theorem dX6_single_11 : decode cX6_single 11 = .ok (.iload_n 1, 1) := by decide +kernel
theorem dX6_single_12 : decode cX6_single 12 = .ok (.iaload, 1) := by decide +kernel
theorem dX6_single_13 : decode cX6_single 13 = .ok (.tableswitch 59 0 2 #[27, 38, 49], 27) := by decide +kernel
theorem dX6_single_40 : decode cX6_single 40 = .ok (.aload_n 0, 1) := by decide +kernel
theorem dX6_single_41 : decode cX6_single 41 = .ok (.aload_n 0, 1) := by decide +kernel
theorem dX6_single_42 : decode cX6_single 42 = .ok (.getfield 121, 3) := by decide +kernel
theorem dX6_single_45 : decode cX6_single 45 = .ok (.iload_n 2, 1) := by decide +kernel
theorem dX6_single_46 : decode cX6_single 46 = .ok (.iload_n 1, 1) := by decide +kernel
theorem dX6_single_47 : decode cX6_single 47 = .ok (.invokevirtual 197, 3) := by decide +kernel
theorem dX6_single_50 : decode cX6_single 50 = .ok (.return_, 1) := by decide +kernel
theorem dX6_single_51 : decode cX6_single 51 = .ok (.aload_n 0, 1) := by decide +kernel
theorem dX6_single_52 : decode cX6_single 52 = .ok (.aload_n 0, 1) := by decide +kernel
theorem dX6_single_53 : decode cX6_single 53 = .ok (.getfield 125, 3) := by decide +kernel
theorem dX6_single_56 : decode cX6_single 56 = .ok (.iload_n 2, 1) := by decide +kernel
theorem dX6_single_57 : decode cX6_single 57 = .ok (.iload_n 1, 1) := by decide +kernel
theorem dX6_single_58 : decode cX6_single 58 = .ok (.invokevirtual 197, 3) := by decide +kernel
theorem dX6_single_61 : decode cX6_single 61 = .ok (.return_, 1) := by decide +kernel
theorem dX6_single_62 : decode cX6_single 62 = .ok (.aload_n 0, 1) := by decide +kernel
theorem dX6_single_63 : decode cX6_single 63 = .ok (.iload_n 1, 1) := by decide +kernel
theorem dX6_single_64 : decode cX6_single 64 = .ok (.iconst 1, 1) := by decide +kernel
theorem dX6_single_65 : decode cX6_single 65 = .ok (.iload_n 2, 1) := by decide +kernel
theorem dX6_single_66 : decode cX6_single 66 = .ok (.iload_n 2, 1) := by decide +kernel
theorem dX6_single_67 : decode cX6_single 67 = .ok (.iconst 0, 1) := by decide +kernel
theorem dX6_single_68 : decode cX6_single 68 = .ok (.invokevirtual 189, 3) := by decide +kernel
theorem dX6_single_71 : decode cX6_single 71 = .ok (.return_, 1) := by decide +kernel
theorem dX6_single_72 : decode cX6_single 72 = .ok (.aload_n 0, 1) := by decide +kernel
theorem dX6_single_73 : decode cX6_single 73 = .ok (.iload_n 1, 1) := by decide +kernel
theorem dX6_single_74 : decode cX6_single 74 = .ok (.invokevirtual 201, 3) := by decide +kernel
theorem dX6_single_77 : decode cX6_single 77 = .ok (.return_, 1) := by decide +kernel
set_option maxRecDepth 20000 in
theorem ggX6_chain_X6_is : GoodIn wsX6_chain wsX6_is := goodIn_r _ [9, 10, 11, 12, 8, 13, 14, 15, 28, 29, 30, 31, 32, 33, 34, 35, 36, 37, 38, 39, 40, 41, 42, 43, 44] (by decide +kernel) (by decide +kernel)
set_option maxRecDepth 20000 in
theorem gX6_chain_X6_is : GoodIn wsX6_chain (wsV RX6 204 RX6 yX6_is wsX6_is) := goodIn_app (goodIn_of _ (by decide +kernel)) ggX6_chain_X6_is
set_option maxRecDepth 20000 in
theorem ggX6_chain_X6_of : GoodIn wsX6_chain wsX6_of := goodIn_r _ [13, 14, 15, 28, 29, 30, 31, 32, 33, 34, 35, 36, 37, 38, 39, 40, 41, 42, 43, 44] (by decide +kernel) (by decide +kernel)
set_option maxRecDepth 20000 in
theorem gX6_chain_X6_of : GoodIn wsX6_chain (wsV RX6 185 RX6 yX6_of wsX6_of) := goodIn_app (goodIn_of _ (by decide +kernel)) ggX6_chain_X6_of
set_option maxRecDepth 20000 in
theorem ggX6_chain_X6_state : GoodIn wsX6_chain wsX6_state := goodIn_r _ [19, 14, 28, 29, 30, 31, 32, 33, 34, 35, 36, 37, 38, 39, 40, 41, 42, 43, 44] (by decide +kernel) (by decide +kernel)
set_option maxRecDepth 20000 in
theorem gX6_chain_X6_state : GoodIn wsX6_chain (wsV RX6 189 RX6 yX6_state wsX6_state) := goodIn_app (goodIn_of _ (by decide +kernel)) ggX6_chain_X6_state
set_option maxRecDepth 20000 in
theorem ggX6_chain_X6_copy : GoodIn wsX6_chain wsX6_copy := goodIn_r _ [23, 16, 17, 18, 8, 19, 14, 28, 29, 30, 31, 32, 33, 34, 35, 36, 37, 38, 39, 40, 41, 42, 43, 44] (by decide +kernel) (by decide +kernel)
set_option maxRecDepth 20000 in
theorem gX6_chain_X6_copy : GoodIn wsX6_chain (wsV RX6 197 RX6 yX6_copy wsX6_copy) := goodIn_app (goodIn_of _ (by decide +kernel)) ggX6_chain_X6_copy
set_option maxRecDepth 20000 in
theorem ggX6_chain_X6_three : GoodIn wsX6_chain wsX6_three := goodIn_r _ [27, 2, 10, 11, 12, 8, 13, 14, 15, 5, 6, 7, 9, 16, 17, 18, 19, 28, 29, 30, 31, 32, 33, 34, 35, 36, 37, 38, 39, 40, 41, 42, 43, 44] (by decide +kernel) (by decide +kernel)
set_option maxRecDepth 20000 in
theorem gX6_chain_X6_three : GoodIn wsX6_chain (wsV RX6 208 RX6 yX6_three wsX6_three) := goodIn_app (goodIn_of _ (by decide +kernel)) ggX6_chain_X6_three
theorem dX6_chain_0 : decode cX6_chain 0 = .ok (.aload_n 0, 1) := by decide +kernel
theorem dX6_chain_1 : decode cX6_chain 1 = .ok (.getfield 134, 3) := by decide +kernel
theorem dX6_chain_4 : decode cX6_chain 4 = .ok (.iload_n 1, 1) := by decide +kernel
theorem dX6_chain_5 : decode cX6_chain 5 = .ok (.iaload, 1) := by decide +kernel
theorem dX6_chain_6 : decode cX6_chain 6 = .ok (.iconst 1, 1) := by decide +kernel
theorem dX6_chain_7 : decode cX6_chain 7 = .ok (.if_icmp .le 18, 3) := by decide +kernel
theorem dX6_chain_10 : decode cX6_chain 10 = .ok (.aload_n 0, 1) := by decide +kernel
theorem dX6_chain_11 : decode cX6_chain 11 = .ok (.iload_n 1, 1) := by decide +kernel
theorem dX6_chain_12 : decode cX6_chain 12 = .ok (.iconst 1, 1) := by decide +kernel
theorem dX6_chain_13 : decode cX6_chain 13 = .ok (.bipush 11, 2) := by decide +kernel
theorem dX6_chain_15 : decode cX6_chain 15 = .ok (.invokevirtual 204, 3) := by decide +kernel
theorem dX6_chain_18 : decode cX6_chain 18 = .ok (.ifCond .eq 7, 3) := by decide +kernel
theorem dX6_chain_21 : decode cX6_chain 21 = .ok (.iconst 1, 1) := by decide +kernel
theorem dX6_chain_22 : decode cX6_chain 22 = .ok (.goto 4, 3) := by decide +kernel
theorem dX6_chain_25 : decode cX6_chain 25 = .ok (.iconst 0, 1) := by decide +kernel
theorem dX6_chain_26 : decode cX6_chain 26 = .ok (.istore_n 2, 1) := by decide +kernel
theorem dX6_chain_27 : decode cX6_chain 27 = .ok (.aload_n 0, 1) := by decide +kernel
theorem dX6_chain_28 : decode cX6_chain 28 = .ok (.getfield 134, 3) := by decide +kernel
theorem dX6_chain_31 : decode cX6_chain 31 = .ok (.iload_n 1, 1) := by decide +kernel
theorem dX6_chain_32 : decode cX6_chain 32 = .ok (.iaload, 1) := by decide +kernel
theorem dX6_chain_33 : decode cX6_chain 33 = .ok (.iconst 1, 1) := by decide +kernel
theorem dX6_chain_34 : decode cX6_chain 34 = .ok (.if_icmp .le 13, 3) := by decide +kernel
theorem dX6_chain_37 : decode cX6_chain 37 = .ok (.aload_n 0, 1) := by decide +kernel
theorem dX6_chain_38 : decode cX6_chain 38 = .ok (.iload_n 1, 1) := by decide +kernel
theorem dX6_chain_39 : decode cX6_chain 39 = .ok (.iconst 1, 1) := by decide +kernel
theorem dX6_chain_40 : decode cX6_chain 40 = .ok (.iconst 1, 1) := by decide +kernel
theorem dX6_chain_41 : decode cX6_chain 41 = .ok (.invokevirtual 185, 3) := by decide +kernel
theorem dX6_chain_44 : decode cX6_chain 44 = .ok (.goto 4, 3) := by decide +kernel
theorem dX6_chain_47 : decode cX6_chain 47 = .ok (.iconst 0, 1) := by decide +kernel
theorem dX6_chain_48 : decode cX6_chain 48 = .ok (.istore_n 3, 1) := by decide +kernel
theorem dX6_chain_49 : decode cX6_chain 49 = .ok (.aload_n 0, 1) := by decide +kernel
theorem dX6_chain_50 : decode cX6_chain 50 = .ok (.getfield 134, 3) := by decide +kernel
theorem dX6_chain_53 : decode cX6_chain 53 = .ok (.iload_n 1, 1) := by decide +kernel
theorem dX6_chain_54 : decode cX6_chain 54 = .ok (.iaload, 1) := by decide +kernel
theorem dX6_chain_55 : decode cX6_chain 55 = .ok (.iconst 1, 1) := by decide +kernel
theorem dX6_chain_56 : decode cX6_chain 56 = .ok (.if_icmp .le 13, 3) := by decide +kernel
theorem dX6_chain_59 : decode cX6_chain 59 = .ok (.aload_n 0, 1) := by decide +kernel
theorem dX6_chain_60 : decode cX6_chain 60 = .ok (.iload_n 1, 1) := by decide +kernel
theorem dX6_chain_61 : decode cX6_chain 61 = .ok (.iconst 1, 1) := by decide +kernel
theorem dX6_chain_62 : decode cX6_chain 62 = .ok (.iconst 2, 1) := by decide +kernel
theorem dX6_chain_63 : decode cX6_chain 63 = .ok (.invokevirtual 185, 3) := by decide +kernel
theorem dX6_chain_66 : decode cX6_chain 66 = .ok (.goto 4, 3) := by decide +kernel
theorem dX6_chain_69 : decode cX6_chain 69 = .ok (.iconst 0, 1) := by decide +kernel
theorem dX6_chain_70 : decode cX6_chain 70 = .ok (.istore 4, 2) := by decide +kernel
theorem dX6_chain_72 : decode cX6_chain 72 = .ok (.aload_n 0, 1) := by decide +kernel
theorem dX6_chain_73 : decode cX6_chain 73 = .ok (.getfield 134, 3) := by decide +kernel
theorem dX6_chain_76 : decode cX6_chain 76 = .ok (.iload_n 1, 1) := by decide +kernel
theorem dX6_chain_77 : decode cX6_chain 77 = .ok (.iaload, 1) := by decide +kernel
theorem dX6_chain_78 : decode cX6_chain 78 = .ok (.iconst 1, 1) := by decide +kernel
theorem dX6_chain_79 : decode cX6_chain 79 = .ok (.if_icmp .le 13, 3) := by decide +kernel
theorem dX6_chain_82 : decode cX6_chain 82 = .ok (.aload_n 0, 1) := by decide +kernel
theorem dX6_chain_83 : decode cX6_chain 83 = .ok (.iload_n 1, 1) := by decide +kernel
theorem dX6_chain_84 : decode cX6_chain 84 = .ok (.iconst 1, 1) := by decide +kernel
theorem dX6_chain_85 : decode cX6_chain 85 = .ok (.iconst 3, 1) := by decide +kernel
theorem dX6_chain_86 : decode cX6_chain 86 = .ok (.invokevirtual 185, 3) := by decide +kernel
theorem dX6_chain_89 : decode cX6_chain 89 = .ok (.goto 4, 3) := by decide +kernel
theorem dX6_chain_92 : decode cX6_chain 92 = .ok (.iconst 0, 1) := by decide +kernel
theorem dX6_chain_93 : decode cX6_chain 93 = .ok (.istore 5, 2) := by decide +kernel
theorem dX6_chain_95 : decode cX6_chain 95 = .ok (.aload_n 0, 1) := by decide +kernel
theorem dX6_chain_96 : decode cX6_chain 96 = .ok (.iload_n 1, 1) := by decide +kernel
theorem dX6_chain_97 : decode cX6_chain 97 = .ok (.iconst 0, 1) := by decide +kernel
theorem dX6_chain_98 : decode cX6_chain 98 = .ok (.iconst 1, 1) := by decide +kernel
theorem dX6_chain_99 : decode cX6_chain 99 = .ok (.invokevirtual 185, 3) := by decide +kernel
theorem dX6_chain_102 : decode cX6_chain 102 = .ok (.istore 6, 2) := by decide +kernel
theorem dX6_chain_104 : decode cX6_chain 104 = .ok (.aload_n 0, 1) := by decide +kernel
theorem dX6_chain_105 : decode cX6_chain 105 = .ok (.iload_n 1, 1) := by decide +kernel
theorem dX6_chain_106 : decode cX6_chain 106 = .ok (.iconst 0, 1) := by decide +kernel
theorem dX6_chain_107 : decode cX6_chain 107 = .ok (.iconst 2, 1) := by decide +kernel
theorem dX6_chain_108 : decode cX6_chain 108 = .ok (.invokevirtual 185, 3) := by decide +kernel
theorem dX6_chain_111 : decode cX6_chain 111 = .ok (.istore 7, 2) := by decide +kernel
theorem dX6_chain_113 : decode cX6_chain 113 = .ok (.aload_n 0, 1) := by decide +kernel
theorem dX6_chain_114 : decode cX6_chain 114 = .ok (.getfield 128, 3) := by decide +kernel
theorem dX6_chain_117 : decode cX6_chain 117 = .ok (.iload_n 1, 1) := by decide +kernel
theorem dX6_chain_118 : decode cX6_chain 118 = .ok (.iaload, 1) := by decide +kernel
theorem dX6_chain_119 : decode cX6_chain 119 = .ok (.tableswitch 508 3 17 #[73, 73, 126, 166, 202, 237, 273, 508, 310, 442, 347, 508, 508, 395, 479], 73) := by decide +kernel
theorem dX6_chain_192 : decode cX6_chain 192 = .ok (.aload_n 0, 1) := by decide +kernel
theorem dX6_chain_193 : decode cX6_chain 193 = .ok (.getfield 128, 3) := by decide +kernel
theorem dX6_chain_196 : decode cX6_chain 196 = .ok (.iload_n 1, 1) := by decide +kernel
theorem dX6_chain_197 : decode cX6_chain 197 = .ok (.iaload, 1) := by decide +kernel
theorem dX6_chain_198 : decode cX6_chain 198 = .ok (.iconst 2, 1) := by decide +kernel
theorem dX6_chain_199 : decode cX6_chain 199 = .ok (.isub, 1) := by decide +kernel
theorem dX6_chain_200 : decode cX6_chain 200 = .ok (.istore 8, 2) := by decide +kernel
theorem dX6_chain_202 : decode cX6_chain 202 = .ok (.aload_n 0, 1) := by decide +kernel
theorem dX6_chain_203 : decode cX6_chain 203 = .ok (.iload_n 1, 1) := by decide +kernel
theorem dX6_chain_204 : decode cX6_chain 204 = .ok (.iconst 0, 1) := by decide +kernel
theorem dX6_chain_205 : decode cX6_chain 205 = .ok (.iload 8, 2) := by decide +kernel
theorem dX6_chain_207 : decode cX6_chain 207 = .ok (.invokevirtual 204, 3) := by decide +kernel
theorem dX6_chain_210 : decode cX6_chain 210 = .ok (.ifCond .eq 442, 3) := by decide +kernel
theorem dX6_chain_213 : decode cX6_chain 213 = .ok (.aload_n 0, 1) := by decide +kernel
theorem dX6_chain_214 : decode cX6_chain 214 = .ok (.iload_n 1, 1) := by decide +kernel
theorem dX6_chain_215 : decode cX6_chain 215 = .ok (.iconst 1, 1) := by decide +kernel
theorem dX6_chain_216 : decode cX6_chain 216 = .ok (.iload 8, 2) := by decide +kernel
theorem dX6_chain_218 : decode cX6_chain 218 = .ok (.invokevirtual 204, 3) := by decide +kernel
theorem dX6_chain_221 : decode cX6_chain 221 = .ok (.ifCond .eq 431, 3) := by decide +kernel
theorem dX6_chain_224 : decode cX6_chain 224 = .ok (.iload 7, 2) := by decide +kernel
theorem dX6_chain_226 : decode cX6_chain 226 = .ok (.iload_n 3, 1) := by decide +kernel
theorem dX6_chain_227 : decode cX6_chain 227 = .ok (.if_icmp .ne 425, 3) := by decide +kernel
theorem dX6_chain_230 : decode cX6_chain 230 = .ok (.aload_n 0, 1) := by decide +kernel
theorem dX6_chain_231 : decode cX6_chain 231 = .ok (.iload_n 1, 1) := by decide +kernel
theorem dX6_chain_232 : decode cX6_chain 232 = .ok (.iload 8, 2) := by decide +kernel
theorem dX6_chain_234 : decode cX6_chain 234 = .ok (.iload 6, 2) := by decide +kernel
theorem dX6_chain_236 : decode cX6_chain 236 = .ok (.iload 4, 2) := by decide +kernel
theorem dX6_chain_238 : decode cX6_chain 238 = .ok (.iconst 0, 1) := by decide +kernel
theorem dX6_chain_239 : decode cX6_chain 239 = .ok (.invokevirtual 189, 3) := by decide +kernel
theorem dX6_chain_242 : decode cX6_chain 242 = .ok (.goto 410, 3) := by decide +kernel
theorem dX6_chain_245 : decode cX6_chain 245 = .ok (.aload_n 0, 1) := by decide +kernel
theorem dX6_chain_246 : decode cX6_chain 246 = .ok (.iload_n 1, 1) := by decide +kernel
theorem dX6_chain_247 : decode cX6_chain 247 = .ok (.iconst 0, 1) := by decide +kernel
theorem dX6_chain_248 : decode cX6_chain 248 = .ok (.iconst 1, 1) := by decide +kernel
theorem dX6_chain_249 : decode cX6_chain 249 = .ok (.invokevirtual 204, 3) := by decide +kernel
theorem dX6_chain_252 : decode cX6_chain 252 = .ok (.ifCond .eq 400, 3) := by decide +kernel
theorem dX6_chain_255 : decode cX6_chain 255 = .ok (.iload_n 2, 1) := by decide +kernel
theorem dX6_chain_256 : decode cX6_chain 256 = .ok (.ifCond .eq 396, 3) := by decide +kernel
theorem dX6_chain_259 : decode cX6_chain 259 = .ok (.iload 4, 2) := by decide +kernel
theorem dX6_chain_261 : decode cX6_chain 261 = .ok (.ifCond .ne 391, 3) := by decide +kernel
theorem dX6_chain_264 : decode cX6_chain 264 = .ok (.iload 5, 2) := by decide +kernel
theorem dX6_chain_266 : decode cX6_chain 266 = .ok (.iload 6, 2) := by decide +kernel
theorem dX6_chain_268 : decode cX6_chain 268 = .ok (.if_icmp .ne 384, 3) := by decide +kernel
theorem dX6_chain_271 : decode cX6_chain 271 = .ok (.aload_n 0, 1) := by decide +kernel
theorem dX6_chain_272 : decode cX6_chain 272 = .ok (.iload_n 1, 1) := by decide +kernel
theorem dX6_chain_273 : decode cX6_chain 273 = .ok (.bipush 11, 2) := by decide +kernel
theorem dX6_chain_275 : decode cX6_chain 275 = .ok (.iload_n 3, 1) := by decide +kernel
theorem dX6_chain_276 : decode cX6_chain 276 = .ok (.iconst 0, 1) := by decide +kernel
theorem dX6_chain_277 : decode cX6_chain 277 = .ok (.iload 7, 2) := by decide +kernel
theorem dX6_chain_279 : decode cX6_chain 279 = .ok (.invokevirtual 189, 3) := by decide +kernel
theorem dX6_chain_282 : decode cX6_chain 282 = .ok (.goto 370, 3) := by decide +kernel
theorem dX6_chain_285 : decode cX6_chain 285 = .ok (.aload_n 0, 1) := by decide +kernel
theorem dX6_chain_286 : decode cX6_chain 286 = .ok (.iload_n 1, 1) := by decide +kernel
theorem dX6_chain_287 : decode cX6_chain 287 = .ok (.iconst 0, 1) := by decide +kernel
theorem dX6_chain_288 : decode cX6_chain 288 = .ok (.iconst 2, 1) := by decide +kernel
theorem dX6_chain_289 : decode cX6_chain 289 = .ok (.invokevirtual 204, 3) := by decide +kernel
theorem dX6_chain_292 : decode cX6_chain 292 = .ok (.ifCond .eq 360, 3) := by decide +kernel
theorem dX6_chain_295 : decode cX6_chain 295 = .ok (.iload_n 2, 1) := by decide +kernel
theorem dX6_chain_296 : decode cX6_chain 296 = .ok (.ifCond .eq 356, 3) := by decide +kernel
theorem dX6_chain_299 : decode cX6_chain 299 = .ok (.iload 4, 2) := by decide +kernel
theorem dX6_chain_301 : decode cX6_chain 301 = .ok (.iload 6, 2) := by decide +kernel
theorem dX6_chain_303 : decode cX6_chain 303 = .ok (.if_icmp .ne 349, 3) := by decide +kernel
theorem dX6_chain_306 : decode cX6_chain 306 = .ok (.aload_n 0, 1) := by decide +kernel
theorem dX6_chain_307 : decode cX6_chain 307 = .ok (.iload_n 1, 1) := by decide +kernel
theorem dX6_chain_308 : decode cX6_chain 308 = .ok (.bipush 11, 2) := by decide +kernel
theorem dX6_chain_310 : decode cX6_chain 310 = .ok (.iload_n 3, 1) := by decide +kernel
theorem dX6_chain_311 : decode cX6_chain 311 = .ok (.iload 7, 2) := by decide +kernel
theorem dX6_chain_313 : decode cX6_chain 313 = .ok (.iload 5, 2) := by decide +kernel
theorem dX6_chain_315 : decode cX6_chain 315 = .ok (.invokevirtual 189, 3) := by decide +kernel
theorem dX6_chain_318 : decode cX6_chain 318 = .ok (.goto 334, 3) := by decide +kernel
theorem dX6_chain_321 : decode cX6_chain 321 = .ok (.aload_n 0, 1) := by decide +kernel
theorem dX6_chain_322 : decode cX6_chain 322 = .ok (.iload_n 1, 1) := by decide +kernel
theorem dX6_chain_323 : decode cX6_chain 323 = .ok (.iconst 0, 1) := by decide +kernel
theorem dX6_chain_324 : decode cX6_chain 324 = .ok (.iconst 3, 1) := by decide +kernel
theorem dX6_chain_325 : decode cX6_chain 325 = .ok (.invokevirtual 204, 3) := by decide +kernel
theorem dX6_chain_328 : decode cX6_chain 328 = .ok (.ifCond .eq 324, 3) := by decide +kernel
theorem dX6_chain_331 : decode cX6_chain 331 = .ok (.iload_n 2, 1) := by decide +kernel
theorem dX6_chain_332 : decode cX6_chain 332 = .ok (.ifCond .eq 320, 3) := by decide +kernel
theorem dX6_chain_335 : decode cX6_chain 335 = .ok (.iload 4, 2) := by decide +kernel
theorem dX6_chain_337 : decode cX6_chain 337 = .ok (.iload 6, 2) := by decide +kernel
theorem dX6_chain_339 : decode cX6_chain 339 = .ok (.if_icmp .ne 313, 3) := by decide +kernel
theorem dX6_chain_342 : decode cX6_chain 342 = .ok (.aload_n 0, 1) := by decide +kernel
theorem dX6_chain_343 : decode cX6_chain 343 = .ok (.iload_n 1, 1) := by decide +kernel
theorem dX6_chain_344 : decode cX6_chain 344 = .ok (.bipush 11, 2) := by decide +kernel
theorem dX6_chain_346 : decode cX6_chain 346 = .ok (.iload_n 3, 1) := by decide +kernel
theorem dX6_chain_347 : decode cX6_chain 347 = .ok (.iconst 0, 1) := by decide +kernel
theorem dX6_chain_348 : decode cX6_chain 348 = .ok (.iload 7, 2) := by decide +kernel
theorem dX6_chain_350 : decode cX6_chain 350 = .ok (.invokevirtual 189, 3) := by decide +kernel
theorem dX6_chain_353 : decode cX6_chain 353 = .ok (.goto 299, 3) := by decide +kernel
theorem dX6_chain_356 : decode cX6_chain 356 = .ok (.aload_n 0, 1) := by decide +kernel
theorem dX6_chain_357 : decode cX6_chain 357 = .ok (.iload_n 1, 1) := by decide +kernel
theorem dX6_chain_358 : decode cX6_chain 358 = .ok (.iconst 0, 1) := by decide +kernel
theorem dX6_chain_359 : decode cX6_chain 359 = .ok (.iconst 4, 1) := by decide +kernel
theorem dX6_chain_360 : decode cX6_chain 360 = .ok (.invokevirtual 204, 3) := by decide +kernel
theorem dX6_chain_363 : decode cX6_chain 363 = .ok (.ifCond .eq 289, 3) := by decide +kernel
theorem dX6_chain_366 : decode cX6_chain 366 = .ok (.iload_n 2, 1) := by decide +kernel
theorem dX6_chain_367 : decode cX6_chain 367 = .ok (.ifCond .eq 285, 3) := by decide +kernel
theorem dX6_chain_370 : decode cX6_chain 370 = .ok (.iload 4, 2) := by decide +kernel
theorem dX6_chain_372 : decode cX6_chain 372 = .ok (.iload 6, 2) := by decide +kernel
theorem dX6_chain_374 : decode cX6_chain 374 = .ok (.if_icmp .ne 278, 3) := by decide +kernel
theorem dX6_chain_377 : decode cX6_chain 377 = .ok (.aload_n 0, 1) := by decide +kernel
theorem dX6_chain_378 : decode cX6_chain 378 = .ok (.iload_n 1, 1) := by decide +kernel
theorem dX6_chain_379 : decode cX6_chain 379 = .ok (.bipush 11, 2) := by decide +kernel
theorem dX6_chain_381 : decode cX6_chain 381 = .ok (.iload 5, 2) := by decide +kernel
theorem dX6_chain_383 : decode cX6_chain 383 = .ok (.iconst 0, 1) := by decide +kernel
theorem dX6_chain_384 : decode cX6_chain 384 = .ok (.iload 7, 2) := by decide +kernel
theorem dX6_chain_386 : decode cX6_chain 386 = .ok (.invokevirtual 189, 3) := by decide +kernel
theorem dX6_chain_389 : decode cX6_chain 389 = .ok (.goto 263, 3) := by decide +kernel
theorem dX6_chain_392 : decode cX6_chain 392 = .ok (.aload_n 0, 1) := by decide +kernel
theorem dX6_chain_393 : decode cX6_chain 393 = .ok (.iload_n 1, 1) := by decide +kernel
theorem dX6_chain_394 : decode cX6_chain 394 = .ok (.iconst 0, 1) := by decide +kernel
theorem dX6_chain_395 : decode cX6_chain 395 = .ok (.bipush 7, 2) := by decide +kernel
theorem dX6_chain_397 : decode cX6_chain 397 = .ok (.invokevirtual 204, 3) := by decide +kernel
theorem dX6_chain_400 : decode cX6_chain 400 = .ok (.ifCond .eq 252, 3) := by decide +kernel
theorem dX6_chain_403 : decode cX6_chain 403 = .ok (.iload_n 2, 1) := by decide +kernel
theorem dX6_chain_404 : decode cX6_chain 404 = .ok (.ifCond .eq 248, 3) := by decide +kernel
theorem dX6_chain_407 : decode cX6_chain 407 = .ok (.iload 4, 2) := by decide +kernel
theorem dX6_chain_409 : decode cX6_chain 409 = .ok (.iload 6, 2) := by decide +kernel
theorem dX6_chain_411 : decode cX6_chain 411 = .ok (.if_icmp .ne 241, 3) := by decide +kernel
theorem dX6_chain_414 : decode cX6_chain 414 = .ok (.aload_n 0, 1) := by decide +kernel
theorem dX6_chain_415 : decode cX6_chain 415 = .ok (.iload_n 1, 1) := by decide +kernel
theorem dX6_chain_416 : decode cX6_chain 416 = .ok (.bipush 11, 2) := by decide +kernel
theorem dX6_chain_418 : decode cX6_chain 418 = .ok (.iload 5, 2) := by decide +kernel
theorem dX6_chain_420 : decode cX6_chain 420 = .ok (.iload 4, 2) := by decide +kernel
theorem dX6_chain_422 : decode cX6_chain 422 = .ok (.iload_n 3, 1) := by decide +kernel
theorem dX6_chain_423 : decode cX6_chain 423 = .ok (.invokevirtual 189, 3) := by decide +kernel
theorem dX6_chain_426 : decode cX6_chain 426 = .ok (.goto 226, 3) := by decide +kernel
theorem dX6_chain_429 : decode cX6_chain 429 = .ok (.aload_n 0, 1) := by decide +kernel
theorem dX6_chain_430 : decode cX6_chain 430 = .ok (.iload_n 1, 1) := by decide +kernel
theorem dX6_chain_431 : decode cX6_chain 431 = .ok (.iconst 0, 1) := by decide +kernel
theorem dX6_chain_432 : decode cX6_chain 432 = .ok (.bipush 8, 2) := by decide +kernel
theorem dX6_chain_434 : decode cX6_chain 434 = .ok (.invokevirtual 204, 3) := by decide +kernel
theorem dX6_chain_437 : decode cX6_chain 437 = .ok (.ifCond .eq 215, 3) := by decide +kernel
theorem dX6_chain_440 : decode cX6_chain 440 = .ok (.iload_n 2, 1) := by decide +kernel
theorem dX6_chain_441 : decode cX6_chain 441 = .ok (.ifCond .eq 211, 3) := by decide +kernel
theorem dX6_chain_444 : decode cX6_chain 444 = .ok (.iload 4, 2) := by decide +kernel
theorem dX6_chain_446 : decode cX6_chain 446 = .ok (.iload 6, 2) := by decide +kernel
theorem dX6_chain_448 : decode cX6_chain 448 = .ok (.if_icmp .ne 204, 3) := by decide +kernel
theorem dX6_chain_451 : decode cX6_chain 451 = .ok (.aload_n 0, 1) := by decide +kernel
theorem dX6_chain_452 : decode cX6_chain 452 = .ok (.iload_n 1, 1) := by decide +kernel
theorem dX6_chain_453 : decode cX6_chain 453 = .ok (.bipush 11, 2) := by decide +kernel
theorem dX6_chain_455 : decode cX6_chain 455 = .ok (.iload 5, 2) := by decide +kernel
theorem dX6_chain_457 : decode cX6_chain 457 = .ok (.iload 7, 2) := by decide +kernel
theorem dX6_chain_459 : decode cX6_chain 459 = .ok (.iload_n 3, 1) := by decide +kernel
theorem dX6_chain_460 : decode cX6_chain 460 = .ok (.invokevirtual 189, 3) := by decide +kernel
theorem dX6_chain_463 : decode cX6_chain 463 = .ok (.goto 189, 3) := by decide +kernel
theorem dX6_chain_466 : decode cX6_chain 466 = .ok (.aload_n 0, 1) := by decide +kernel
theorem dX6_chain_467 : decode cX6_chain 467 = .ok (.iload_n 1, 1) := by decide +kernel
theorem dX6_chain_468 : decode cX6_chain 468 = .ok (.iconst 0, 1) := by decide +kernel
theorem dX6_chain_469 : decode cX6_chain 469 = .ok (.bipush 11, 2) := by decide +kernel
theorem dX6_chain_471 : decode cX6_chain 471 = .ok (.invokevirtual 204, 3) := by decide +kernel
theorem dX6_chain_474 : decode cX6_chain 474 = .ok (.ifCond .eq 178, 3) := by decide +kernel
theorem dX6_chain_477 : decode cX6_chain 477 = .ok (.iload 7, 2) := by decide +kernel
theorem dX6_chain_479 : decode cX6_chain 479 = .ok (.iconst 1, 1) := by decide +kernel
theorem dX6_chain_480 : decode cX6_chain 480 = .ok (.if_icmp .ne 172, 3) := by decide +kernel
theorem dX6_chain_483 : decode cX6_chain 483 = .ok (.iload_n 2, 1) := by decide +kernel
theorem dX6_chain_484 : decode cX6_chain 484 = .ok (.ifCond .eq 168, 3) := by decide +kernel
theorem dX6_chain_487 : decode cX6_chain 487 = .ok (.iload_n 3, 1) := by decide +kernel
theorem dX6_chain_488 : decode cX6_chain 488 = .ok (.iload 6, 2) := by decide +kernel
theorem dX6_chain_490 : decode cX6_chain 490 = .ok (.if_icmp .ne 162, 3) := by decide +kernel
theorem dX6_chain_493 : decode cX6_chain 493 = .ok (.aload_n 0, 1) := by decide +kernel
theorem dX6_chain_494 : decode cX6_chain 494 = .ok (.iload_n 1, 1) := by decide +kernel
theorem dX6_chain_495 : decode cX6_chain 495 = .ok (.bipush 11, 2) := by decide +kernel
theorem dX6_chain_497 : decode cX6_chain 497 = .ok (.aload_n 0, 1) := by decide +kernel
theorem dX6_chain_498 : decode cX6_chain 498 = .ok (.iload_n 1, 1) := by decide +kernel
theorem dX6_chain_499 : decode cX6_chain 499 = .ok (.iconst 0, 1) := by decide +kernel
theorem dX6_chain_500 : decode cX6_chain 500 = .ok (.iconst 3, 1) := by decide +kernel
theorem dX6_chain_501 : decode cX6_chain 501 = .ok (.invokevirtual 185, 3) := by decide +kernel
theorem dX6_chain_504 : decode cX6_chain 504 = .ok (.iload 4, 2) := by decide +kernel
theorem dX6_chain_506 : decode cX6_chain 506 = .ok (.iload 5, 2) := by decide +kernel
theorem dX6_chain_508 : decode cX6_chain 508 = .ok (.invokevirtual 189, 3) := by decide +kernel
theorem dX6_chain_511 : decode cX6_chain 511 = .ok (.goto 141, 3) := by decide +kernel
theorem dX6_chain_514 : decode cX6_chain 514 = .ok (.aload_n 0, 1) := by decide +kernel
theorem dX6_chain_515 : decode cX6_chain 515 = .ok (.iload_n 1, 1) := by decide +kernel
theorem dX6_chain_516 : decode cX6_chain 516 = .ok (.iconst 0, 1) := by decide +kernel
theorem dX6_chain_517 : decode cX6_chain 517 = .ok (.bipush 10, 2) := by decide +kernel
theorem dX6_chain_519 : decode cX6_chain 519 = .ok (.invokevirtual 204, 3) := by decide +kernel
theorem dX6_chain_522 : decode cX6_chain 522 = .ok (.ifCond .eq 130, 3) := by decide +kernel
theorem dX6_chain_525 : decode cX6_chain 525 = .ok (.iload_n 2, 1) := by decide +kernel
theorem dX6_chain_526 : decode cX6_chain 526 = .ok (.ifCond .eq 126, 3) := by decide +kernel
theorem dX6_chain_529 : decode cX6_chain 529 = .ok (.iload 4, 2) := by decide +kernel
theorem dX6_chain_531 : decode cX6_chain 531 = .ok (.iconst 1, 1) := by decide +kernel
theorem dX6_chain_532 : decode cX6_chain 532 = .ok (.if_icmp .ne 120, 3) := by decide +kernel
theorem dX6_chain_535 : decode cX6_chain 535 = .ok (.iload_n 3, 1) := by decide +kernel
theorem dX6_chain_536 : decode cX6_chain 536 = .ok (.iload 6, 2) := by decide +kernel
theorem dX6_chain_538 : decode cX6_chain 538 = .ok (.if_icmp .ne 114, 3) := by decide +kernel
theorem dX6_chain_541 : decode cX6_chain 541 = .ok (.iload 5, 2) := by decide +kernel
theorem dX6_chain_543 : decode cX6_chain 543 = .ok (.iload 7, 2) := by decide +kernel
theorem dX6_chain_545 : decode cX6_chain 545 = .ok (.if_icmp .ne 107, 3) := by decide +kernel
theorem dX6_chain_548 : decode cX6_chain 548 = .ok (.aload_n 0, 1) := by decide +kernel
theorem dX6_chain_549 : decode cX6_chain 549 = .ok (.iload_n 1, 1) := by decide +kernel
theorem dX6_chain_550 : decode cX6_chain 550 = .ok (.bipush 12, 2) := by decide +kernel
theorem dX6_chain_552 : decode cX6_chain 552 = .ok (.iconst 0, 1) := by decide +kernel
theorem dX6_chain_553 : decode cX6_chain 553 = .ok (.iconst 0, 1) := by decide +kernel
theorem dX6_chain_554 : decode cX6_chain 554 = .ok (.iconst 0, 1) := by decide +kernel
theorem dX6_chain_555 : decode cX6_chain 555 = .ok (.invokevirtual 189, 3) := by decide +kernel
theorem dX6_chain_558 : decode cX6_chain 558 = .ok (.goto 94, 3) := by decide +kernel
theorem dX6_chain_561 : decode cX6_chain 561 = .ok (.aload_n 0, 1) := by decide +kernel
theorem dX6_chain_562 : decode cX6_chain 562 = .ok (.iload_n 1, 1) := by decide +kernel
theorem dX6_chain_563 : decode cX6_chain 563 = .ok (.iconst 0, 1) := by decide +kernel
theorem dX6_chain_564 : decode cX6_chain 564 = .ok (.bipush 11, 2) := by decide +kernel
theorem dX6_chain_566 : decode cX6_chain 566 = .ok (.invokevirtual 204, 3) := by decide +kernel
theorem dX6_chain_569 : decode cX6_chain 569 = .ok (.ifCond .eq 83, 3) := by decide +kernel
theorem dX6_chain_572 : decode cX6_chain 572 = .ok (.iload 7, 2) := by decide +kernel
theorem dX6_chain_574 : decode cX6_chain 574 = .ok (.iconst 1, 1) := by decide +kernel
theorem dX6_chain_575 : decode cX6_chain 575 = .ok (.if_icmp .ne 77, 3) := by decide +kernel
theorem dX6_chain_578 : decode cX6_chain 578 = .ok (.aload_n 0, 1) := by decide +kernel
theorem dX6_chain_579 : decode cX6_chain 579 = .ok (.iload_n 1, 1) := by decide +kernel
theorem dX6_chain_580 : decode cX6_chain 580 = .ok (.bipush 11, 2) := by decide +kernel
theorem dX6_chain_582 : decode cX6_chain 582 = .ok (.aload_n 0, 1) := by decide +kernel
theorem dX6_chain_583 : decode cX6_chain 583 = .ok (.iload_n 1, 1) := by decide +kernel
theorem dX6_chain_584 : decode cX6_chain 584 = .ok (.iconst 0, 1) := by decide +kernel
theorem dX6_chain_585 : decode cX6_chain 585 = .ok (.iconst 3, 1) := by decide +kernel
theorem dX6_chain_586 : decode cX6_chain 586 = .ok (.invokevirtual 185, 3) := by decide +kernel
theorem dX6_chain_589 : decode cX6_chain 589 = .ok (.iconst 1, 1) := by decide +kernel
theorem dX6_chain_590 : decode cX6_chain 590 = .ok (.iload 6, 2) := by decide +kernel
theorem dX6_chain_592 : decode cX6_chain 592 = .ok (.invokevirtual 189, 3) := by decide +kernel
theorem dX6_chain_595 : decode cX6_chain 595 = .ok (.goto 57, 3) := by decide +kernel
theorem dX6_chain_598 : decode cX6_chain 598 = .ok (.aload_n 0, 1) := by decide +kernel
theorem dX6_chain_599 : decode cX6_chain 599 = .ok (.iload_n 1, 1) := by decide +kernel
theorem dX6_chain_600 : decode cX6_chain 600 = .ok (.iconst 0, 1) := by decide +kernel
theorem dX6_chain_601 : decode cX6_chain 601 = .ok (.bipush 12, 2) := by decide +kernel
theorem dX6_chain_603 : decode cX6_chain 603 = .ok (.invokevirtual 204, 3) := by decide +kernel
theorem dX6_chain_606 : decode cX6_chain 606 = .ok (.ifCond .eq 46, 3) := by decide +kernel
theorem dX6_chain_609 : decode cX6_chain 609 = .ok (.aload_n 0, 1) := by decide +kernel
theorem dX6_chain_610 : decode cX6_chain 610 = .ok (.aload_n 0, 1) := by decide +kernel
theorem dX6_chain_611 : decode cX6_chain 611 = .ok (.getfield 125, 3) := by decide +kernel
theorem dX6_chain_614 : decode cX6_chain 614 = .ok (.aload_n 0, 1) := by decide +kernel
theorem dX6_chain_615 : decode cX6_chain 615 = .ok (.getfield 131, 3) := by decide +kernel
theorem dX6_chain_618 : decode cX6_chain 618 = .ok (.iload_n 1, 1) := by decide +kernel
theorem dX6_chain_619 : decode cX6_chain 619 = .ok (.iaload, 1) := by decide +kernel
theorem dX6_chain_620 : decode cX6_chain 620 = .ok (.iload_n 1, 1) := by decide +kernel
theorem dX6_chain_621 : decode cX6_chain 621 = .ok (.invokevirtual 197, 3) := by decide +kernel
theorem dX6_chain_624 : decode cX6_chain 624 = .ok (.goto 28, 3) := by decide +kernel
theorem dX6_chain_627 : decode cX6_chain 627 = .ok (.iload_n 2, 1) := by decide +kernel
theorem dX6_chain_628 : decode cX6_chain 628 = .ok (.ifCond .eq 24, 3) := by decide +kernel
theorem dX6_chain_631 : decode cX6_chain 631 = .ok (.aload_n 0, 1) := by decide +kernel
theorem dX6_chain_632 : decode cX6_chain 632 = .ok (.iload_n 1, 1) := by decide +kernel
theorem dX6_chain_633 : decode cX6_chain 633 = .ok (.iconst 2, 1) := by decide +kernel
theorem dX6_chain_634 : decode cX6_chain 634 = .ok (.bipush 11, 2) := by decide +kernel
theorem dX6_chain_636 : decode cX6_chain 636 = .ok (.invokevirtual 204, 3) := by decide +kernel
theorem dX6_chain_639 : decode cX6_chain 639 = .ok (.ifCond .eq 13, 3) := by decide +kernel
theorem dX6_chain_642 : decode cX6_chain 642 = .ok (.aload_n 0, 1) := by decide +kernel
theorem dX6_chain_643 : decode cX6_chain 643 = .ok (.iload_n 1, 1) := by decide +kernel
theorem dX6_chain_644 : decode cX6_chain 644 = .ok (.iload_n 3, 1) := by decide +kernel
theorem dX6_chain_645 : decode cX6_chain 645 = .ok (.iload 4, 2) := by decide +kernel
theorem dX6_chain_647 : decode cX6_chain 647 = .ok (.iload 5, 2) := by decide +kernel
theorem dX6_chain_649 : decode cX6_chain 649 = .ok (.invokevirtual 208, 3) := by decide +kernel
theorem dX6_chain_652 : decode cX6_chain 652 = .ok (.return_, 1) := by decide +kernel
set_option maxRecDepth 20000 in
theorem ggX6_three_X6_of : GoodIn wsX6_three wsX6_of := goodIn_r _ [6, 7, 8, 17, 18, 19, 20, 21, 22, 23, 24, 25, 26, 27, 28, 29, 30, 31, 32, 33] (by decide +kernel) (by decide +kernel)
set_option maxRecDepth 20000 in
theorem gX6_three_X6_of : GoodIn wsX6_three (wsV RX6 185 RX6 yX6_of wsX6_of) := goodIn_app (goodIn_of _ (by decide +kernel)) ggX6_three_X6_of
set_option maxRecDepth 20000 in
theorem ggX6_three_X6_is : GoodIn wsX6_three wsX6_is := goodIn_r _ [12, 2, 3, 4, 5, 6, 7, 8, 17, 18, 19, 20, 21, 22, 23, 24, 25, 26, 27, 28, 29, 30, 31, 32, 33] (by decide +kernel) (by decide +kernel)
set_option maxRecDepth 20000 in
theorem gX6_three_X6_is : GoodIn wsX6_three (wsV RX6 204 RX6 yX6_is wsX6_is) := goodIn_app (goodIn_of _ (by decide +kernel)) ggX6_three_X6_is
set_option maxRecDepth 20000 in
theorem ggX6_three_X6_state : GoodIn wsX6_three wsX6_state := goodIn_r _ [16, 7, 17, 18, 19, 20, 21, 22, 23, 24, 25, 26, 27, 28, 29, 30, 31, 32, 33] (by decide +kernel) (by decide +kernel)
set_option maxRecDepth 20000 in
theorem gX6_three_X6_state : GoodIn wsX6_three (wsV RX6 189 RX6 yX6_state wsX6_state) := goodIn_app (goodIn_of _ (by decide +kernel)) ggX6_three_X6_state
theorem dX6_three_0 : decode cX6_three 0 = .ok (.aload_n 0, 1) := by decide +kernel
theorem dX6_three_1 : decode cX6_three 1 = .ok (.iload_n 1, 1) := by decide +kernel
theorem dX6_three_2 : decode cX6_three 2 = .ok (.iconst 0, 1) := by decide +kernel
theorem dX6_three_3 : decode cX6_three 3 = .ok (.iconst 1, 1) := by decide +kernel
theorem dX6_three_4 : decode cX6_three 4 = .ok (.invokevirtual 185, 3) := by decide +kernel
theorem dX6_three_7 : decode cX6_three 7 = .ok (.istore 5, 2) := by decide +kernel
theorem dX6_three_9 : decode cX6_three 9 = .ok (.aload_n 0, 1) := by decide +kernel
theorem dX6_three_10 : decode cX6_three 10 = .ok (.iload_n 1, 1) := by decide +kernel
theorem dX6_three_11 : decode cX6_three 11 = .ok (.iconst 2, 1) := by decide +kernel
theorem dX6_three_12 : decode cX6_three 12 = .ok (.iconst 1, 1) := by decide +kernel
theorem dX6_three_13 : decode cX6_three 13 = .ok (.invokevirtual 185, 3) := by decide +kernel
theorem dX6_three_16 : decode cX6_three 16 = .ok (.istore 6, 2) := by decide +kernel
theorem dX6_three_18 : decode cX6_three 18 = .ok (.aload_n 0, 1) := by decide +kernel
theorem dX6_three_19 : decode cX6_three 19 = .ok (.iload_n 1, 1) := by decide +kernel
theorem dX6_three_20 : decode cX6_three 20 = .ok (.iconst 2, 1) := by decide +kernel
theorem dX6_three_21 : decode cX6_three 21 = .ok (.iconst 2, 1) := by decide +kernel
theorem dX6_three_22 : decode cX6_three 22 = .ok (.invokevirtual 185, 3) := by decide +kernel
theorem dX6_three_25 : decode cX6_three 25 = .ok (.istore 7, 2) := by decide +kernel
theorem dX6_three_27 : decode cX6_three 27 = .ok (.aload_n 0, 1) := by decide +kernel
theorem dX6_three_28 : decode cX6_three 28 = .ok (.iload_n 1, 1) := by decide +kernel
theorem dX6_three_29 : decode cX6_three 29 = .ok (.iconst 2, 1) := by decide +kernel
theorem dX6_three_30 : decode cX6_three 30 = .ok (.iconst 3, 1) := by decide +kernel
theorem dX6_three_31 : decode cX6_three 31 = .ok (.invokevirtual 185, 3) := by decide +kernel
theorem dX6_three_34 : decode cX6_three 34 = .ok (.istore 8, 2) := by decide +kernel
theorem dX6_three_36 : decode cX6_three 36 = .ok (.aload_n 0, 1) := by decide +kernel
theorem dX6_three_37 : decode cX6_three 37 = .ok (.getfield 128, 3) := by decide +kernel
theorem dX6_three_40 : decode cX6_three 40 = .ok (.iload_n 1, 1) := by decide +kernel
theorem dX6_three_41 : decode cX6_three 41 = .ok (.iaload, 1) := by decide +kernel
theorem dX6_three_42 : decode cX6_three 42 = .ok (.bipush 10, 2) := by decide +kernel
theorem dX6_three_44 : decode cX6_three 44 = .ok (.if_icmp .ne 45, 3) := by decide +kernel
theorem dX6_three_47 : decode cX6_three 47 = .ok (.aload_n 0, 1) := by decide +kernel
theorem dX6_three_48 : decode cX6_three 48 = .ok (.iload_n 1, 1) := by decide +kernel
theorem dX6_three_49 : decode cX6_three 49 = .ok (.iconst 0, 1) := by decide +kernel
theorem dX6_three_50 : decode cX6_three 50 = .ok (.bipush 6, 2) := by decide +kernel
theorem dX6_three_52 : decode cX6_three 52 = .ok (.invokevirtual 204, 3) := by decide +kernel
theorem dX6_three_55 : decode cX6_three 55 = .ok (.ifCond .eq 34, 3) := by decide +kernel
theorem dX6_three_58 : decode cX6_three 58 = .ok (.iload_n 3, 1) := by decide +kernel
theorem dX6_three_59 : decode cX6_three 59 = .ok (.iload 5, 2) := by decide +kernel
theorem dX6_three_61 : decode cX6_three 61 = .ok (.if_icmp .ne 28, 3) := by decide +kernel
theorem dX6_three_64 : decode cX6_three 64 = .ok (.iload 7, 2) := by decide +kernel
theorem dX6_three_66 : decode cX6_three 66 = .ok (.iload 5, 2) := by decide +kernel
theorem dX6_three_68 : decode cX6_three 68 = .ok (.if_icmp .ne 21, 3) := by decide +kernel
theorem dX6_three_71 : decode cX6_three 71 = .ok (.iload 4, 2) := by decide +kernel
theorem dX6_three_73 : decode cX6_three 73 = .ok (.iload 6, 2) := by decide +kernel
theorem dX6_three_75 : decode cX6_three 75 = .ok (.if_icmp .ne 14, 3) := by decide +kernel
theorem dX6_three_78 : decode cX6_three 78 = .ok (.aload_n 0, 1) := by decide +kernel
theorem dX6_three_79 : decode cX6_three 79 = .ok (.iload_n 1, 1) := by decide +kernel
theorem dX6_three_80 : decode cX6_three 80 = .ok (.bipush 11, 2) := by decide +kernel
theorem dX6_three_82 : decode cX6_three 82 = .ok (.iload_n 2, 1) := by decide +kernel
theorem dX6_three_83 : decode cX6_three 83 = .ok (.iload_n 3, 1) := by decide +kernel
theorem dX6_three_84 : decode cX6_three 84 = .ok (.iload 8, 2) := by decide +kernel
theorem dX6_three_86 : decode cX6_three 86 = .ok (.invokevirtual 189, 3) := by decide +kernel
theorem dX6_three_89 : decode cX6_three 89 = .ok (.aload_n 0, 1) := by decide +kernel
theorem dX6_three_90 : decode cX6_three 90 = .ok (.getfield 128, 3) := by decide +kernel
theorem dX6_three_93 : decode cX6_three 93 = .ok (.iload_n 1, 1) := by decide +kernel
theorem dX6_three_94 : decode cX6_three 94 = .ok (.iaload, 1) := by decide +kernel
theorem dX6_three_95 : decode cX6_three 95 = .ok (.bipush 14, 2) := by decide +kernel
theorem dX6_three_97 : decode cX6_three 97 = .ok (.if_icmp .ne 45, 3) := by decide +kernel
theorem dX6_three_100 : decode cX6_three 100 = .ok (.aload_n 0, 1) := by decide +kernel
theorem dX6_three_101 : decode cX6_three 101 = .ok (.iload_n 1, 1) := by decide +kernel
theorem dX6_three_102 : decode cX6_three 102 = .ok (.iconst 0, 1) := by decide +kernel
theorem dX6_three_103 : decode cX6_three 103 = .ok (.bipush 9, 2) := by decide +kernel
theorem dX6_three_105 : decode cX6_three 105 = .ok (.invokevirtual 204, 3) := by decide +kernel
theorem dX6_three_108 : decode cX6_three 108 = .ok (.ifCond .eq 34, 3) := by decide +kernel
theorem dX6_three_111 : decode cX6_three 111 = .ok (.iload_n 3, 1) := by decide +kernel
theorem dX6_three_112 : decode cX6_three 112 = .ok (.iload 5, 2) := by decide +kernel
theorem dX6_three_114 : decode cX6_three 114 = .ok (.if_icmp .ne 28, 3) := by decide +kernel
theorem dX6_three_117 : decode cX6_three 117 = .ok (.iload 7, 2) := by decide +kernel
theorem dX6_three_119 : decode cX6_three 119 = .ok (.iload 5, 2) := by decide +kernel
theorem dX6_three_121 : decode cX6_three 121 = .ok (.if_icmp .ne 21, 3) := by decide +kernel
theorem dX6_three_124 : decode cX6_three 124 = .ok (.iload_n 2, 1) := by decide +kernel
theorem dX6_three_125 : decode cX6_three 125 = .ok (.iload 6, 2) := by decide +kernel
theorem dX6_three_127 : decode cX6_three 127 = .ok (.if_icmp .ne 15, 3) := by decide +kernel
theorem dX6_three_130 : decode cX6_three 130 = .ok (.aload_n 0, 1) := by decide +kernel
theorem dX6_three_131 : decode cX6_three 131 = .ok (.iload_n 1, 1) := by decide +kernel
theorem dX6_three_132 : decode cX6_three 132 = .ok (.bipush 11, 2) := by decide +kernel
theorem dX6_three_134 : decode cX6_three 134 = .ok (.iload 4, 2) := by decide +kernel
theorem dX6_three_136 : decode cX6_three 136 = .ok (.iconst 1, 1) := by decide +kernel
theorem dX6_three_137 : decode cX6_three 137 = .ok (.iload 8, 2) := by decide +kernel
theorem dX6_three_139 : decode cX6_three 139 = .ok (.invokevirtual 189, 3) := by decide +kernel
theorem dX6_three_142 : decode cX6_three 142 = .ok (.aload_n 0, 1) := by decide +kernel
theorem dX6_three_143 : decode cX6_three 143 = .ok (.getfield 128, 3) := by decide +kernel
theorem dX6_three_146 : decode cX6_three 146 = .ok (.iload_n 1, 1) := by decide +kernel
theorem dX6_three_147 : decode cX6_three 147 = .ok (.iaload, 1) := by decide +kernel
theorem dX6_three_148 : decode cX6_three 148 = .ok (.bipush 15, 2) := by decide +kernel
theorem dX6_three_150 : decode cX6_three 150 = .ok (.if_icmp .ne 57, 3) := by decide +kernel
theorem dX6_three_153 : decode cX6_three 153 = .ok (.aload_n 0, 1) := by decide +kernel
theorem dX6_three_154 : decode cX6_three 154 = .ok (.iload_n 1, 1) := by decide +kernel
theorem dX6_three_155 : decode cX6_three 155 = .ok (.iconst 0, 1) := by decide +kernel
theorem dX6_three_156 : decode cX6_three 156 = .ok (.iconst 5, 1) := by decide +kernel
theorem dX6_three_157 : decode cX6_three 157 = .ok (.invokevirtual 204, 3) := by decide +kernel
theorem dX6_three_160 : decode cX6_three 160 = .ok (.ifCond .eq 47, 3) := by decide +kernel
theorem dX6_three_163 : decode cX6_three 163 = .ok (.iload_n 3, 1) := by decide +kernel
theorem dX6_three_164 : decode cX6_three 164 = .ok (.ifCond .ne 43, 3) := by decide +kernel
theorem dX6_three_167 : decode cX6_three 167 = .ok (.iload 7, 2) := by decide +kernel
theorem dX6_three_169 : decode cX6_three 169 = .ok (.ifCond .ne 38, 3) := by decide +kernel
theorem dX6_three_172 : decode cX6_three 172 = .ok (.iload 4, 2) := by decide +kernel
theorem dX6_three_174 : decode cX6_three 174 = .ok (.iload 5, 2) := by decide +kernel
theorem dX6_three_176 : decode cX6_three 176 = .ok (.if_icmp .ne 31, 3) := by decide +kernel
theorem dX6_three_179 : decode cX6_three 179 = .ok (.iload 8, 2) := by decide +kernel
theorem dX6_three_181 : decode cX6_three 181 = .ok (.aload_n 0, 1) := by decide +kernel
theorem dX6_three_182 : decode cX6_three 182 = .ok (.iload_n 1, 1) := by decide +kernel
theorem dX6_three_183 : decode cX6_three 183 = .ok (.iconst 0, 1) := by decide +kernel
theorem dX6_three_184 : decode cX6_three 184 = .ok (.iconst 2, 1) := by decide +kernel
theorem dX6_three_185 : decode cX6_three 185 = .ok (.invokevirtual 185, 3) := by decide +kernel
theorem dX6_three_188 : decode cX6_three 188 = .ok (.if_icmp .ne 19, 3) := by decide +kernel
theorem dX6_three_191 : decode cX6_three 191 = .ok (.iload_n 2, 1) := by decide +kernel
theorem dX6_three_192 : decode cX6_three 192 = .ok (.iload 6, 2) := by decide +kernel
theorem dX6_three_194 : decode cX6_three 194 = .ok (.if_icmp .ne 13, 3) := by decide +kernel
theorem dX6_three_197 : decode cX6_three 197 = .ok (.aload_n 0, 1) := by decide +kernel
theorem dX6_three_198 : decode cX6_three 198 = .ok (.iload_n 1, 1) := by decide +kernel
theorem dX6_three_199 : decode cX6_three 199 = .ok (.bipush 12, 2) := by decide +kernel
theorem dX6_three_201 : decode cX6_three 201 = .ok (.iconst 0, 1) := by decide +kernel
theorem dX6_three_202 : decode cX6_three 202 = .ok (.iconst 0, 1) := by decide +kernel
theorem dX6_three_203 : decode cX6_three 203 = .ok (.iconst 0, 1) := by decide +kernel
theorem dX6_three_204 : decode cX6_three 204 = .ok (.invokevirtual 189, 3) := by decide +kernel
theorem dX6_three_207 : decode cX6_three 207 = .ok (.return_, 1) := by decide +kernel
theorem dX6_mark_0 : decode cX6_mark 0 = .ok (.iconst 1, 1) := by decide +kernel
theorem dX6_mark_1 : decode cX6_mark 1 = .ok (.istore_n 2, 1) := by decide +kernel
theorem dX6_mark_2 : decode cX6_mark 2 = .ok (.iload_n 2, 1) := by decide +kernel
theorem dX6_mark_3 : decode cX6_mark 3 = .ok (.aload_n 0, 1) := by decide +kernel
theorem dX6_mark_4 : decode cX6_mark 4 = .ok (.getfield 167, 3) := by decide +kernel
theorem dX6_mark_7 : decode cX6_mark 7 = .ok (.if_icmp .gt 25, 3) := by decide +kernel
theorem dX6_mark_10 : decode cX6_mark 10 = .ok (.aload_n 0, 1) := by decide +kernel
theorem dX6_mark_11 : decode cX6_mark 11 = .ok (.getfield 143, 3) := by decide +kernel
theorem dX6_mark_14 : decode cX6_mark 14 = .ok (.iload_n 2, 1) := by decide +kernel
theorem dX6_mark_15 : decode cX6_mark 15 = .ok (.iload_n 2, 1) := by decide +kernel
theorem dX6_mark_16 : decode cX6_mark 16 = .ok (.iload_n 1, 1) := by decide +kernel
theorem dX6_mark_17 : decode cX6_mark 17 = .ok (.if_icmp .ne 7, 3) := by decide +kernel
theorem dX6_mark_20 : decode cX6_mark 20 = .ok (.iconst 1, 1) := by decide +kernel
theorem dX6_mark_21 : decode cX6_mark 21 = .ok (.goto 4, 3) := by decide +kernel
theorem dX6_mark_24 : decode cX6_mark 24 = .ok (.iconst 0, 1) := by decide +kernel
theorem dX6_mark_25 : decode cX6_mark 25 = .ok (.bastore, 1) := by decide +kernel
theorem dX6_mark_26 : decode cX6_mark 26 = .ok (.iinc 2 1, 3) := by decide +kernel
theorem dX6_mark_29 : decode cX6_mark 29 = .ok (.goto (-27), 3) := by decide +kernel
theorem dX6_mark_32 : decode cX6_mark 32 = .ok (.iconst 0, 1) := by decide +kernel
theorem dX6_mark_33 : decode cX6_mark 33 = .ok (.istore_n 2, 1) := by decide +kernel
theorem dX6_mark_34 : decode cX6_mark 34 = .ok (.iload_n 1, 1) := by decide +kernel
theorem dX6_mark_35 : decode cX6_mark 35 = .ok (.istore_n 3, 1) := by decide +kernel
theorem dX6_mark_36 : decode cX6_mark 36 = .ok (.iload_n 3, 1) := by decide +kernel
theorem dX6_mark_37 : decode cX6_mark 37 = .ok (.ifCond .le 61, 3) := by decide +kernel
theorem dX6_mark_40 : decode cX6_mark 40 = .ok (.aload_n 0, 1) := by decide +kernel
theorem dX6_mark_41 : decode cX6_mark 41 = .ok (.getfield 143, 3) := by decide +kernel
theorem dX6_mark_44 : decode cX6_mark 44 = .ok (.iload_n 3, 1) := by decide +kernel
theorem dX6_mark_45 : decode cX6_mark 45 = .ok (.baload, 1) := by decide +kernel
theorem dX6_mark_46 : decode cX6_mark 46 = .ok (.ifCond .ne 6, 3) := by decide +kernel
theorem dX6_mark_49 : decode cX6_mark 49 = .ok (.goto 43, 3) := by decide +kernel
theorem dX6_mark_52 : decode cX6_mark 52 = .ok (.iinc 2 1, 3) := by decide +kernel
theorem dX6_mark_55 : decode cX6_mark 55 = .ok (.iconst 0, 1) := by decide +kernel
theorem dX6_mark_56 : decode cX6_mark 56 = .ok (.istore 4, 2) := by decide +kernel
theorem dX6_mark_58 : decode cX6_mark 58 = .ok (.iload 4, 2) := by decide +kernel
theorem dX6_mark_60 : decode cX6_mark 60 = .ok (.aload_n 0, 1) := by decide +kernel
theorem dX6_mark_61 : decode cX6_mark 61 = .ok (.getfield 134, 3) := by decide +kernel
theorem dX6_mark_64 : decode cX6_mark 64 = .ok (.iload_n 3, 1) := by decide +kernel
theorem dX6_mark_65 : decode cX6_mark 65 = .ok (.iaload, 1) := by decide +kernel
theorem dX6_mark_66 : decode cX6_mark 66 = .ok (.if_icmp .ge 26, 3) := by decide +kernel
theorem dX6_mark_69 : decode cX6_mark 69 = .ok (.aload_n 0, 1) := by decide +kernel
theorem dX6_mark_70 : decode cX6_mark 70 = .ok (.getfield 143, 3) := by decide +kernel
theorem dX6_mark_73 : decode cX6_mark 73 = .ok (.aload_n 0, 1) := by decide +kernel
theorem dX6_mark_74 : decode cX6_mark 74 = .ok (.getfield 137, 3) := by decide +kernel
theorem dX6_mark_77 : decode cX6_mark 77 = .ok (.iconst 3, 1) := by decide +kernel
theorem dX6_mark_78 : decode cX6_mark 78 = .ok (.iload_n 3, 1) := by decide +kernel
theorem dX6_mark_79 : decode cX6_mark 79 = .ok (.imul, 1) := by decide +kernel
theorem dX6_mark_80 : decode cX6_mark 80 = .ok (.iload 4, 2) := by decide +kernel
theorem dX6_mark_82 : decode cX6_mark 82 = .ok (.iadd, 1) := by decide +kernel
theorem dX6_mark_83 : decode cX6_mark 83 = .ok (.iaload, 1) := by decide +kernel
theorem dX6_mark_84 : decode cX6_mark 84 = .ok (.iconst 1, 1) := by decide +kernel
theorem dX6_mark_85 : decode cX6_mark 85 = .ok (.bastore, 1) := by decide +kernel
theorem dX6_mark_86 : decode cX6_mark 86 = .ok (.iinc 4 1, 3) := by decide +kernel
theorem dX6_mark_89 : decode cX6_mark 89 = .ok (.goto (-31), 3) := by decide +kernel
theorem dX6_mark_92 : decode cX6_mark 92 = .ok (.iinc 3 (-1), 3) := by decide +kernel
theorem dX6_mark_95 : decode cX6_mark 95 = .ok (.goto (-59), 3) := by decide +kernel
theorem dX6_mark_98 : decode cX6_mark 98 = .ok (.iload_n 2, 1) := by decide +kernel
theorem dX6_mark_99 : decode cX6_mark 99 = .ok (.ireturn, 1) := by decide +kernel
set_option maxRecDepth 20000 in
theorem ggX6_check_X6_isRow : GoodIn wsX6_check wsX6_isRow := goodIn_r _ [8, 9, 59, 60, 61, 62, 63, 64, 65, 66, 67, 68, 69, 70, 71, 72, 73, 74, 75] (by decide +kernel) (by decide +kernel)
set_option maxRecDepth 20000 in
theorem gX6_check_X6_isRow : GoodIn wsX6_check (wsV RX6 174 RX6 yX6_isRow wsX6_isRow) := goodIn_app (goodIn_of _ (by decide +kernel)) ggX6_check_X6_isRow
set_option maxRecDepth 20000 in
theorem ggX6_check_X6_mark : GoodIn wsX6_check wsX6_mark := goodIn_r _ [13, 9, 2, 3, 14, 59, 60, 61, 62, 63, 64, 65, 66, 67, 68, 69, 70, 71, 72, 73, 74, 75] (by decide +kernel) (by decide +kernel)
set_option maxRecDepth 20000 in
theorem gX6_check_X6_mark : GoodIn wsX6_check (wsV RX6 212 RX6 yX6_mark wsX6_mark) := goodIn_app (goodIn_of _ (by decide +kernel)) ggX6_check_X6_mark
set_option maxRecDepth 20000 in
theorem ggX6_check_X6_work : GoodIn wsX6_check wsX6_work := goodIn_r _ [18, 3, 19, 20, 21, 22, 7, 23, 24, 25, 26, 27, 28, 29, 30, 31, 14, 32, 33, 34, 35, 36, 37, 38, 39, 40, 41, 42, 43, 44, 45, 46, 47, 48, 49, 50, 51, 52, 53, 54, 59, 60, 61, 62, 63, 64, 65, 66, 67, 68, 69, 70, 71, 72, 73, 74, 75] (by decide +kernel) (by decide +kernel)
set_option maxRecDepth 20000 in
theorem gX6_check_X6_work : GoodIn wsX6_check (wsV RX6 215 RX6 yX6_work wsX6_work) := goodIn_app (goodIn_of _ (by decide +kernel)) ggX6_check_X6_work
set_option maxRecDepth 20000 in
theorem ggX6_check_X6_kindOf : GoodIn wsX6_check wsX6_kindOf := goodIn_r _ [58, 24, 59, 60, 61, 62, 63, 64, 65, 66, 67, 68, 69, 70, 71, 72, 73, 74, 75] (by decide +kernel) (by decide +kernel)
set_option maxRecDepth 20000 in
theorem gX6_check_X6_kindOf : GoodIn wsX6_check (wsV RX6 221 RX6 yX6_kindOf wsX6_kindOf) := goodIn_app (goodIn_of _ (by decide +kernel)) ggX6_check_X6_kindOf
set_option maxRecDepth 20000 in
theorem ggX6_check_X6_of : GoodIn wsX6_check wsX6_of := goodIn_r _ [31, 24, 14, 59, 60, 61, 62, 63, 64, 65, 66, 67, 68, 69, 70, 71, 72, 73, 74, 75] (by decide +kernel) (by decide +kernel)
set_option maxRecDepth 20000 in
theorem gX6_check_X6_of : GoodIn wsX6_check (wsV RX6 185 RX6 yX6_of wsX6_of) := goodIn_app (goodIn_of _ (by decide +kernel)) ggX6_check_X6_of
theorem dX6_check_0 : decode cX6_check 0 = .ok (.aload_n 0, 1) := by decide +kernel
theorem dX6_check_1 : decode cX6_check 1 = .ok (.iload_n 1, 1) := by decide +kernel
theorem dX6_check_2 : decode cX6_check 2 = .ok (.invokevirtual 174, 3) := by decide +kernel
theorem dX6_check_5 : decode cX6_check 5 = .ok (.ifCond .ne 5, 3) := by decide +kernel
theorem dX6_check_8 : decode cX6_check 8 = .ok (.iconst (-1), 1) := by decide +kernel
theorem dX6_check_9 : decode cX6_check 9 = .ok (.ireturn, 1) := by decide +kernel
theorem dX6_check_10 : decode cX6_check 10 = .ok (.aload_n 0, 1) := by decide +kernel
theorem dX6_check_11 : decode cX6_check 11 = .ok (.iload_n 1, 1) := by decide +kernel
theorem dX6_check_12 : decode cX6_check 12 = .ok (.invokevirtual 212, 3) := by decide +kernel
theorem dX6_check_15 : decode cX6_check 15 = .ok (.pop, 1) := by decide +kernel
theorem dX6_check_16 : decode cX6_check 16 = .ok (.aload_n 0, 1) := by decide +kernel
theorem dX6_check_17 : decode cX6_check 17 = .ok (.iload_n 1, 1) := by decide +kernel
theorem dX6_check_18 : decode cX6_check 18 = .ok (.invokevirtual 215, 3) := by decide +kernel
theorem dX6_check_21 : decode cX6_check 21 = .ok (.aload_n 0, 1) := by decide +kernel
theorem dX6_check_22 : decode cX6_check 22 = .ok (.iconst 0, 1) := by decide +kernel
theorem dX6_check_23 : decode cX6_check 23 = .ok (.putfield 218, 3) := by decide +kernel
theorem dX6_check_26 : decode cX6_check 26 = .ok (.iload_n 1, 1) := by decide +kernel
theorem dX6_check_27 : decode cX6_check 27 = .ok (.istore_n 2, 1) := by decide +kernel
theorem dX6_check_28 : decode cX6_check 28 = .ok (.iload_n 2, 1) := by decide +kernel
theorem dX6_check_29 : decode cX6_check 29 = .ok (.ifCond .le 82, 3) := by decide +kernel
theorem dX6_check_32 : decode cX6_check 32 = .ok (.aload_n 0, 1) := by decide +kernel
theorem dX6_check_33 : decode cX6_check 33 = .ok (.getfield 143, 3) := by decide +kernel
theorem dX6_check_36 : decode cX6_check 36 = .ok (.iload_n 2, 1) := by decide +kernel
theorem dX6_check_37 : decode cX6_check 37 = .ok (.baload, 1) := by decide +kernel
theorem dX6_check_38 : decode cX6_check 38 = .ok (.ifCond .eq 15, 3) := by decide +kernel
theorem dX6_check_41 : decode cX6_check 41 = .ok (.aload_n 0, 1) := by decide +kernel
theorem dX6_check_42 : decode cX6_check 42 = .ok (.iload_n 2, 1) := by decide +kernel
theorem dX6_check_43 : decode cX6_check 43 = .ok (.invokevirtual 221, 3) := by decide +kernel
theorem dX6_check_46 : decode cX6_check 46 = .ok (.ifCond .ne 7, 3) := by decide +kernel
theorem dX6_check_49 : decode cX6_check 49 = .ok (.iconst 1, 1) := by decide +kernel
theorem dX6_check_50 : decode cX6_check 50 = .ok (.goto 4, 3) := by decide +kernel
theorem dX6_check_53 : decode cX6_check 53 = .ok (.iconst 0, 1) := by decide +kernel
theorem dX6_check_54 : decode cX6_check 54 = .ok (.istore_n 3, 1) := by decide +kernel
theorem dX6_check_55 : decode cX6_check 55 = .ok (.iconst 0, 1) := by decide +kernel
theorem dX6_check_56 : decode cX6_check 56 = .ok (.istore 4, 2) := by decide +kernel
theorem dX6_check_58 : decode cX6_check 58 = .ok (.iload 4, 2) := by decide +kernel
theorem dX6_check_60 : decode cX6_check 60 = .ok (.aload_n 0, 1) := by decide +kernel
theorem dX6_check_61 : decode cX6_check 61 = .ok (.getfield 134, 3) := by decide +kernel
theorem dX6_check_64 : decode cX6_check 64 = .ok (.iload_n 2, 1) := by decide +kernel
theorem dX6_check_65 : decode cX6_check 65 = .ok (.iaload, 1) := by decide +kernel
theorem dX6_check_66 : decode cX6_check 66 = .ok (.if_icmp .ge 30, 3) := by decide +kernel
theorem dX6_check_69 : decode cX6_check 69 = .ok (.iload_n 3, 1) := by decide +kernel
theorem dX6_check_70 : decode cX6_check 70 = .ok (.ifCond .eq 18, 3) := by decide +kernel
theorem dX6_check_73 : decode cX6_check 73 = .ok (.aload_n 0, 1) := by decide +kernel
theorem dX6_check_74 : decode cX6_check 74 = .ok (.iload_n 2, 1) := by decide +kernel
theorem dX6_check_75 : decode cX6_check 75 = .ok (.iload 4, 2) := by decide +kernel
theorem dX6_check_77 : decode cX6_check 77 = .ok (.iconst 0, 1) := by decide +kernel
theorem dX6_check_78 : decode cX6_check 78 = .ok (.invokevirtual 185, 3) := by decide +kernel
theorem dX6_check_81 : decode cX6_check 81 = .ok (.ifCond .eq 7, 3) := by decide +kernel
theorem dX6_check_84 : decode cX6_check 84 = .ok (.iconst 1, 1) := by decide +kernel
theorem dX6_check_85 : decode cX6_check 85 = .ok (.goto 4, 3) := by decide +kernel
theorem dX6_check_88 : decode cX6_check 88 = .ok (.iconst 0, 1) := by decide +kernel
theorem dX6_check_89 : decode cX6_check 89 = .ok (.istore_n 3, 1) := by decide +kernel
theorem dX6_check_90 : decode cX6_check 90 = .ok (.iinc 4 1, 3) := by decide +kernel
theorem dX6_check_93 : decode cX6_check 93 = .ok (.goto (-35), 3) := by decide +kernel
theorem dX6_check_96 : decode cX6_check 96 = .ok (.iload_n 3, 1) := by decide +kernel
theorem dX6_check_97 : decode cX6_check 97 = .ok (.ifCond .eq 8, 3) := by decide +kernel
theorem dX6_check_100 : decode cX6_check 100 = .ok (.aload_n 0, 1) := by decide +kernel
theorem dX6_check_101 : decode cX6_check 101 = .ok (.iload_n 2, 1) := by decide +kernel
theorem dX6_check_102 : decode cX6_check 102 = .ok (.putfield 218, 3) := by decide +kernel
theorem dX6_check_105 : decode cX6_check 105 = .ok (.iinc 2 (-1), 3) := by decide +kernel
theorem dX6_check_108 : decode cX6_check 108 = .ok (.goto (-80), 3) := by decide +kernel
theorem dX6_check_111 : decode cX6_check 111 = .ok (.aload_n 0, 1) := by decide +kernel
theorem dX6_check_112 : decode cX6_check 112 = .ok (.iload_n 1, 1) := by decide +kernel
theorem dX6_check_113 : decode cX6_check 113 = .ok (.invokevirtual 221, 3) := by decide +kernel
theorem dX6_check_116 : decode cX6_check 116 = .ok (.ifCond .eq 7, 3) := by decide +kernel
theorem dX6_check_119 : decode cX6_check 119 = .ok (.iconst 1, 1) := by decide +kernel
theorem dX6_check_120 : decode cX6_check 120 = .ok (.goto 4, 3) := by decide +kernel
theorem dX6_check_123 : decode cX6_check 123 = .ok (.iconst 0, 1) := by decide +kernel
theorem dX6_check_124 : decode cX6_check 124 = .ok (.ireturn, 1) := by decide +kernel
theorem dX6_broken_0 : decode cX6_broken 0 = .ok (.aload_n 0, 1) := by decide +kernel
theorem dX6_broken_1 : decode cX6_broken 1 = .ok (.getfield 218, 3) := by decide +kernel
theorem dX6_broken_4 : decode cX6_broken 4 = .ok (.ireturn, 1) := by decide +kernel
set_option maxRecDepth 20000 in
theorem ggX6_rows_X6_isRow : GoodIn wsX6_rows wsX6_isRow := goodIn_r _ [5, 6, 14, 15, 16, 17, 18, 19, 20, 21, 22, 23, 24, 25, 26, 27, 28, 29, 30] (by decide +kernel) (by decide +kernel)
set_option maxRecDepth 20000 in
theorem gX6_rows_X6_isRow : GoodIn wsX6_rows (wsV RX6 174 RX6 yX6_isRow wsX6_isRow) := goodIn_app (goodIn_of _ (by decide +kernel)) ggX6_rows_X6_isRow
set_option maxRecDepth 20000 in
theorem ggX6_rows_X6_mark : GoodIn wsX6_rows wsX6_mark := goodIn_r _ [10, 6, 11, 12, 13, 14, 15, 16, 17, 18, 19, 20, 21, 22, 23, 24, 25, 26, 27, 28, 29, 30] (by decide +kernel) (by decide +kernel)
set_option maxRecDepth 20000 in
theorem gX6_rows_X6_mark : GoodIn wsX6_rows (wsV RX6 212 RX6 yX6_mark wsX6_mark) := goodIn_app (goodIn_of _ (by decide +kernel)) ggX6_rows_X6_mark
theorem dX6_rows_0 : decode cX6_rows 0 = .ok (.aload_n 0, 1) := by decide +kernel
theorem dX6_rows_1 : decode cX6_rows 1 = .ok (.iload_n 1, 1) := by decide +kernel
theorem dX6_rows_2 : decode cX6_rows 2 = .ok (.invokevirtual 174, 3) := by decide +kernel
theorem dX6_rows_5 : decode cX6_rows 5 = .ok (.ifCond .eq 11, 3) := by decide +kernel
theorem dX6_rows_8 : decode cX6_rows 8 = .ok (.aload_n 0, 1) := by decide +kernel
theorem dX6_rows_9 : decode cX6_rows 9 = .ok (.iload_n 1, 1) := by decide +kernel
theorem dX6_rows_10 : decode cX6_rows 10 = .ok (.invokevirtual 212, 3) := by decide +kernel
theorem dX6_rows_13 : decode cX6_rows 13 = .ok (.goto 4, 3) := by decide +kernel
theorem dX6_rows_16 : decode cX6_rows 16 = .ok (.iconst (-1), 1) := by decide +kernel
theorem dX6_rows_17 : decode cX6_rows 17 = .ok (.ireturn, 1) := by decide +kernel
set_option maxRecDepth 20000 in
theorem ggX6_size_X6_isRow : GoodIn wsX6_size wsX6_isRow := goodIn_r _ [10, 11, 12, 13, 14, 15, 16, 17, 18, 19, 20, 21, 22, 23, 24, 25, 26, 27, 28] (by decide +kernel) (by decide +kernel)
set_option maxRecDepth 20000 in
theorem gX6_size_X6_isRow : GoodIn wsX6_size (wsV RX6 174 RX6 yX6_isRow wsX6_isRow) := goodIn_app (goodIn_of _ (by decide +kernel)) ggX6_size_X6_isRow
theorem dX6_size_0 : decode cX6_size 0 = .ok (.aload_n 0, 1) := by decide +kernel
theorem dX6_size_1 : decode cX6_size 1 = .ok (.iload_n 1, 1) := by decide +kernel
theorem dX6_size_2 : decode cX6_size 2 = .ok (.invokevirtual 174, 3) := by decide +kernel
theorem dX6_size_5 : decode cX6_size 5 = .ok (.ifCond .ne 5, 3) := by decide +kernel
theorem dX6_size_8 : decode cX6_size 8 = .ok (.iconst (-1), 1) := by decide +kernel
theorem dX6_size_9 : decode cX6_size 9 = .ok (.ireturn, 1) := by decide +kernel
theorem dX6_size_10 : decode cX6_size 10 = .ok (.iconst 1, 1) := by decide +kernel
theorem dX6_size_11 : decode cX6_size 11 = .ok (.istore_n 2, 1) := by decide +kernel
theorem dX6_size_12 : decode cX6_size 12 = .ok (.iload_n 2, 1) := by decide +kernel
theorem dX6_size_13 : decode cX6_size 13 = .ok (.iload_n 1, 1) := by decide +kernel
theorem dX6_size_14 : decode cX6_size 14 = .ok (.if_icmp .gt 72, 3) := by decide +kernel
theorem dX6_size_17 : decode cX6_size 17 = .ok (.lconst 1, 1) := by decide +kernel
theorem dX6_size_18 : decode cX6_size 18 = .ok (.lstore_n 3, 1) := by decide +kernel
theorem dX6_size_19 : decode cX6_size 19 = .ok (.iconst 0, 1) := by decide +kernel
theorem dX6_size_20 : decode cX6_size 20 = .ok (.istore 5, 2) := by decide +kernel
theorem dX6_size_22 : decode cX6_size 22 = .ok (.iload 5, 2) := by decide +kernel
theorem dX6_size_24 : decode cX6_size 24 = .ok (.aload_n 0, 1) := by decide +kernel
theorem dX6_size_25 : decode cX6_size 25 = .ok (.getfield 134, 3) := by decide +kernel
theorem dX6_size_28 : decode cX6_size 28 = .ok (.iload_n 2, 1) := by decide +kernel
theorem dX6_size_29 : decode cX6_size 29 = .ok (.iaload, 1) := by decide +kernel
theorem dX6_size_30 : decode cX6_size 30 = .ok (.if_icmp .ge 29, 3) := by decide +kernel
theorem dX6_size_33 : decode cX6_size 33 = .ok (.lload_n 3, 1) := by decide +kernel
theorem dX6_size_34 : decode cX6_size 34 = .ok (.aload_n 0, 1) := by decide +kernel
theorem dX6_size_35 : decode cX6_size 35 = .ok (.getfield 150, 3) := by decide +kernel
theorem dX6_size_38 : decode cX6_size 38 = .ok (.aload_n 0, 1) := by decide +kernel
theorem dX6_size_39 : decode cX6_size 39 = .ok (.getfield 137, 3) := by decide +kernel
theorem dX6_size_42 : decode cX6_size 42 = .ok (.iconst 3, 1) := by decide +kernel
theorem dX6_size_43 : decode cX6_size 43 = .ok (.iload_n 2, 1) := by decide +kernel
theorem dX6_size_44 : decode cX6_size 44 = .ok (.imul, 1) := by decide +kernel
theorem dX6_size_45 : decode cX6_size 45 = .ok (.iload 5, 2) := by decide +kernel
theorem dX6_size_47 : decode cX6_size 47 = .ok (.iadd, 1) := by decide +kernel
theorem dX6_size_48 : decode cX6_size 48 = .ok (.iaload, 1) := by decide +kernel
theorem dX6_size_49 : decode cX6_size 49 = .ok (.iaload, 1) := by decide +kernel
theorem dX6_size_50 : decode cX6_size 50 = .ok (.i2l, 1) := by decide +kernel
theorem dX6_size_51 : decode cX6_size 51 = .ok (.ladd, 1) := by decide +kernel
theorem dX6_size_52 : decode cX6_size 52 = .ok (.lstore_n 3, 1) := by decide +kernel
theorem dX6_size_53 : decode cX6_size 53 = .ok (.iinc 5 1, 3) := by decide +kernel
theorem dX6_size_56 : decode cX6_size 56 = .ok (.goto (-34), 3) := by decide +kernel
theorem dX6_size_59 : decode cX6_size 59 = .ok (.aload_n 0, 1) := by decide +kernel
theorem dX6_size_60 : decode cX6_size 60 = .ok (.getfield 150, 3) := by decide +kernel
theorem dX6_size_63 : decode cX6_size 63 = .ok (.iload_n 2, 1) := by decide +kernel
theorem dX6_size_64 : decode cX6_size 64 = .ok (.lload_n 3, 1) := by decide +kernel
theorem dX6_size_65 : decode cX6_size 65 = .ok (.ldc2_w 224, 3) := by decide +kernel
theorem dX6_size_68 : decode cX6_size 68 = .ok (.lcmp, 1) := by decide +kernel
theorem dX6_size_69 : decode cX6_size 69 = .ok (.ifCond .le 8, 3) := by decide +kernel
theorem dX6_size_72 : decode cX6_size 72 = .ok (.ldc 226, 2) := by decide +kernel
theorem dX6_size_74 : decode cX6_size 74 = .ok (.goto 5, 3) := by decide +kernel
theorem dX6_size_77 : decode cX6_size 77 = .ok (.lload_n 3, 1) := by decide +kernel
theorem dX6_size_78 : decode cX6_size 78 = .ok (.l2i, 1) := by decide +kernel
theorem dX6_size_79 : decode cX6_size 79 = .ok (.iastore, 1) := by decide +kernel
theorem dX6_size_80 : decode cX6_size 80 = .ok (.iinc 2 1, 3) := by decide +kernel
theorem dX6_size_83 : decode cX6_size 83 = .ok (.goto (-71), 3) := by decide +kernel
theorem dX6_size_86 : decode cX6_size 86 = .ok (.aload_n 0, 1) := by decide +kernel
theorem dX6_size_87 : decode cX6_size 87 = .ok (.getfield 150, 3) := by decide +kernel
theorem dX6_size_90 : decode cX6_size 90 = .ok (.iload_n 1, 1) := by decide +kernel
theorem dX6_size_91 : decode cX6_size 91 = .ok (.iaload, 1) := by decide +kernel
theorem dX6_size_92 : decode cX6_size 92 = .ok (.ireturn, 1) := by decide +kernel
set_option maxRecDepth 20000 in
theorem ggX6_drop_X6_isRow : GoodIn wsX6_drop wsX6_isRow := goodIn_r _ [13, 1, 18, 19, 20, 21, 22, 23, 24, 25, 26, 27, 28, 29, 30, 31, 32, 33, 34] (by decide +kernel) (by decide +kernel)
set_option maxRecDepth 20000 in
theorem gX6_drop_X6_isRow : GoodIn wsX6_drop (wsV RX6 174 RX6 yX6_isRow wsX6_isRow) := goodIn_app (goodIn_of _ (by decide +kernel)) ggX6_drop_X6_isRow
set_option maxRecDepth 20000 in
theorem ggX6_drop_X6_mark : GoodIn wsX6_drop wsX6_mark := goodIn_r _ [17, 1, 2, 6, 7, 18, 19, 20, 21, 22, 23, 24, 25, 26, 27, 28, 29, 30, 31, 32, 33, 34] (by decide +kernel) (by decide +kernel)
set_option maxRecDepth 20000 in
theorem gX6_drop_X6_mark : GoodIn wsX6_drop (wsV RX6 212 RX6 yX6_mark wsX6_mark) := goodIn_app (goodIn_of _ (by decide +kernel)) ggX6_drop_X6_mark
theorem dX6_drop_0 : decode cX6_drop 0 = .ok (.aload_n 0, 1) := by decide +kernel
theorem dX6_drop_1 : decode cX6_drop 1 = .ok (.iload_n 1, 1) := by decide +kernel
theorem dX6_drop_2 : decode cX6_drop 2 = .ok (.invokevirtual 174, 3) := by decide +kernel
theorem dX6_drop_5 : decode cX6_drop 5 = .ok (.ifCond .ne 5, 3) := by decide +kernel
theorem dX6_drop_8 : decode cX6_drop 8 = .ok (.iconst (-1), 1) := by decide +kernel
theorem dX6_drop_9 : decode cX6_drop 9 = .ok (.ireturn, 1) := by decide +kernel
theorem dX6_drop_10 : decode cX6_drop 10 = .ok (.aload_n 0, 1) := by decide +kernel
theorem dX6_drop_11 : decode cX6_drop 11 = .ok (.iload_n 1, 1) := by decide +kernel
theorem dX6_drop_12 : decode cX6_drop 12 = .ok (.invokevirtual 212, 3) := by decide +kernel
theorem dX6_drop_15 : decode cX6_drop 15 = .ok (.pop, 1) := by decide +kernel
theorem dX6_drop_16 : decode cX6_drop 16 = .ok (.iconst 0, 1) := by decide +kernel
theorem dX6_drop_17 : decode cX6_drop 17 = .ok (.istore_n 2, 1) := by decide +kernel
theorem dX6_drop_18 : decode cX6_drop 18 = .ok (.iconst 1, 1) := by decide +kernel
theorem dX6_drop_19 : decode cX6_drop 19 = .ok (.istore_n 3, 1) := by decide +kernel
theorem dX6_drop_20 : decode cX6_drop 20 = .ok (.iload_n 3, 1) := by decide +kernel
theorem dX6_drop_21 : decode cX6_drop 21 = .ok (.aload_n 0, 1) := by decide +kernel
theorem dX6_drop_22 : decode cX6_drop 22 = .ok (.getfield 167, 3) := by decide +kernel
theorem dX6_drop_25 : decode cX6_drop 25 = .ok (.if_icmp .gt 114, 3) := by decide +kernel
theorem dX6_drop_28 : decode cX6_drop 28 = .ok (.aload_n 0, 1) := by decide +kernel
theorem dX6_drop_29 : decode cX6_drop 29 = .ok (.getfield 143, 3) := by decide +kernel
theorem dX6_drop_32 : decode cX6_drop 32 = .ok (.iload_n 3, 1) := by decide +kernel
theorem dX6_drop_33 : decode cX6_drop 33 = .ok (.baload, 1) := by decide +kernel
theorem dX6_drop_34 : decode cX6_drop 34 = .ok (.ifCond .ne 6, 3) := by decide +kernel
theorem dX6_drop_37 : decode cX6_drop 37 = .ok (.goto 96, 3) := by decide +kernel
theorem dX6_drop_40 : decode cX6_drop 40 = .ok (.iinc 2 1, 3) := by decide +kernel
theorem dX6_drop_43 : decode cX6_drop 43 = .ok (.aload_n 0, 1) := by decide +kernel
theorem dX6_drop_44 : decode cX6_drop 44 = .ok (.getfield 153, 3) := by decide +kernel
theorem dX6_drop_47 : decode cX6_drop 47 = .ok (.iload_n 3, 1) := by decide +kernel
theorem dX6_drop_48 : decode cX6_drop 48 = .ok (.iload_n 2, 1) := by decide +kernel
theorem dX6_drop_49 : decode cX6_drop 49 = .ok (.iastore, 1) := by decide +kernel
theorem dX6_drop_50 : decode cX6_drop 50 = .ok (.aload_n 0, 1) := by decide +kernel
theorem dX6_drop_51 : decode cX6_drop 51 = .ok (.getfield 128, 3) := by decide +kernel
theorem dX6_drop_54 : decode cX6_drop 54 = .ok (.iload_n 2, 1) := by decide +kernel
theorem dX6_drop_55 : decode cX6_drop 55 = .ok (.aload_n 0, 1) := by decide +kernel
theorem dX6_drop_56 : decode cX6_drop 56 = .ok (.getfield 128, 3) := by decide +kernel
theorem dX6_drop_59 : decode cX6_drop 59 = .ok (.iload_n 3, 1) := by decide +kernel
theorem dX6_drop_60 : decode cX6_drop 60 = .ok (.iaload, 1) := by decide +kernel
theorem dX6_drop_61 : decode cX6_drop 61 = .ok (.iastore, 1) := by decide +kernel
theorem dX6_drop_62 : decode cX6_drop 62 = .ok (.aload_n 0, 1) := by decide +kernel
theorem dX6_drop_63 : decode cX6_drop 63 = .ok (.getfield 131, 3) := by decide +kernel
theorem dX6_drop_66 : decode cX6_drop 66 = .ok (.iload_n 2, 1) := by decide +kernel
theorem dX6_drop_67 : decode cX6_drop 67 = .ok (.aload_n 0, 1) := by decide +kernel
theorem dX6_drop_68 : decode cX6_drop 68 = .ok (.getfield 131, 3) := by decide +kernel
theorem dX6_drop_71 : decode cX6_drop 71 = .ok (.iload_n 3, 1) := by decide +kernel
theorem dX6_drop_72 : decode cX6_drop 72 = .ok (.iaload, 1) := by decide +kernel
theorem dX6_drop_73 : decode cX6_drop 73 = .ok (.iastore, 1) := by decide +kernel
theorem dX6_drop_74 : decode cX6_drop 74 = .ok (.aload_n 0, 1) := by decide +kernel
theorem dX6_drop_75 : decode cX6_drop 75 = .ok (.getfield 134, 3) := by decide +kernel
theorem dX6_drop_78 : decode cX6_drop 78 = .ok (.iload_n 3, 1) := by decide +kernel
theorem dX6_drop_79 : decode cX6_drop 79 = .ok (.iaload, 1) := by decide +kernel
theorem dX6_drop_80 : decode cX6_drop 80 = .ok (.istore 4, 2) := by decide +kernel
theorem dX6_drop_82 : decode cX6_drop 82 = .ok (.iconst 0, 1) := by decide +kernel
theorem dX6_drop_83 : decode cX6_drop 83 = .ok (.istore 5, 2) := by decide +kernel
theorem dX6_drop_85 : decode cX6_drop 85 = .ok (.iload 5, 2) := by decide +kernel
theorem dX6_drop_87 : decode cX6_drop 87 = .ok (.iload 4, 2) := by decide +kernel
theorem dX6_drop_89 : decode cX6_drop 89 = .ok (.if_icmp .ge 36, 3) := by decide +kernel
theorem dX6_drop_92 : decode cX6_drop 92 = .ok (.aload_n 0, 1) := by decide +kernel
theorem dX6_drop_93 : decode cX6_drop 93 = .ok (.getfield 137, 3) := by decide +kernel
theorem dX6_drop_96 : decode cX6_drop 96 = .ok (.iconst 3, 1) := by decide +kernel
theorem dX6_drop_97 : decode cX6_drop 97 = .ok (.iload_n 2, 1) := by decide +kernel
theorem dX6_drop_98 : decode cX6_drop 98 = .ok (.imul, 1) := by decide +kernel
theorem dX6_drop_99 : decode cX6_drop 99 = .ok (.iload 5, 2) := by decide +kernel
theorem dX6_drop_101 : decode cX6_drop 101 = .ok (.iadd, 1) := by decide +kernel
theorem dX6_drop_102 : decode cX6_drop 102 = .ok (.aload_n 0, 1) := by decide +kernel
theorem dX6_drop_103 : decode cX6_drop 103 = .ok (.getfield 153, 3) := by decide +kernel
theorem dX6_drop_106 : decode cX6_drop 106 = .ok (.aload_n 0, 1) := by decide +kernel
theorem dX6_drop_107 : decode cX6_drop 107 = .ok (.getfield 137, 3) := by decide +kernel
theorem dX6_drop_110 : decode cX6_drop 110 = .ok (.iconst 3, 1) := by decide +kernel
theorem dX6_drop_111 : decode cX6_drop 111 = .ok (.iload_n 3, 1) := by decide +kernel
theorem dX6_drop_112 : decode cX6_drop 112 = .ok (.imul, 1) := by decide +kernel
theorem dX6_drop_113 : decode cX6_drop 113 = .ok (.iload 5, 2) := by decide +kernel
theorem dX6_drop_115 : decode cX6_drop 115 = .ok (.iadd, 1) := by decide +kernel
theorem dX6_drop_116 : decode cX6_drop 116 = .ok (.iaload, 1) := by decide +kernel
theorem dX6_drop_117 : decode cX6_drop 117 = .ok (.iaload, 1) := by decide +kernel
theorem dX6_drop_118 : decode cX6_drop 118 = .ok (.iastore, 1) := by decide +kernel
theorem dX6_drop_119 : decode cX6_drop 119 = .ok (.iinc 5 1, 3) := by decide +kernel
theorem dX6_drop_122 : decode cX6_drop 122 = .ok (.goto (-37), 3) := by decide +kernel
theorem dX6_drop_125 : decode cX6_drop 125 = .ok (.aload_n 0, 1) := by decide +kernel
theorem dX6_drop_126 : decode cX6_drop 126 = .ok (.getfield 134, 3) := by decide +kernel
theorem dX6_drop_129 : decode cX6_drop 129 = .ok (.iload_n 2, 1) := by decide +kernel
theorem dX6_drop_130 : decode cX6_drop 130 = .ok (.iload 4, 2) := by decide +kernel
theorem dX6_drop_132 : decode cX6_drop 132 = .ok (.iastore, 1) := by decide +kernel
theorem dX6_drop_133 : decode cX6_drop 133 = .ok (.iinc 3 1, 3) := by decide +kernel
theorem dX6_drop_136 : decode cX6_drop 136 = .ok (.goto (-116), 3) := by decide +kernel
theorem dX6_drop_139 : decode cX6_drop 139 = .ok (.aload_n 0, 1) := by decide +kernel
theorem dX6_drop_140 : decode cX6_drop 140 = .ok (.iload_n 2, 1) := by decide +kernel
theorem dX6_drop_141 : decode cX6_drop 141 = .ok (.putfield 167, 3) := by decide +kernel
theorem dX6_drop_144 : decode cX6_drop 144 = .ok (.aload_n 0, 1) := by decide +kernel
theorem dX6_drop_145 : decode cX6_drop 145 = .ok (.iconst 0, 1) := by decide +kernel
theorem dX6_drop_146 : decode cX6_drop 146 = .ok (.putfield 218, 3) := by decide +kernel
theorem dX6_drop_149 : decode cX6_drop 149 = .ok (.iload_n 2, 1) := by decide +kernel
theorem dX6_drop_150 : decode cX6_drop 150 = .ok (.ireturn, 1) := by decide +kernel
set_option maxRecDepth 20000 in
theorem ggX6_name_X6_isRow : GoodIn wsX6_name wsX6_isRow := goodIn_r _ [6, 7, 8, 9, 10, 11, 12, 13, 14, 15, 16, 17, 18, 19, 20, 21, 22, 23, 24] (by decide +kernel) (by decide +kernel)
set_option maxRecDepth 20000 in
theorem gX6_name_X6_isRow : GoodIn wsX6_name (wsV RX6 174 RX6 yX6_isRow wsX6_isRow) := goodIn_app (goodIn_of _ (by decide +kernel)) ggX6_name_X6_isRow
theorem dX6_name_0 : decode cX6_name 0 = .ok (.aload_n 0, 1) := by decide +kernel
theorem dX6_name_1 : decode cX6_name 1 = .ok (.iload_n 1, 1) := by decide +kernel
theorem dX6_name_2 : decode cX6_name 2 = .ok (.invokevirtual 174, 3) := by decide +kernel
theorem dX6_name_5 : decode cX6_name 5 = .ok (.ifCond .eq 12, 3) := by decide +kernel
theorem dX6_name_8 : decode cX6_name 8 = .ok (.aload_n 0, 1) := by decide +kernel
theorem dX6_name_9 : decode cX6_name 9 = .ok (.getfield 128, 3) := by decide +kernel
theorem dX6_name_12 : decode cX6_name 12 = .ok (.iload_n 1, 1) := by decide +kernel
theorem dX6_name_13 : decode cX6_name 13 = .ok (.iaload, 1) := by decide +kernel
theorem dX6_name_14 : decode cX6_name 14 = .ok (.goto 4, 3) := by decide +kernel
theorem dX6_name_17 : decode cX6_name 17 = .ok (.iconst (-1), 1) := by decide +kernel
theorem dX6_name_18 : decode cX6_name 18 = .ok (.ireturn, 1) := by decide +kernel
set_option maxRecDepth 20000 in
theorem ggX6_states_X6_isRow : GoodIn wsX6_states wsX6_isRow := goodIn_r _ [6, 7, 49, 50, 51, 52, 53, 54, 55, 56, 57, 58, 59, 60, 61, 62, 63, 64, 65] (by decide +kernel) (by decide +kernel)
set_option maxRecDepth 20000 in
theorem gX6_states_X6_isRow : GoodIn wsX6_states (wsV RX6 174 RX6 yX6_isRow wsX6_isRow) := goodIn_app (goodIn_of _ (by decide +kernel)) ggX6_states_X6_isRow
set_option maxRecDepth 20000 in
theorem ggX6_states_X6_work : GoodIn wsX6_states wsX6_work := goodIn_r _ [11, 12, 13, 14, 15, 16, 5, 17, 1, 18, 19, 20, 21, 22, 23, 24, 25, 26, 27, 28, 29, 30, 31, 32, 33, 34, 35, 36, 37, 38, 39, 40, 41, 42, 43, 44, 45, 46, 47, 48, 49, 50, 51, 52, 53, 54, 55, 56, 57, 58, 59, 60, 61, 62, 63, 64, 65] (by decide +kernel) (by decide +kernel)
set_option maxRecDepth 20000 in
theorem gX6_states_X6_work : GoodIn wsX6_states (wsV RX6 215 RX6 yX6_work wsX6_work) := goodIn_app (goodIn_of _ (by decide +kernel)) ggX6_states_X6_work
theorem dX6_states_0 : decode cX6_states 0 = .ok (.aload_n 0, 1) := by decide +kernel
theorem dX6_states_1 : decode cX6_states 1 = .ok (.iload_n 1, 1) := by decide +kernel
theorem dX6_states_2 : decode cX6_states 2 = .ok (.invokevirtual 174, 3) := by decide +kernel
theorem dX6_states_5 : decode cX6_states 5 = .ok (.ifCond .ne 5, 3) := by decide +kernel
theorem dX6_states_8 : decode cX6_states 8 = .ok (.iconst (-1), 1) := by decide +kernel
theorem dX6_states_9 : decode cX6_states 9 = .ok (.ireturn, 1) := by decide +kernel
theorem dX6_states_10 : decode cX6_states 10 = .ok (.iload_n 2, 1) := by decide +kernel
theorem dX6_states_11 : decode cX6_states 11 = .ok (.ifCond .lt 8, 3) := by decide +kernel
theorem dX6_states_14 : decode cX6_states 14 = .ok (.iload_n 2, 1) := by decide +kernel
theorem dX6_states_15 : decode cX6_states 15 = .ok (.iconst 3, 1) := by decide +kernel
theorem dX6_states_16 : decode cX6_states 16 = .ok (.if_icmp .le 6, 3) := by decide +kernel
theorem dX6_states_19 : decode cX6_states 19 = .ok (.bipush (-2), 2) := by decide +kernel
theorem dX6_states_21 : decode cX6_states 21 = .ok (.ireturn, 1) := by decide +kernel
theorem dX6_states_22 : decode cX6_states 22 = .ok (.aload_n 0, 1) := by decide +kernel
theorem dX6_states_23 : decode cX6_states 23 = .ok (.iload_n 1, 1) := by decide +kernel
theorem dX6_states_24 : decode cX6_states 24 = .ok (.invokevirtual 215, 3) := by decide +kernel
theorem dX6_states_27 : decode cX6_states 27 = .ok (.aload_n 0, 1) := by decide +kernel
theorem dX6_states_28 : decode cX6_states 28 = .ok (.getfield 140, 3) := by decide +kernel
theorem dX6_states_31 : decode cX6_states 31 = .ok (.iconst 4, 1) := by decide +kernel
theorem dX6_states_32 : decode cX6_states 32 = .ok (.iload_n 1, 1) := by decide +kernel
theorem dX6_states_33 : decode cX6_states 33 = .ok (.imul, 1) := by decide +kernel
theorem dX6_states_34 : decode cX6_states 34 = .ok (.iload_n 2, 1) := by decide +kernel
theorem dX6_states_35 : decode cX6_states 35 = .ok (.iadd, 1) := by decide +kernel
theorem dX6_states_36 : decode cX6_states 36 = .ok (.iaload, 1) := by decide +kernel
theorem dX6_states_37 : decode cX6_states 37 = .ok (.ireturn, 1) := by decide +kernel
set_option maxRecDepth 20000 in
theorem ggX6_concludes_X6_isRow : GoodIn wsX6_concludes wsX6_isRow := goodIn_r _ [8, 9, 50, 51, 52, 53, 54, 55, 56, 57, 58, 59, 60, 61, 62, 63, 64, 65, 66] (by decide +kernel) (by decide +kernel)
set_option maxRecDepth 20000 in
theorem gX6_concludes_X6_isRow : GoodIn wsX6_concludes (wsV RX6 174 RX6 yX6_isRow wsX6_isRow) := goodIn_app (goodIn_of _ (by decide +kernel)) ggX6_concludes_X6_isRow
set_option maxRecDepth 20000 in
theorem ggX6_concludes_X6_work : GoodIn wsX6_concludes wsX6_work := goodIn_r _ [13, 14, 15, 16, 17, 18, 7, 19, 2, 20, 21, 22, 23, 24, 25, 26, 27, 28, 29, 30, 31, 32, 33, 3, 34, 35, 36, 37, 38, 39, 40, 41, 42, 43, 44, 45, 46, 47, 48, 49, 50, 51, 52, 53, 54, 55, 56, 57, 58, 59, 60, 61, 62, 63, 64, 65, 66] (by decide +kernel) (by decide +kernel)
set_option maxRecDepth 20000 in
theorem gX6_concludes_X6_work : GoodIn wsX6_concludes (wsV RX6 215 RX6 yX6_work wsX6_work) := goodIn_app (goodIn_of _ (by decide +kernel)) ggX6_concludes_X6_work
theorem dX6_concludes_0 : decode cX6_concludes 0 = .ok (.aload_n 0, 1) := by decide +kernel
theorem dX6_concludes_1 : decode cX6_concludes 1 = .ok (.iload_n 1, 1) := by decide +kernel
theorem dX6_concludes_2 : decode cX6_concludes 2 = .ok (.invokevirtual 174, 3) := by decide +kernel
theorem dX6_concludes_5 : decode cX6_concludes 5 = .ok (.ifCond .eq 16, 3) := by decide +kernel
theorem dX6_concludes_8 : decode cX6_concludes 8 = .ok (.iload_n 2, 1) := by decide +kernel
theorem dX6_concludes_9 : decode cX6_concludes 9 = .ok (.iconst 1, 1) := by decide +kernel
theorem dX6_concludes_10 : decode cX6_concludes 10 = .ok (.if_icmp .lt 11, 3) := by decide +kernel
theorem dX6_concludes_13 : decode cX6_concludes 13 = .ok (.iload_n 2, 1) := by decide +kernel
theorem dX6_concludes_14 : decode cX6_concludes 14 = .ok (.aload_n 0, 1) := by decide +kernel
theorem dX6_concludes_15 : decode cX6_concludes 15 = .ok (.getfield 164, 3) := by decide +kernel
theorem dX6_concludes_18 : decode cX6_concludes 18 = .ok (.if_icmp .le 5, 3) := by decide +kernel
theorem dX6_concludes_21 : decode cX6_concludes 21 = .ok (.iconst 0, 1) := by decide +kernel
theorem dX6_concludes_22 : decode cX6_concludes 22 = .ok (.ireturn, 1) := by decide +kernel
theorem dX6_concludes_23 : decode cX6_concludes 23 = .ok (.aload_n 0, 1) := by decide +kernel
theorem dX6_concludes_24 : decode cX6_concludes 24 = .ok (.iload_n 1, 1) := by decide +kernel
theorem dX6_concludes_25 : decode cX6_concludes 25 = .ok (.invokevirtual 215, 3) := by decide +kernel
theorem dX6_concludes_28 : decode cX6_concludes 28 = .ok (.iconst 1, 1) := by decide +kernel
theorem dX6_concludes_29 : decode cX6_concludes 29 = .ok (.istore_n 3, 1) := by decide +kernel
theorem dX6_concludes_30 : decode cX6_concludes 30 = .ok (.iconst 0, 1) := by decide +kernel
theorem dX6_concludes_31 : decode cX6_concludes 31 = .ok (.istore 4, 2) := by decide +kernel
theorem dX6_concludes_33 : decode cX6_concludes 33 = .ok (.iload 4, 2) := by decide +kernel
theorem dX6_concludes_35 : decode cX6_concludes 35 = .ok (.iconst 4, 1) := by decide +kernel
theorem dX6_concludes_36 : decode cX6_concludes 36 = .ok (.if_icmp .ge 44, 3) := by decide +kernel
theorem dX6_concludes_39 : decode cX6_concludes 39 = .ok (.iload_n 3, 1) := by decide +kernel
theorem dX6_concludes_40 : decode cX6_concludes 40 = .ok (.ifCond .eq 32, 3) := by decide +kernel
theorem dX6_concludes_43 : decode cX6_concludes 43 = .ok (.aload_n 0, 1) := by decide +kernel
theorem dX6_concludes_44 : decode cX6_concludes 44 = .ok (.getfield 140, 3) := by decide +kernel
theorem dX6_concludes_47 : decode cX6_concludes 47 = .ok (.iconst 4, 1) := by decide +kernel
theorem dX6_concludes_48 : decode cX6_concludes 48 = .ok (.iload_n 1, 1) := by decide +kernel
theorem dX6_concludes_49 : decode cX6_concludes 49 = .ok (.imul, 1) := by decide +kernel
theorem dX6_concludes_50 : decode cX6_concludes 50 = .ok (.iload 4, 2) := by decide +kernel
theorem dX6_concludes_52 : decode cX6_concludes 52 = .ok (.iadd, 1) := by decide +kernel
theorem dX6_concludes_53 : decode cX6_concludes 53 = .ok (.iaload, 1) := by decide +kernel
theorem dX6_concludes_54 : decode cX6_concludes 54 = .ok (.aload_n 0, 1) := by decide +kernel
theorem dX6_concludes_55 : decode cX6_concludes 55 = .ok (.getfield 125, 3) := by decide +kernel
theorem dX6_concludes_58 : decode cX6_concludes 58 = .ok (.iconst 4, 1) := by decide +kernel
theorem dX6_concludes_59 : decode cX6_concludes 59 = .ok (.iload_n 2, 1) := by decide +kernel
theorem dX6_concludes_60 : decode cX6_concludes 60 = .ok (.imul, 1) := by decide +kernel
theorem dX6_concludes_61 : decode cX6_concludes 61 = .ok (.iload 4, 2) := by decide +kernel
theorem dX6_concludes_63 : decode cX6_concludes 63 = .ok (.iadd, 1) := by decide +kernel
theorem dX6_concludes_64 : decode cX6_concludes 64 = .ok (.iaload, 1) := by decide +kernel
theorem dX6_concludes_65 : decode cX6_concludes 65 = .ok (.if_icmp .ne 7, 3) := by decide +kernel
theorem dX6_concludes_68 : decode cX6_concludes 68 = .ok (.iconst 1, 1) := by decide +kernel
theorem dX6_concludes_69 : decode cX6_concludes 69 = .ok (.goto 4, 3) := by decide +kernel
theorem dX6_concludes_72 : decode cX6_concludes 72 = .ok (.iconst 0, 1) := by decide +kernel
theorem dX6_concludes_73 : decode cX6_concludes 73 = .ok (.istore_n 3, 1) := by decide +kernel
theorem dX6_concludes_74 : decode cX6_concludes 74 = .ok (.iinc 4 1, 3) := by decide +kernel
theorem dX6_concludes_77 : decode cX6_concludes 77 = .ok (.goto (-44), 3) := by decide +kernel
theorem dX6_concludes_80 : decode cX6_concludes 80 = .ok (.iload_n 3, 1) := by decide +kernel
theorem dX6_concludes_81 : decode cX6_concludes 81 = .ok (.ireturn, 1) := by decide +kernel
theorem dX6_put_0 : decode cX6_put 0 = .ok (.iconst 0, 1) := by decide +kernel
theorem dX6_put_1 : decode cX6_put 1 = .ok (.istore_n 2, 1) := by decide +kernel
theorem dX6_put_2 : decode cX6_put 2 = .ok (.iconst 0, 1) := by decide +kernel
theorem dX6_put_3 : decode cX6_put 3 = .ok (.istore_n 3, 1) := by decide +kernel
theorem dX6_put_4 : decode cX6_put 4 = .ok (.iload_n 3, 1) := by decide +kernel
theorem dX6_put_5 : decode cX6_put 5 = .ok (.iload_n 1, 1) := by decide +kernel
theorem dX6_put_6 : decode cX6_put 6 = .ok (.if_icmp .ge 29, 3) := by decide +kernel
theorem dX6_put_9 : decode cX6_put 9 = .ok (.aload_n 0, 1) := by decide +kernel
theorem dX6_put_10 : decode cX6_put 10 = .ok (.getfield 115, 3) := by decide +kernel
theorem dX6_put_13 : decode cX6_put 13 = .ok (.iload_n 2, 1) := by decide +kernel
theorem dX6_put_14 : decode cX6_put 14 = .ok (.laload, 1) := by decide +kernel
theorem dX6_put_15 : decode cX6_put 15 = .ok (.lconst 0, 1) := by decide +kernel
theorem dX6_put_16 : decode cX6_put 16 = .ok (.lcmp, 1) := by decide +kernel
theorem dX6_put_17 : decode cX6_put 17 = .ok (.ifCond .eq 9, 3) := by decide +kernel
theorem dX6_put_20 : decode cX6_put 20 = .ok (.iinc 2 1, 3) := by decide +kernel
theorem dX6_put_23 : decode cX6_put 23 = .ok (.goto (-14), 3) := by decide +kernel
theorem dX6_put_26 : decode cX6_put 26 = .ok (.iinc 2 1, 3) := by decide +kernel
theorem dX6_put_29 : decode cX6_put 29 = .ok (.iinc 3 1, 3) := by decide +kernel
theorem dX6_put_32 : decode cX6_put 32 = .ok (.goto (-28), 3) := by decide +kernel
theorem dX6_put_35 : decode cX6_put 35 = .ok (.aload_n 0, 1) := by decide +kernel
theorem dX6_put_36 : decode cX6_put 36 = .ok (.getfield 115, 3) := by decide +kernel
theorem dX6_put_39 : decode cX6_put 39 = .ok (.iload_n 2, 1) := by decide +kernel
theorem dX6_put_40 : decode cX6_put 40 = .ok (.laload, 1) := by decide +kernel
theorem dX6_put_41 : decode cX6_put 41 = .ok (.lconst 0, 1) := by decide +kernel
theorem dX6_put_42 : decode cX6_put 42 = .ok (.lcmp, 1) := by decide +kernel
theorem dX6_put_43 : decode cX6_put 43 = .ok (.ifCond .eq 66, 3) := by decide +kernel
theorem dX6_put_46 : decode cX6_put 46 = .ok (.bipush 56, 2) := by decide +kernel
theorem dX6_put_48 : decode cX6_put 48 = .ok (.istore_n 3, 1) := by decide +kernel
theorem dX6_put_49 : decode cX6_put 49 = .ok (.iload_n 3, 1) := by decide +kernel
theorem dX6_put_50 : decode cX6_put 50 = .ok (.ifCond .lt 53, 3) := by decide +kernel
theorem dX6_put_53 : decode cX6_put 53 = .ok (.aload_n 0, 1) := by decide +kernel
theorem dX6_put_54 : decode cX6_put 54 = .ok (.getfield 115, 3) := by decide +kernel
theorem dX6_put_57 : decode cX6_put 57 = .ok (.iload_n 2, 1) := by decide +kernel
theorem dX6_put_58 : decode cX6_put 58 = .ok (.laload, 1) := by decide +kernel
theorem dX6_put_59 : decode cX6_put 59 = .ok (.iload_n 3, 1) := by decide +kernel
theorem dX6_put_60 : decode cX6_put 60 = .ok (.lshr, 1) := by decide +kernel
theorem dX6_put_61 : decode cX6_put 61 = .ok (.ldc2_w 227, 3) := by decide +kernel
theorem dX6_put_64 : decode cX6_put 64 = .ok (.land, 1) := by decide +kernel
theorem dX6_put_65 : decode cX6_put 65 = .ok (.l2i, 1) := by decide +kernel
theorem dX6_put_66 : decode cX6_put 66 = .ok (.istore 4, 2) := by decide +kernel
theorem dX6_put_68 : decode cX6_put 68 = .ok (.iload 4, 2) := by decide +kernel
theorem dX6_put_70 : decode cX6_put 70 = .ok (.ifCond .ne 6, 3) := by decide +kernel
theorem dX6_put_73 : decode cX6_put 73 = .ok (.goto 24, 3) := by decide +kernel
theorem dX6_put_76 : decode cX6_put 76 = .ok (.aload_n 0, 1) := by decide +kernel
theorem dX6_put_77 : decode cX6_put 77 = .ok (.getfield 147, 3) := by decide +kernel
theorem dX6_put_80 : decode cX6_put 80 = .ok (.aload_n 0, 1) := by decide +kernel
theorem dX6_put_81 : decode cX6_put 81 = .ok (.getfield 229, 3) := by decide +kernel
theorem dX6_put_84 : decode cX6_put 84 = .ok (.iload 4, 2) := by decide +kernel
theorem dX6_put_86 : decode cX6_put 86 = .ok (.iastore, 1) := by decide +kernel
theorem dX6_put_87 : decode cX6_put 87 = .ok (.aload_n 0, 1) := by decide +kernel
theorem dX6_put_88 : decode cX6_put 88 = .ok (.dup, 1) := by decide +kernel
theorem dX6_put_89 : decode cX6_put 89 = .ok (.getfield 229, 3) := by decide +kernel
theorem dX6_put_92 : decode cX6_put 92 = .ok (.iconst 1, 1) := by decide +kernel
theorem dX6_put_93 : decode cX6_put 93 = .ok (.iadd, 1) := by decide +kernel
theorem dX6_put_94 : decode cX6_put 94 = .ok (.putfield 229, 3) := by decide +kernel
theorem dX6_put_97 : decode cX6_put 97 = .ok (.iinc 3 (-8), 3) := by decide +kernel
theorem dX6_put_100 : decode cX6_put 100 = .ok (.goto (-51), 3) := by decide +kernel
theorem dX6_put_103 : decode cX6_put 103 = .ok (.iinc 2 1, 3) := by decide +kernel
theorem dX6_put_106 : decode cX6_put 106 = .ok (.goto (-71), 3) := by decide +kernel
theorem dX6_put_109 : decode cX6_put 109 = .ok (.return_, 1) := by decide +kernel
theorem dX6_number_0 : decode cX6_number 0 = .ok (.iconst 1, 1) := by decide +kernel
theorem dX6_number_1 : decode cX6_number 1 = .ok (.istore_n 2, 1) := by decide +kernel
theorem dX6_number_2 : decode cX6_number 2 = .ok (.iload_n 1, 1) := by decide +kernel
theorem dX6_number_3 : decode cX6_number 3 = .ok (.iload_n 2, 1) := by decide +kernel
theorem dX6_number_4 : decode cX6_number 4 = .ok (.idiv, 1) := by decide +kernel
theorem dX6_number_5 : decode cX6_number 5 = .ok (.bipush 9, 2) := by decide +kernel
theorem dX6_number_7 : decode cX6_number 7 = .ok (.if_icmp .le 11, 3) := by decide +kernel
theorem dX6_number_10 : decode cX6_number 10 = .ok (.iload_n 2, 1) := by decide +kernel
theorem dX6_number_11 : decode cX6_number 11 = .ok (.bipush 10, 2) := by decide +kernel
theorem dX6_number_13 : decode cX6_number 13 = .ok (.imul, 1) := by decide +kernel
theorem dX6_number_14 : decode cX6_number 14 = .ok (.istore_n 2, 1) := by decide +kernel
theorem dX6_number_15 : decode cX6_number 15 = .ok (.goto (-13), 3) := by decide +kernel
theorem dX6_number_18 : decode cX6_number 18 = .ok (.iload_n 2, 1) := by decide +kernel
theorem dX6_number_19 : decode cX6_number 19 = .ok (.istore_n 3, 1) := by decide +kernel
theorem dX6_number_20 : decode cX6_number 20 = .ok (.iload_n 3, 1) := by decide +kernel
theorem dX6_number_21 : decode cX6_number 21 = .ok (.ifCond .le 39, 3) := by decide +kernel
theorem dX6_number_24 : decode cX6_number 24 = .ok (.aload_n 0, 1) := by decide +kernel
theorem dX6_number_25 : decode cX6_number 25 = .ok (.getfield 147, 3) := by decide +kernel
theorem dX6_number_28 : decode cX6_number 28 = .ok (.aload_n 0, 1) := by decide +kernel
theorem dX6_number_29 : decode cX6_number 29 = .ok (.getfield 229, 3) := by decide +kernel
theorem dX6_number_32 : decode cX6_number 32 = .ok (.bipush 48, 2) := by decide +kernel
theorem dX6_number_34 : decode cX6_number 34 = .ok (.iload_n 1, 1) := by decide +kernel
theorem dX6_number_35 : decode cX6_number 35 = .ok (.iload_n 3, 1) := by decide +kernel
theorem dX6_number_36 : decode cX6_number 36 = .ok (.idiv, 1) := by decide +kernel
theorem dX6_number_37 : decode cX6_number 37 = .ok (.bipush 10, 2) := by decide +kernel
theorem dX6_number_39 : decode cX6_number 39 = .ok (.irem, 1) := by decide +kernel
theorem dX6_number_40 : decode cX6_number 40 = .ok (.iadd, 1) := by decide +kernel
theorem dX6_number_41 : decode cX6_number 41 = .ok (.iastore, 1) := by decide +kernel
theorem dX6_number_42 : decode cX6_number 42 = .ok (.aload_n 0, 1) := by decide +kernel
theorem dX6_number_43 : decode cX6_number 43 = .ok (.dup, 1) := by decide +kernel
theorem dX6_number_44 : decode cX6_number 44 = .ok (.getfield 229, 3) := by decide +kernel
theorem dX6_number_47 : decode cX6_number 47 = .ok (.iconst 1, 1) := by decide +kernel
theorem dX6_number_48 : decode cX6_number 48 = .ok (.iadd, 1) := by decide +kernel
theorem dX6_number_49 : decode cX6_number 49 = .ok (.putfield 229, 3) := by decide +kernel
theorem dX6_number_52 : decode cX6_number 52 = .ok (.iload_n 3, 1) := by decide +kernel
theorem dX6_number_53 : decode cX6_number 53 = .ok (.bipush 10, 2) := by decide +kernel
theorem dX6_number_55 : decode cX6_number 55 = .ok (.idiv, 1) := by decide +kernel
theorem dX6_number_56 : decode cX6_number 56 = .ok (.istore_n 3, 1) := by decide +kernel
theorem dX6_number_57 : decode cX6_number 57 = .ok (.goto (-37), 3) := by decide +kernel
theorem dX6_number_60 : decode cX6_number 60 = .ok (.return_, 1) := by decide +kernel
theorem dX6_wordOf_0 : decode cX6_wordOf 0 = .ok (.iload_n 0, 1) := by decide +kernel
theorem dX6_wordOf_1 : decode cX6_wordOf 1 = .ok (.tableswitch 128 0 16 #[83, 85, 87, 89, 91, 93, 95, 98, 101, 104, 107, 110, 113, 116, 119, 122, 125], 83) := by decide +kernel
theorem dX6_wordOf_84 : decode cX6_wordOf 84 = .ok (.iconst 0, 1) := by decide +kernel
theorem dX6_wordOf_85 : decode cX6_wordOf 85 = .ok (.ireturn, 1) := by decide +kernel
theorem dX6_wordOf_86 : decode cX6_wordOf 86 = .ok (.iconst 1, 1) := by decide +kernel
theorem dX6_wordOf_87 : decode cX6_wordOf 87 = .ok (.ireturn, 1) := by decide +kernel
theorem dX6_wordOf_88 : decode cX6_wordOf 88 = .ok (.iconst 2, 1) := by decide +kernel
theorem dX6_wordOf_89 : decode cX6_wordOf 89 = .ok (.ireturn, 1) := by decide +kernel
theorem dX6_wordOf_90 : decode cX6_wordOf 90 = .ok (.iconst 3, 1) := by decide +kernel
theorem dX6_wordOf_91 : decode cX6_wordOf 91 = .ok (.ireturn, 1) := by decide +kernel
theorem dX6_wordOf_92 : decode cX6_wordOf 92 = .ok (.iconst 4, 1) := by decide +kernel
theorem dX6_wordOf_93 : decode cX6_wordOf 93 = .ok (.ireturn, 1) := by decide +kernel
theorem dX6_wordOf_94 : decode cX6_wordOf 94 = .ok (.iconst 5, 1) := by decide +kernel
theorem dX6_wordOf_95 : decode cX6_wordOf 95 = .ok (.ireturn, 1) := by decide +kernel
theorem dX6_wordOf_96 : decode cX6_wordOf 96 = .ok (.bipush 6, 2) := by decide +kernel
theorem dX6_wordOf_98 : decode cX6_wordOf 98 = .ok (.ireturn, 1) := by decide +kernel
theorem dX6_wordOf_99 : decode cX6_wordOf 99 = .ok (.bipush 7, 2) := by decide +kernel
theorem dX6_wordOf_101 : decode cX6_wordOf 101 = .ok (.ireturn, 1) := by decide +kernel
theorem dX6_wordOf_102 : decode cX6_wordOf 102 = .ok (.bipush 8, 2) := by decide +kernel
theorem dX6_wordOf_104 : decode cX6_wordOf 104 = .ok (.ireturn, 1) := by decide +kernel
theorem dX6_wordOf_105 : decode cX6_wordOf 105 = .ok (.bipush 9, 2) := by decide +kernel
theorem dX6_wordOf_107 : decode cX6_wordOf 107 = .ok (.ireturn, 1) := by decide +kernel
theorem dX6_wordOf_108 : decode cX6_wordOf 108 = .ok (.bipush 10, 2) := by decide +kernel
theorem dX6_wordOf_110 : decode cX6_wordOf 110 = .ok (.ireturn, 1) := by decide +kernel
theorem dX6_wordOf_111 : decode cX6_wordOf 111 = .ok (.bipush 11, 2) := by decide +kernel
theorem dX6_wordOf_113 : decode cX6_wordOf 113 = .ok (.ireturn, 1) := by decide +kernel
theorem dX6_wordOf_114 : decode cX6_wordOf 114 = .ok (.bipush 12, 2) := by decide +kernel
theorem dX6_wordOf_116 : decode cX6_wordOf 116 = .ok (.ireturn, 1) := by decide +kernel
theorem dX6_wordOf_117 : decode cX6_wordOf 117 = .ok (.bipush 13, 2) := by decide +kernel
theorem dX6_wordOf_119 : decode cX6_wordOf 119 = .ok (.ireturn, 1) := by decide +kernel
theorem dX6_wordOf_120 : decode cX6_wordOf 120 = .ok (.bipush 14, 2) := by decide +kernel
theorem dX6_wordOf_122 : decode cX6_wordOf 122 = .ok (.ireturn, 1) := by decide +kernel
theorem dX6_wordOf_123 : decode cX6_wordOf 123 = .ok (.bipush 15, 2) := by decide +kernel
theorem dX6_wordOf_125 : decode cX6_wordOf 125 = .ok (.ireturn, 1) := by decide +kernel
theorem dX6_wordOf_126 : decode cX6_wordOf 126 = .ok (.bipush 16, 2) := by decide +kernel
theorem dX6_wordOf_128 : decode cX6_wordOf 128 = .ok (.ireturn, 1) := by decide +kernel
theorem dX6_wordOf_129 : decode cX6_wordOf 129 = .ok (.bipush 17, 2) := by decide +kernel
theorem dX6_wordOf_131 : decode cX6_wordOf 131 = .ok (.ireturn, 1) := by decide +kernel
set_option maxRecDepth 20000 in
theorem ggX6_statement_X6_put : GoodIn wsX6_statement wsX6_put := goodIn_r _ [5, 6, 7, 8, 9, 14, 15, 16, 17, 18, 19, 20, 21, 22, 23, 24, 25, 26, 27, 28, 29, 30] (by decide +kernel) (by decide +kernel)
set_option maxRecDepth 20000 in
theorem gX6_statement_X6_put : GoodIn wsX6_statement (wsV RX6 232 RX6 yX6_put wsX6_put) := goodIn_app (goodIn_of _ (by decide +kernel)) ggX6_statement_X6_put
set_option maxRecDepth 20000 in
theorem ggX6_statement_X6_number : GoodIn wsX6_statement wsX6_number := goodIn_r _ [13, 8, 9, 14, 15, 16, 17, 18, 19, 20, 21, 22, 23, 24, 25, 26, 27, 28, 29, 30] (by decide +kernel) (by decide +kernel)
set_option maxRecDepth 20000 in
theorem gX6_statement_X6_number : GoodIn wsX6_statement (wsV RX6 235 RX6 yX6_number wsX6_number) := goodIn_app (goodIn_of _ (by decide +kernel)) ggX6_statement_X6_number
theorem dX6_statement_0 : decode cX6_statement 0 = .ok (.iload_n 1, 1) := by decide +kernel
theorem dX6_statement_1 : decode cX6_statement 1 = .ok (.bipush 12, 2) := by decide +kernel
theorem dX6_statement_3 : decode cX6_statement 3 = .ok (.if_icmp .eq 7, 3) := by decide +kernel
theorem dX6_statement_6 : decode cX6_statement 6 = .ok (.iload_n 1, 1) := by decide +kernel
theorem dX6_statement_7 : decode cX6_statement 7 = .ok (.ifCond .ne 19, 3) := by decide +kernel
theorem dX6_statement_10 : decode cX6_statement 10 = .ok (.aload_n 0, 1) := by decide +kernel
theorem dX6_statement_11 : decode cX6_statement 11 = .ok (.iload_n 1, 1) := by decide +kernel
theorem dX6_statement_12 : decode cX6_statement 12 = .ok (.ifCond .ne 8, 3) := by decide +kernel
theorem dX6_statement_15 : decode cX6_statement 15 = .ok (.bipush 18, 2) := by decide +kernel
theorem dX6_statement_17 : decode cX6_statement 17 = .ok (.goto 5, 3) := by decide +kernel
theorem dX6_statement_20 : decode cX6_statement 20 = .ok (.bipush 19, 2) := by decide +kernel
theorem dX6_statement_22 : decode cX6_statement 22 = .ok (.invokevirtual 232, 3) := by decide +kernel
theorem dX6_statement_25 : decode cX6_statement 25 = .ok (.return_, 1) := by decide +kernel
theorem dX6_statement_26 : decode cX6_statement 26 = .ok (.iload_n 1, 1) := by decide +kernel
theorem dX6_statement_27 : decode cX6_statement 27 = .ok (.iconst 1, 1) := by decide +kernel
theorem dX6_statement_28 : decode cX6_statement 28 = .ok (.if_icmp .eq 8, 3) := by decide +kernel
theorem dX6_statement_31 : decode cX6_statement 31 = .ok (.iload_n 1, 1) := by decide +kernel
theorem dX6_statement_32 : decode cX6_statement 32 = .ok (.iconst 5, 1) := by decide +kernel
theorem dX6_statement_33 : decode cX6_statement 33 = .ok (.if_icmp .ne 9, 3) := by decide +kernel
theorem dX6_statement_36 : decode cX6_statement 36 = .ok (.aload_n 0, 1) := by decide +kernel
theorem dX6_statement_37 : decode cX6_statement 37 = .ok (.bipush 20, 2) := by decide +kernel
theorem dX6_statement_39 : decode cX6_statement 39 = .ok (.invokevirtual 232, 3) := by decide +kernel
theorem dX6_statement_42 : decode cX6_statement 42 = .ok (.iload_n 1, 1) := by decide +kernel
theorem dX6_statement_43 : decode cX6_statement 43 = .ok (.iconst 3, 1) := by decide +kernel
theorem dX6_statement_44 : decode cX6_statement 44 = .ok (.if_icmp .eq 8, 3) := by decide +kernel
theorem dX6_statement_47 : decode cX6_statement 47 = .ok (.iload_n 1, 1) := by decide +kernel
theorem dX6_statement_48 : decode cX6_statement 48 = .ok (.iconst 4, 1) := by decide +kernel
theorem dX6_statement_49 : decode cX6_statement 49 = .ok (.if_icmp .ne 9, 3) := by decide +kernel
theorem dX6_statement_52 : decode cX6_statement 52 = .ok (.aload_n 0, 1) := by decide +kernel
theorem dX6_statement_53 : decode cX6_statement 53 = .ok (.bipush 21, 2) := by decide +kernel
theorem dX6_statement_55 : decode cX6_statement 55 = .ok (.invokevirtual 232, 3) := by decide +kernel
theorem dX6_statement_58 : decode cX6_statement 58 = .ok (.aload_n 0, 1) := by decide +kernel
theorem dX6_statement_59 : decode cX6_statement 59 = .ok (.iload_n 2, 1) := by decide +kernel
theorem dX6_statement_60 : decode cX6_statement 60 = .ok (.invokevirtual 235, 3) := by decide +kernel
theorem dX6_statement_63 : decode cX6_statement 63 = .ok (.iload_n 1, 1) := by decide +kernel
theorem dX6_statement_64 : decode cX6_statement 64 = .ok (.tableswitch 146 1 10 #[56, 65, 74, 83, 92, 101, 110, 119, 128, 137], 56) := by decide +kernel
theorem dX6_statement_120 : decode cX6_statement 120 = .ok (.aload_n 0, 1) := by decide +kernel
theorem dX6_statement_121 : decode cX6_statement 121 = .ok (.bipush 22, 2) := by decide +kernel
theorem dX6_statement_123 : decode cX6_statement 123 = .ok (.invokevirtual 232, 3) := by decide +kernel
theorem dX6_statement_126 : decode cX6_statement 126 = .ok (.goto 125, 3) := by decide +kernel
theorem dX6_statement_129 : decode cX6_statement 129 = .ok (.aload_n 0, 1) := by decide +kernel
theorem dX6_statement_130 : decode cX6_statement 130 = .ok (.bipush 23, 2) := by decide +kernel
theorem dX6_statement_132 : decode cX6_statement 132 = .ok (.invokevirtual 232, 3) := by decide +kernel
theorem dX6_statement_135 : decode cX6_statement 135 = .ok (.goto 116, 3) := by decide +kernel
theorem dX6_statement_138 : decode cX6_statement 138 = .ok (.aload_n 0, 1) := by decide +kernel
theorem dX6_statement_139 : decode cX6_statement 139 = .ok (.bipush 24, 2) := by decide +kernel
theorem dX6_statement_141 : decode cX6_statement 141 = .ok (.invokevirtual 232, 3) := by decide +kernel
theorem dX6_statement_144 : decode cX6_statement 144 = .ok (.goto 107, 3) := by decide +kernel
theorem dX6_statement_147 : decode cX6_statement 147 = .ok (.aload_n 0, 1) := by decide +kernel
theorem dX6_statement_148 : decode cX6_statement 148 = .ok (.bipush 25, 2) := by decide +kernel
theorem dX6_statement_150 : decode cX6_statement 150 = .ok (.invokevirtual 232, 3) := by decide +kernel
theorem dX6_statement_153 : decode cX6_statement 153 = .ok (.goto 98, 3) := by decide +kernel
theorem dX6_statement_156 : decode cX6_statement 156 = .ok (.aload_n 0, 1) := by decide +kernel
theorem dX6_statement_157 : decode cX6_statement 157 = .ok (.bipush 26, 2) := by decide +kernel
theorem dX6_statement_159 : decode cX6_statement 159 = .ok (.invokevirtual 232, 3) := by decide +kernel
theorem dX6_statement_162 : decode cX6_statement 162 = .ok (.goto 89, 3) := by decide +kernel
theorem dX6_statement_165 : decode cX6_statement 165 = .ok (.aload_n 0, 1) := by decide +kernel
theorem dX6_statement_166 : decode cX6_statement 166 = .ok (.bipush 27, 2) := by decide +kernel
theorem dX6_statement_168 : decode cX6_statement 168 = .ok (.invokevirtual 232, 3) := by decide +kernel
theorem dX6_statement_171 : decode cX6_statement 171 = .ok (.goto 80, 3) := by decide +kernel
theorem dX6_statement_174 : decode cX6_statement 174 = .ok (.aload_n 0, 1) := by decide +kernel
theorem dX6_statement_175 : decode cX6_statement 175 = .ok (.bipush 28, 2) := by decide +kernel
theorem dX6_statement_177 : decode cX6_statement 177 = .ok (.invokevirtual 232, 3) := by decide +kernel
theorem dX6_statement_180 : decode cX6_statement 180 = .ok (.goto 71, 3) := by decide +kernel
theorem dX6_statement_183 : decode cX6_statement 183 = .ok (.aload_n 0, 1) := by decide +kernel
theorem dX6_statement_184 : decode cX6_statement 184 = .ok (.bipush 29, 2) := by decide +kernel
theorem dX6_statement_186 : decode cX6_statement 186 = .ok (.invokevirtual 232, 3) := by decide +kernel
theorem dX6_statement_189 : decode cX6_statement 189 = .ok (.goto 62, 3) := by decide +kernel
theorem dX6_statement_192 : decode cX6_statement 192 = .ok (.aload_n 0, 1) := by decide +kernel
theorem dX6_statement_193 : decode cX6_statement 193 = .ok (.bipush 30, 2) := by decide +kernel
theorem dX6_statement_195 : decode cX6_statement 195 = .ok (.invokevirtual 232, 3) := by decide +kernel
theorem dX6_statement_198 : decode cX6_statement 198 = .ok (.goto 53, 3) := by decide +kernel
theorem dX6_statement_201 : decode cX6_statement 201 = .ok (.aload_n 0, 1) := by decide +kernel
theorem dX6_statement_202 : decode cX6_statement 202 = .ok (.bipush 31, 2) := by decide +kernel
theorem dX6_statement_204 : decode cX6_statement 204 = .ok (.invokevirtual 232, 3) := by decide +kernel
theorem dX6_statement_207 : decode cX6_statement 207 = .ok (.goto 44, 3) := by decide +kernel
theorem dX6_statement_210 : decode cX6_statement 210 = .ok (.aload_n 0, 1) := by decide +kernel
theorem dX6_statement_211 : decode cX6_statement 211 = .ok (.iload_n 3, 1) := by decide +kernel
theorem dX6_statement_212 : decode cX6_statement 212 = .ok (.ifCond .ne 8, 3) := by decide +kernel
theorem dX6_statement_215 : decode cX6_statement 215 = .ok (.bipush 32, 2) := by decide +kernel
theorem dX6_statement_217 : decode cX6_statement 217 = .ok (.goto 15, 3) := by decide +kernel
theorem dX6_statement_220 : decode cX6_statement 220 = .ok (.iload_n 3, 1) := by decide +kernel
theorem dX6_statement_221 : decode cX6_statement 221 = .ok (.iconst 1, 1) := by decide +kernel
theorem dX6_statement_222 : decode cX6_statement 222 = .ok (.if_icmp .ne 8, 3) := by decide +kernel
theorem dX6_statement_225 : decode cX6_statement 225 = .ok (.bipush 29, 2) := by decide +kernel
theorem dX6_statement_227 : decode cX6_statement 227 = .ok (.goto 5, 3) := by decide +kernel
theorem dX6_statement_230 : decode cX6_statement 230 = .ok (.bipush 33, 2) := by decide +kernel
theorem dX6_statement_232 : decode cX6_statement 232 = .ok (.invokevirtual 232, 3) := by decide +kernel
theorem dX6_statement_235 : decode cX6_statement 235 = .ok (.iload_n 3, 1) := by decide +kernel
theorem dX6_statement_236 : decode cX6_statement 236 = .ok (.iconst 1, 1) := by decide +kernel
theorem dX6_statement_237 : decode cX6_statement 237 = .ok (.if_icmp .le 14, 3) := by decide +kernel
theorem dX6_statement_240 : decode cX6_statement 240 = .ok (.aload_n 0, 1) := by decide +kernel
theorem dX6_statement_241 : decode cX6_statement 241 = .ok (.iload_n 3, 1) := by decide +kernel
theorem dX6_statement_242 : decode cX6_statement 242 = .ok (.invokevirtual 235, 3) := by decide +kernel
theorem dX6_statement_245 : decode cX6_statement 245 = .ok (.aload_n 0, 1) := by decide +kernel
theorem dX6_statement_246 : decode cX6_statement 246 = .ok (.bipush 33, 2) := by decide +kernel
theorem dX6_statement_248 : decode cX6_statement 248 = .ok (.invokevirtual 232, 3) := by decide +kernel
theorem dX6_statement_251 : decode cX6_statement 251 = .ok (.iload_n 1, 1) := by decide +kernel
theorem dX6_statement_252 : decode cX6_statement 252 = .ok (.bipush 6, 2) := by decide +kernel
theorem dX6_statement_254 : decode cX6_statement 254 = .ok (.if_icmp .eq 15, 3) := by decide +kernel
theorem dX6_statement_257 : decode cX6_statement 257 = .ok (.iload_n 1, 1) := by decide +kernel
theorem dX6_statement_258 : decode cX6_statement 258 = .ok (.bipush 7, 2) := by decide +kernel
theorem dX6_statement_260 : decode cX6_statement 260 = .ok (.if_icmp .eq 9, 3) := by decide +kernel
theorem dX6_statement_263 : decode cX6_statement 263 = .ok (.iload_n 1, 1) := by decide +kernel
theorem dX6_statement_264 : decode cX6_statement 264 = .ok (.bipush 9, 2) := by decide +kernel
theorem dX6_statement_266 : decode cX6_statement 266 = .ok (.if_icmp .ne 4, 3) := by decide +kernel
theorem dX6_statement_269 : decode cX6_statement 269 = .ok (.return_, 1) := by decide +kernel
theorem dX6_statement_270 : decode cX6_statement 270 = .ok (.aload_n 0, 1) := by decide +kernel
theorem dX6_statement_271 : decode cX6_statement 271 = .ok (.iload_n 1, 1) := by decide +kernel
theorem dX6_statement_272 : decode cX6_statement 272 = .ok (.bipush 11, 2) := by decide +kernel
theorem dX6_statement_274 : decode cX6_statement 274 = .ok (.if_icmp .ne 8, 3) := by decide +kernel
theorem dX6_statement_277 : decode cX6_statement 277 = .ok (.iload 4, 2) := by decide +kernel
theorem dX6_statement_279 : decode cX6_statement 279 = .ok (.goto 4, 3) := by decide +kernel
theorem dX6_statement_282 : decode cX6_statement 282 = .ok (.iload_n 3, 1) := by decide +kernel
theorem dX6_statement_283 : decode cX6_statement 283 = .ok (.invokevirtual 235, 3) := by decide +kernel
theorem dX6_statement_286 : decode cX6_statement 286 = .ok (.iload_n 1, 1) := by decide +kernel
theorem dX6_statement_287 : decode cX6_statement 287 = .ok (.iconst 5, 1) := by decide +kernel
theorem dX6_statement_288 : decode cX6_statement 288 = .ok (.if_icmp .ne 9, 3) := by decide +kernel
theorem dX6_statement_291 : decode cX6_statement 291 = .ok (.aload_n 0, 1) := by decide +kernel
theorem dX6_statement_292 : decode cX6_statement 292 = .ok (.bipush 34, 2) := by decide +kernel
theorem dX6_statement_294 : decode cX6_statement 294 = .ok (.invokevirtual 232, 3) := by decide +kernel
theorem dX6_statement_297 : decode cX6_statement 297 = .ok (.iload_n 1, 1) := by decide +kernel
theorem dX6_statement_298 : decode cX6_statement 298 = .ok (.bipush 8, 2) := by decide +kernel
theorem dX6_statement_300 : decode cX6_statement 300 = .ok (.if_icmp .ne 9, 3) := by decide +kernel
theorem dX6_statement_303 : decode cX6_statement 303 = .ok (.aload_n 0, 1) := by decide +kernel
theorem dX6_statement_304 : decode cX6_statement 304 = .ok (.bipush 35, 2) := by decide +kernel
theorem dX6_statement_306 : decode cX6_statement 306 = .ok (.invokevirtual 232, 3) := by decide +kernel
theorem dX6_statement_309 : decode cX6_statement 309 = .ok (.return_, 1) := by decide +kernel
set_option maxRecDepth 20000 in
theorem ggX6_sentence_X6_isRow : GoodIn wsX6_sentence wsX6_isRow := goodIn_r _ [10, 11, 68, 69, 70, 71, 72, 73, 74, 75, 76, 77, 78, 79, 80, 81, 82, 83, 84] (by decide +kernel) (by decide +kernel)
set_option maxRecDepth 20000 in
theorem gX6_sentence_X6_isRow : GoodIn wsX6_sentence (wsV RX6 174 RX6 yX6_isRow wsX6_isRow) := goodIn_app (goodIn_of _ (by decide +kernel)) ggX6_sentence_X6_isRow
set_option maxRecDepth 20000 in
theorem ggX6_sentence_X6_work : GoodIn wsX6_sentence wsX6_work := goodIn_r _ [15, 4, 3, 16, 17, 18, 9, 19, 2, 20, 21, 22, 23, 24, 25, 26, 5, 27, 28, 29, 30, 31, 32, 33, 34, 35, 36, 37, 38, 39, 40, 41, 42, 43, 44, 45, 46, 47, 48, 49, 68, 69, 70, 71, 72, 73, 74, 75, 76, 77, 78, 79, 80, 81, 82, 83, 84] (by decide +kernel) (by decide +kernel)
set_option maxRecDepth 20000 in
theorem gX6_sentence_X6_work : GoodIn wsX6_sentence (wsV RX6 215 RX6 yX6_work wsX6_work) := goodIn_app (goodIn_of _ (by decide +kernel)) ggX6_sentence_X6_work
set_option maxRecDepth 20000 in
theorem ggX6_sentence_X6_number : GoodIn wsX6_sentence wsX6_number := goodIn_r _ [53, 54, 1, 68, 69, 70, 71, 72, 73, 74, 75, 76, 77, 78, 79, 80, 81, 82, 83, 84] (by decide +kernel) (by decide +kernel)
set_option maxRecDepth 20000 in
theorem gX6_sentence_X6_number : GoodIn wsX6_sentence (wsV RX6 235 RX6 yX6_number wsX6_number) := goodIn_app (goodIn_of _ (by decide +kernel)) ggX6_sentence_X6_number
set_option maxRecDepth 20000 in
theorem ggX6_sentence_X6_put : GoodIn wsX6_sentence wsX6_put := goodIn_r _ [58, 59, 60, 54, 1, 68, 69, 70, 71, 72, 73, 74, 75, 76, 77, 78, 79, 80, 81, 82, 83, 84] (by decide +kernel) (by decide +kernel)
set_option maxRecDepth 20000 in
theorem gX6_sentence_X6_put : GoodIn wsX6_sentence (wsV RX6 232 RX6 yX6_put wsX6_put) := goodIn_app (goodIn_of _ (by decide +kernel)) ggX6_sentence_X6_put
set_option maxRecDepth 20000 in
theorem ggX6_sentence_X6_statement : GoodIn wsX6_sentence wsX6_statement := goodIn_r _ [64, 55, 56, 57, 9, 58, 59, 60, 54, 1, 50, 51, 52, 53, 68, 69, 70, 71, 72, 73, 74, 75, 76, 77, 78, 79, 80, 81, 82, 83, 84] (by decide +kernel) (by decide +kernel)
set_option maxRecDepth 20000 in
theorem gX6_sentence_X6_statement : GoodIn wsX6_sentence (wsV RX6 238 RX6 yX6_statement wsX6_statement) := goodIn_app (goodIn_of _ (by decide +kernel)) ggX6_sentence_X6_statement
set_option maxRecDepth 20000 in
theorem ggX6_sentence_X6_wordOf : GoodIn wsX6_sentence wsX6_wordOf := goodIn_r _ [67] (by decide +kernel) (by decide +kernel)
set_option maxRecDepth 20000 in
theorem gX6_sentence_X6_wordOf : GoodIn wsX6_sentence (va_wsS RX6 241 yX6_wordOf wsX6_wordOf) := goodIn_app (goodIn_of _ (by decide +kernel)) ggX6_sentence_X6_wordOf
theorem dX6_sentence_0 : decode cX6_sentence 0 = .ok (.aload_n 0, 1) := by decide +kernel
theorem dX6_sentence_1 : decode cX6_sentence 1 = .ok (.iload_n 1, 1) := by decide +kernel
theorem dX6_sentence_2 : decode cX6_sentence 2 = .ok (.invokevirtual 174, 3) := by decide +kernel
theorem dX6_sentence_5 : decode cX6_sentence 5 = .ok (.ifCond .ne 5, 3) := by decide +kernel
theorem dX6_sentence_8 : decode cX6_sentence 8 = .ok (.iconst (-1), 1) := by decide +kernel
theorem dX6_sentence_9 : decode cX6_sentence 9 = .ok (.ireturn, 1) := by decide +kernel
theorem dX6_sentence_10 : decode cX6_sentence 10 = .ok (.aload_n 0, 1) := by decide +kernel
theorem dX6_sentence_11 : decode cX6_sentence 11 = .ok (.iload_n 1, 1) := by decide +kernel
theorem dX6_sentence_12 : decode cX6_sentence 12 = .ok (.invokevirtual 215, 3) := by decide +kernel
theorem dX6_sentence_15 : decode cX6_sentence 15 = .ok (.aload_n 0, 1) := by decide +kernel
theorem dX6_sentence_16 : decode cX6_sentence 16 = .ok (.iconst 0, 1) := by decide +kernel
theorem dX6_sentence_17 : decode cX6_sentence 17 = .ok (.putfield 229, 3) := by decide +kernel
theorem dX6_sentence_20 : decode cX6_sentence 20 = .ok (.aload_n 0, 1) := by decide +kernel
theorem dX6_sentence_21 : decode cX6_sentence 21 = .ok (.iload_n 1, 1) := by decide +kernel
theorem dX6_sentence_22 : decode cX6_sentence 22 = .ok (.invokevirtual 235, 3) := by decide +kernel
theorem dX6_sentence_25 : decode cX6_sentence 25 = .ok (.aload_n 0, 1) := by decide +kernel
theorem dX6_sentence_26 : decode cX6_sentence 26 = .ok (.bipush 36, 2) := by decide +kernel
theorem dX6_sentence_28 : decode cX6_sentence 28 = .ok (.invokevirtual 232, 3) := by decide +kernel
theorem dX6_sentence_31 : decode cX6_sentence 31 = .ok (.aload_n 0, 1) := by decide +kernel
theorem dX6_sentence_32 : decode cX6_sentence 32 = .ok (.aload_n 0, 1) := by decide +kernel
theorem dX6_sentence_33 : decode cX6_sentence 33 = .ok (.getfield 140, 3) := by decide +kernel
theorem dX6_sentence_36 : decode cX6_sentence 36 = .ok (.iconst 4, 1) := by decide +kernel
theorem dX6_sentence_37 : decode cX6_sentence 37 = .ok (.iload_n 1, 1) := by decide +kernel
theorem dX6_sentence_38 : decode cX6_sentence 38 = .ok (.imul, 1) := by decide +kernel
theorem dX6_sentence_39 : decode cX6_sentence 39 = .ok (.iaload, 1) := by decide +kernel
theorem dX6_sentence_40 : decode cX6_sentence 40 = .ok (.aload_n 0, 1) := by decide +kernel
theorem dX6_sentence_41 : decode cX6_sentence 41 = .ok (.getfield 140, 3) := by decide +kernel
theorem dX6_sentence_44 : decode cX6_sentence 44 = .ok (.iconst 4, 1) := by decide +kernel
theorem dX6_sentence_45 : decode cX6_sentence 45 = .ok (.iload_n 1, 1) := by decide +kernel
theorem dX6_sentence_46 : decode cX6_sentence 46 = .ok (.imul, 1) := by decide +kernel
theorem dX6_sentence_47 : decode cX6_sentence 47 = .ok (.iconst 1, 1) := by decide +kernel
theorem dX6_sentence_48 : decode cX6_sentence 48 = .ok (.iadd, 1) := by decide +kernel
theorem dX6_sentence_49 : decode cX6_sentence 49 = .ok (.iaload, 1) := by decide +kernel
theorem dX6_sentence_50 : decode cX6_sentence 50 = .ok (.aload_n 0, 1) := by decide +kernel
theorem dX6_sentence_51 : decode cX6_sentence 51 = .ok (.getfield 140, 3) := by decide +kernel
theorem dX6_sentence_54 : decode cX6_sentence 54 = .ok (.iconst 4, 1) := by decide +kernel
theorem dX6_sentence_55 : decode cX6_sentence 55 = .ok (.iload_n 1, 1) := by decide +kernel
theorem dX6_sentence_56 : decode cX6_sentence 56 = .ok (.imul, 1) := by decide +kernel
theorem dX6_sentence_57 : decode cX6_sentence 57 = .ok (.iconst 2, 1) := by decide +kernel
theorem dX6_sentence_58 : decode cX6_sentence 58 = .ok (.iadd, 1) := by decide +kernel
theorem dX6_sentence_59 : decode cX6_sentence 59 = .ok (.iaload, 1) := by decide +kernel
theorem dX6_sentence_60 : decode cX6_sentence 60 = .ok (.aload_n 0, 1) := by decide +kernel
theorem dX6_sentence_61 : decode cX6_sentence 61 = .ok (.getfield 140, 3) := by decide +kernel
theorem dX6_sentence_64 : decode cX6_sentence 64 = .ok (.iconst 4, 1) := by decide +kernel
theorem dX6_sentence_65 : decode cX6_sentence 65 = .ok (.iload_n 1, 1) := by decide +kernel
theorem dX6_sentence_66 : decode cX6_sentence 66 = .ok (.imul, 1) := by decide +kernel
theorem dX6_sentence_67 : decode cX6_sentence 67 = .ok (.iconst 3, 1) := by decide +kernel
theorem dX6_sentence_68 : decode cX6_sentence 68 = .ok (.iadd, 1) := by decide +kernel
theorem dX6_sentence_69 : decode cX6_sentence 69 = .ok (.iaload, 1) := by decide +kernel
theorem dX6_sentence_70 : decode cX6_sentence 70 = .ok (.invokevirtual 238, 3) := by decide +kernel
theorem dX6_sentence_73 : decode cX6_sentence 73 = .ok (.aload_n 0, 1) := by decide +kernel
theorem dX6_sentence_74 : decode cX6_sentence 74 = .ok (.bipush 37, 2) := by decide +kernel
theorem dX6_sentence_76 : decode cX6_sentence 76 = .ok (.invokevirtual 232, 3) := by decide +kernel
theorem dX6_sentence_79 : decode cX6_sentence 79 = .ok (.aload_n 0, 1) := by decide +kernel
theorem dX6_sentence_80 : decode cX6_sentence 80 = .ok (.aload_n 0, 1) := by decide +kernel
theorem dX6_sentence_81 : decode cX6_sentence 81 = .ok (.getfield 128, 3) := by decide +kernel
theorem dX6_sentence_84 : decode cX6_sentence 84 = .ok (.iload_n 1, 1) := by decide +kernel
theorem dX6_sentence_85 : decode cX6_sentence 85 = .ok (.iaload, 1) := by decide +kernel
theorem dX6_sentence_86 : decode cX6_sentence 86 = .ok (.invokestatic 241, 3) := by decide +kernel
theorem dX6_sentence_89 : decode cX6_sentence 89 = .ok (.invokevirtual 232, 3) := by decide +kernel
theorem dX6_sentence_92 : decode cX6_sentence 92 = .ok (.iconst 0, 1) := by decide +kernel
theorem dX6_sentence_93 : decode cX6_sentence 93 = .ok (.istore_n 2, 1) := by decide +kernel
theorem dX6_sentence_94 : decode cX6_sentence 94 = .ok (.iload_n 2, 1) := by decide +kernel
theorem dX6_sentence_95 : decode cX6_sentence 95 = .ok (.aload_n 0, 1) := by decide +kernel
theorem dX6_sentence_96 : decode cX6_sentence 96 = .ok (.getfield 134, 3) := by decide +kernel
theorem dX6_sentence_99 : decode cX6_sentence 99 = .ok (.iload_n 1, 1) := by decide +kernel
theorem dX6_sentence_100 : decode cX6_sentence 100 = .ok (.iaload, 1) := by decide +kernel
theorem dX6_sentence_101 : decode cX6_sentence 101 = .ok (.if_icmp .ge 38, 3) := by decide +kernel
theorem dX6_sentence_104 : decode cX6_sentence 104 = .ok (.aload_n 0, 1) := by decide +kernel
theorem dX6_sentence_105 : decode cX6_sentence 105 = .ok (.iload_n 2, 1) := by decide +kernel
theorem dX6_sentence_106 : decode cX6_sentence 106 = .ok (.ifCond .ne 8, 3) := by decide +kernel
theorem dX6_sentence_109 : decode cX6_sentence 109 = .ok (.bipush 38, 2) := by decide +kernel
theorem dX6_sentence_111 : decode cX6_sentence 111 = .ok (.goto 5, 3) := by decide +kernel
theorem dX6_sentence_114 : decode cX6_sentence 114 = .ok (.bipush 39, 2) := by decide +kernel
theorem dX6_sentence_116 : decode cX6_sentence 116 = .ok (.invokevirtual 232, 3) := by decide +kernel
theorem dX6_sentence_119 : decode cX6_sentence 119 = .ok (.aload_n 0, 1) := by decide +kernel
theorem dX6_sentence_120 : decode cX6_sentence 120 = .ok (.aload_n 0, 1) := by decide +kernel
theorem dX6_sentence_121 : decode cX6_sentence 121 = .ok (.getfield 137, 3) := by decide +kernel
theorem dX6_sentence_124 : decode cX6_sentence 124 = .ok (.iconst 3, 1) := by decide +kernel
theorem dX6_sentence_125 : decode cX6_sentence 125 = .ok (.iload_n 1, 1) := by decide +kernel
theorem dX6_sentence_126 : decode cX6_sentence 126 = .ok (.imul, 1) := by decide +kernel
theorem dX6_sentence_127 : decode cX6_sentence 127 = .ok (.iload_n 2, 1) := by decide +kernel
theorem dX6_sentence_128 : decode cX6_sentence 128 = .ok (.iadd, 1) := by decide +kernel
theorem dX6_sentence_129 : decode cX6_sentence 129 = .ok (.iaload, 1) := by decide +kernel
theorem dX6_sentence_130 : decode cX6_sentence 130 = .ok (.invokevirtual 235, 3) := by decide +kernel
theorem dX6_sentence_133 : decode cX6_sentence 133 = .ok (.iinc 2 1, 3) := by decide +kernel
theorem dX6_sentence_136 : decode cX6_sentence 136 = .ok (.goto (-42), 3) := by decide +kernel
theorem dX6_sentence_139 : decode cX6_sentence 139 = .ok (.aload_n 0, 1) := by decide +kernel
theorem dX6_sentence_140 : decode cX6_sentence 140 = .ok (.bipush 40, 2) := by decide +kernel
theorem dX6_sentence_142 : decode cX6_sentence 142 = .ok (.invokevirtual 232, 3) := by decide +kernel
theorem dX6_sentence_145 : decode cX6_sentence 145 = .ok (.aload_n 0, 1) := by decide +kernel
theorem dX6_sentence_146 : decode cX6_sentence 146 = .ok (.getfield 229, 3) := by decide +kernel
theorem dX6_sentence_149 : decode cX6_sentence 149 = .ok (.ireturn, 1) := by decide +kernel
theorem dX6_at_0 : decode cX6_at 0 = .ok (.iload_n 1, 1) := by decide +kernel
theorem dX6_at_1 : decode cX6_at 1 = .ok (.ifCond .lt 20, 3) := by decide +kernel
theorem dX6_at_4 : decode cX6_at 4 = .ok (.iload_n 1, 1) := by decide +kernel
theorem dX6_at_5 : decode cX6_at 5 = .ok (.aload_n 0, 1) := by decide +kernel
theorem dX6_at_6 : decode cX6_at 6 = .ok (.getfield 229, 3) := by decide +kernel
theorem dX6_at_9 : decode cX6_at 9 = .ok (.if_icmp .ge 12, 3) := by decide +kernel
theorem dX6_at_12 : decode cX6_at 12 = .ok (.aload_n 0, 1) := by decide +kernel
theorem dX6_at_13 : decode cX6_at 13 = .ok (.getfield 147, 3) := by decide +kernel
theorem dX6_at_16 : decode cX6_at 16 = .ok (.iload_n 1, 1) := by decide +kernel
theorem dX6_at_17 : decode cX6_at 17 = .ok (.iaload, 1) := by decide +kernel
theorem dX6_at_18 : decode cX6_at 18 = .ok (.goto 5, 3) := by decide +kernel
theorem dX6_at_21 : decode cX6_at 21 = .ok (.bipush (-2), 2) := by decide +kernel
theorem dX6_at_23 : decode cX6_at 23 = .ok (.ireturn, 1) := by decide +kernel
set_option maxRecDepth 20000 in
theorem ggJ5_init_d00df_J2_newBytesFor_77867 : GoodIn wsJ5_init_d00df wsJ2_newBytesFor_77867 := goodIn_r _ [11, 5, 12, 13, 10, 14, 15] (by decide +kernel) (by decide +kernel)
set_option maxRecDepth 20000 in
theorem gJ5_init_d00df_J2_newBytesFor_77867 : GoodIn wsJ5_init_d00df (va_wsS RJ5 26 yJ2_newBytesFor_77867 wsJ2_newBytesFor_77867) := goodIn_app (goodIn_of _ (by decide +kernel)) ggJ5_init_d00df_J2_newBytesFor_77867
theorem dJ5_init_d00df_0 : decode cJ5_init_d00df 0 = .ok (.aload_n 0, 1) := by decide +kernel
theorem dJ5_init_d00df_1 : decode cJ5_init_d00df 1 = .ok (.invokespecial 3, 3) := by decide +kernel
theorem dJ5_init_d00df_4 : decode cJ5_init_d00df 4 = .ok (.getstatic 18, 3) := by decide +kernel
theorem dJ5_init_d00df_7 : decode cJ5_init_d00df 7 = .ok (.ifCond .eq 18, 3) := by decide +kernel
theorem dJ5_init_d00df_10 : decode cJ5_init_d00df 10 = .ok (.aload_n 0, 1) := by decide +kernel
theorem dJ5_init_d00df_11 : decode cJ5_init_d00df 11 = .ok (.iload_n 1, 1) := by decide +kernel
theorem dJ5_init_d00df_12 : decode cJ5_init_d00df 12 = .ok (.newarray .byte, 2) := by decide +kernel
theorem dJ5_init_d00df_14 : decode cJ5_init_d00df 14 = .ok (.putfield 15, 3) := by decide +kernel
theorem dJ5_init_d00df_17 : decode cJ5_init_d00df 17 = .ok (.aload_n 0, 1) := by decide +kernel
theorem dJ5_init_d00df_18 : decode cJ5_init_d00df 18 = .ok (.iconst 0, 1) := by decide +kernel
theorem dJ5_init_d00df_19 : decode cJ5_init_d00df 19 = .ok (.putfield 22, 3) := by decide +kernel
theorem dJ5_init_d00df_22 : decode cJ5_init_d00df 22 = .ok (.goto 16, 3) := by decide +kernel
theorem dJ5_init_d00df_25 : decode cJ5_init_d00df 25 = .ok (.aload_n 0, 1) := by decide +kernel
theorem dJ5_init_d00df_26 : decode cJ5_init_d00df 26 = .ok (.iload_n 1, 1) := by decide +kernel
theorem dJ5_init_d00df_27 : decode cJ5_init_d00df 27 = .ok (.invokestatic 26, 3) := by decide +kernel
theorem dJ5_init_d00df_30 : decode cJ5_init_d00df 30 = .ok (.putfield 15, 3) := by decide +kernel
theorem dJ5_init_d00df_33 : decode cJ5_init_d00df 33 = .ok (.aload_n 0, 1) := by decide +kernel
theorem dJ5_init_d00df_34 : decode cJ5_init_d00df 34 = .ok (.iconst 1, 1) := by decide +kernel
theorem dJ5_init_d00df_35 : decode cJ5_init_d00df 35 = .ok (.putfield 22, 3) := by decide +kernel
theorem dJ5_init_d00df_38 : decode cJ5_init_d00df 38 = .ok (.return_, 1) := by decide +kernel
theorem dJ5_length_8abf5_0 : decode cJ5_length_8abf5 0 = .ok (.aload_n 0, 1) := by decide +kernel
theorem dJ5_length_8abf5_1 : decode cJ5_length_8abf5 1 = .ok (.getfield 79, 3) := by decide +kernel
theorem dJ5_length_8abf5_4 : decode cJ5_length_8abf5 4 = .ok (.ireturn, 1) := by decide +kernel
set_option maxRecDepth 20000 in
theorem ggJ5_ensureCapacityInternal_d00df_J5_newCapacity_0f7a4 : GoodIn wsJ5_ensureCapacityInternal_d00df wsJ5_newCapacity_0f7a4 := goodIn_r _ [8, 1, 2, 9, 10, 11, 12, 13, 14, 15, 16, 17, 18, 19, 20, 21, 40, 41, 42, 43] (by decide +kernel) (by decide +kernel)
set_option maxRecDepth 20000 in
theorem gJ5_ensureCapacityInternal_d00df_J5_newCapacity_0f7a4_u104J4 : GoodIn wsJ5_ensureCapacityInternal_d00df (va_wsU RJ5 104 RJ4 "java/lang/AbstractStringBuilder" ⟨"java/lang/AbstractStringBuilder", "newCapacity", "(I)I"⟩ yJ5_newCapacity_0f7a4 wsJ5_newCapacity_0f7a4) := goodIn_app (goodIn_of _ (by decide +kernel)) ggJ5_ensureCapacityInternal_d00df_J5_newCapacity_0f7a4
set_option maxRecDepth 20000 in
theorem ggJ5_ensureCapacityInternal_d00df_J7_copyOf_9075b : GoodIn wsJ5_ensureCapacityInternal_d00df wsJ7_copyOf_9075b := goodIn_r _ [25, 26, 27, 28, 29, 30, 31, 32, 33, 34, 16, 35, 36, 37, 38, 39] (by decide +kernel) (by decide +kernel)
set_option maxRecDepth 20000 in
theorem gJ5_ensureCapacityInternal_d00df_J7_copyOf_9075b : GoodIn wsJ5_ensureCapacityInternal_d00df (va_wsS RJ5 108 yJ7_copyOf_9075b wsJ7_copyOf_9075b) := goodIn_app (goodIn_of _ (by decide +kernel)) ggJ5_ensureCapacityInternal_d00df_J7_copyOf_9075b
theorem dJ5_ensureCapacityInternal_d00df_0 : decode cJ5_ensureCapacityInternal_d00df 0 = .ok (.aload_n 0, 1) := by decide +kernel
theorem dJ5_ensureCapacityInternal_d00df_1 : decode cJ5_ensureCapacityInternal_d00df 1 = .ok (.getfield 15, 3) := by decide +kernel
theorem dJ5_ensureCapacityInternal_d00df_4 : decode cJ5_ensureCapacityInternal_d00df 4 = .ok (.arraylength, 1) := by decide +kernel
theorem dJ5_ensureCapacityInternal_d00df_5 : decode cJ5_ensureCapacityInternal_d00df 5 = .ok (.aload_n 0, 1) := by decide +kernel
theorem dJ5_ensureCapacityInternal_d00df_6 : decode cJ5_ensureCapacityInternal_d00df 6 = .ok (.getfield 22, 3) := by decide +kernel
theorem dJ5_ensureCapacityInternal_d00df_9 : decode cJ5_ensureCapacityInternal_d00df 9 = .ok (.ishr, 1) := by decide +kernel
theorem dJ5_ensureCapacityInternal_d00df_10 : decode cJ5_ensureCapacityInternal_d00df 10 = .ok (.istore_n 2, 1) := by decide +kernel
theorem dJ5_ensureCapacityInternal_d00df_11 : decode cJ5_ensureCapacityInternal_d00df 11 = .ok (.iload_n 1, 1) := by decide +kernel
theorem dJ5_ensureCapacityInternal_d00df_12 : decode cJ5_ensureCapacityInternal_d00df 12 = .ok (.iload_n 2, 1) := by decide +kernel
theorem dJ5_ensureCapacityInternal_d00df_13 : decode cJ5_ensureCapacityInternal_d00df 13 = .ok (.isub, 1) := by decide +kernel
theorem dJ5_ensureCapacityInternal_d00df_14 : decode cJ5_ensureCapacityInternal_d00df 14 = .ok (.ifCond .le 24, 3) := by decide +kernel
theorem dJ5_ensureCapacityInternal_d00df_17 : decode cJ5_ensureCapacityInternal_d00df 17 = .ok (.aload_n 0, 1) := by decide +kernel
theorem dJ5_ensureCapacityInternal_d00df_18 : decode cJ5_ensureCapacityInternal_d00df 18 = .ok (.aload_n 0, 1) := by decide +kernel
theorem dJ5_ensureCapacityInternal_d00df_19 : decode cJ5_ensureCapacityInternal_d00df 19 = .ok (.getfield 15, 3) := by decide +kernel
theorem dJ5_ensureCapacityInternal_d00df_22 : decode cJ5_ensureCapacityInternal_d00df 22 = .ok (.aload_n 0, 1) := by decide +kernel
theorem dJ5_ensureCapacityInternal_d00df_23 : decode cJ5_ensureCapacityInternal_d00df 23 = .ok (.iload_n 1, 1) := by decide +kernel
theorem dJ5_ensureCapacityInternal_d00df_24 : decode cJ5_ensureCapacityInternal_d00df 24 = .ok (.invokevirtual 104, 3) := by decide +kernel
theorem dJ5_ensureCapacityInternal_d00df_27 : decode cJ5_ensureCapacityInternal_d00df 27 = .ok (.aload_n 0, 1) := by decide +kernel
theorem dJ5_ensureCapacityInternal_d00df_28 : decode cJ5_ensureCapacityInternal_d00df 28 = .ok (.getfield 22, 3) := by decide +kernel
theorem dJ5_ensureCapacityInternal_d00df_31 : decode cJ5_ensureCapacityInternal_d00df 31 = .ok (.ishl, 1) := by decide +kernel
theorem dJ5_ensureCapacityInternal_d00df_32 : decode cJ5_ensureCapacityInternal_d00df 32 = .ok (.invokestatic 108, 3) := by decide +kernel
theorem dJ5_ensureCapacityInternal_d00df_35 : decode cJ5_ensureCapacityInternal_d00df 35 = .ok (.putfield 15, 3) := by decide +kernel
theorem dJ5_ensureCapacityInternal_d00df_38 : decode cJ5_ensureCapacityInternal_d00df 38 = .ok (.return_, 1) := by decide +kernel
set_option maxRecDepth 20000 in
theorem ggJ5_newCapacity_0f7a4_J8_newLength_cabcc : GoodIn wsJ5_newCapacity_0f7a4 wsJ8_newLength_cabcc := goodIn_r _ [7, 8, 9, 10, 11, 12, 13, 14, 6, 15] (by decide +kernel) (by decide +kernel)
set_option maxRecDepth 20000 in
theorem gJ5_newCapacity_0f7a4_J8_newLength_cabcc : GoodIn wsJ5_newCapacity_0f7a4 (va_wsS RJ5 114 yJ8_newLength_cabcc wsJ8_newLength_cabcc) := goodIn_app (goodIn_of _ (by decide +kernel)) ggJ5_newCapacity_0f7a4_J8_newLength_cabcc
theorem dJ5_newCapacity_0f7a4_0 : decode cJ5_newCapacity_0f7a4 0 = .ok (.aload_n 0, 1) := by decide +kernel
theorem dJ5_newCapacity_0f7a4_1 : decode cJ5_newCapacity_0f7a4 1 = .ok (.getfield 15, 3) := by decide +kernel
theorem dJ5_newCapacity_0f7a4_4 : decode cJ5_newCapacity_0f7a4 4 = .ok (.arraylength, 1) := by decide +kernel
theorem dJ5_newCapacity_0f7a4_5 : decode cJ5_newCapacity_0f7a4 5 = .ok (.istore_n 2, 1) := by decide +kernel
theorem dJ5_newCapacity_0f7a4_6 : decode cJ5_newCapacity_0f7a4 6 = .ok (.iload_n 1, 1) := by decide +kernel
theorem dJ5_newCapacity_0f7a4_7 : decode cJ5_newCapacity_0f7a4 7 = .ok (.aload_n 0, 1) := by decide +kernel
theorem dJ5_newCapacity_0f7a4_8 : decode cJ5_newCapacity_0f7a4 8 = .ok (.getfield 22, 3) := by decide +kernel
theorem dJ5_newCapacity_0f7a4_11 : decode cJ5_newCapacity_0f7a4 11 = .ok (.ishl, 1) := by decide +kernel
theorem dJ5_newCapacity_0f7a4_12 : decode cJ5_newCapacity_0f7a4 12 = .ok (.istore_n 3, 1) := by decide +kernel
theorem dJ5_newCapacity_0f7a4_13 : decode cJ5_newCapacity_0f7a4 13 = .ok (.iload_n 3, 1) := by decide +kernel
theorem dJ5_newCapacity_0f7a4_14 : decode cJ5_newCapacity_0f7a4 14 = .ok (.iload_n 2, 1) := by decide +kernel
theorem dJ5_newCapacity_0f7a4_15 : decode cJ5_newCapacity_0f7a4 15 = .ok (.isub, 1) := by decide +kernel
theorem dJ5_newCapacity_0f7a4_16 : decode cJ5_newCapacity_0f7a4 16 = .ok (.istore 4, 2) := by decide +kernel
theorem dJ5_newCapacity_0f7a4_18 : decode cJ5_newCapacity_0f7a4 18 = .ok (.iload_n 2, 1) := by decide +kernel
theorem dJ5_newCapacity_0f7a4_19 : decode cJ5_newCapacity_0f7a4 19 = .ok (.iload 4, 2) := by decide +kernel
theorem dJ5_newCapacity_0f7a4_21 : decode cJ5_newCapacity_0f7a4 21 = .ok (.iload_n 2, 1) := by decide +kernel
theorem dJ5_newCapacity_0f7a4_22 : decode cJ5_newCapacity_0f7a4 22 = .ok (.iconst 2, 1) := by decide +kernel
theorem dJ5_newCapacity_0f7a4_23 : decode cJ5_newCapacity_0f7a4 23 = .ok (.aload_n 0, 1) := by decide +kernel
theorem dJ5_newCapacity_0f7a4_24 : decode cJ5_newCapacity_0f7a4 24 = .ok (.getfield 22, 3) := by decide +kernel
theorem dJ5_newCapacity_0f7a4_27 : decode cJ5_newCapacity_0f7a4 27 = .ok (.ishl, 1) := by decide +kernel
theorem dJ5_newCapacity_0f7a4_28 : decode cJ5_newCapacity_0f7a4 28 = .ok (.iadd, 1) := by decide +kernel
theorem dJ5_newCapacity_0f7a4_29 : decode cJ5_newCapacity_0f7a4 29 = .ok (.invokestatic 114, 3) := by decide +kernel
theorem dJ5_newCapacity_0f7a4_32 : decode cJ5_newCapacity_0f7a4 32 = .ok (.istore 5, 2) := by decide +kernel
theorem dJ5_newCapacity_0f7a4_34 : decode cJ5_newCapacity_0f7a4 34 = .ok (.iload 5, 2) := by decide +kernel
theorem dJ5_newCapacity_0f7a4_36 : decode cJ5_newCapacity_0f7a4 36 = .ok (.ldc 39, 2) := by decide +kernel
theorem dJ5_newCapacity_0f7a4_38 : decode cJ5_newCapacity_0f7a4 38 = .ok (.if_icmp .ne 13, 3) := by decide +kernel
theorem dJ5_newCapacity_0f7a4_41 : decode cJ5_newCapacity_0f7a4 41 = .ok (.new 120, 3) := by decide +kernel
theorem dJ5_newCapacity_0f7a4_44 : decode cJ5_newCapacity_0f7a4 44 = .ok (.dup, 1) := by decide +kernel
theorem dJ5_newCapacity_0f7a4_45 : decode cJ5_newCapacity_0f7a4 45 = .ok (.ldc 122, 2) := by decide +kernel
theorem dJ5_newCapacity_0f7a4_47 : decode cJ5_newCapacity_0f7a4 47 = .ok (.invokespecial 124, 3) := by decide +kernel
theorem dJ5_newCapacity_0f7a4_50 : decode cJ5_newCapacity_0f7a4 50 = .ok (.athrow, 1) := by decide +kernel
theorem dJ5_newCapacity_0f7a4_51 : decode cJ5_newCapacity_0f7a4 51 = .ok (.iload 5, 2) := by decide +kernel
theorem dJ5_newCapacity_0f7a4_53 : decode cJ5_newCapacity_0f7a4 53 = .ok (.aload_n 0, 1) := by decide +kernel
theorem dJ5_newCapacity_0f7a4_54 : decode cJ5_newCapacity_0f7a4 54 = .ok (.getfield 22, 3) := by decide +kernel
theorem dJ5_newCapacity_0f7a4_57 : decode cJ5_newCapacity_0f7a4 57 = .ok (.ishr, 1) := by decide +kernel
theorem dJ5_newCapacity_0f7a4_58 : decode cJ5_newCapacity_0f7a4 58 = .ok (.ireturn, 1) := by decide +kernel
set_option maxRecDepth 20000 in
theorem ggJ5_inflate_da8c8_J5_isLatin1_aae02 : GoodIn wsJ5_inflate_da8c8 wsJ5_isLatin1_aae02 := goodIn_r _ [9, 10, 3, 48, 49, 50, 51] (by decide +kernel) (by decide +kernel)
set_option maxRecDepth 20000 in
theorem gJ5_inflate_da8c8_J5_isLatin1_aae02_u83J4 : GoodIn wsJ5_inflate_da8c8 (va_wsU RJ5 83 RJ4 "java/lang/AbstractStringBuilder" ⟨"java/lang/AbstractStringBuilder", "isLatin1", "()Z"⟩ yJ5_isLatin1_aae02 wsJ5_isLatin1_aae02) := goodIn_app (goodIn_of _ (by decide +kernel)) ggJ5_inflate_da8c8_J5_isLatin1_aae02
set_option maxRecDepth 20000 in
theorem ggJ5_inflate_da8c8_J2_newBytesFor_77867 : GoodIn wsJ5_inflate_da8c8 wsJ2_newBytesFor_77867 := goodIn_r _ [14, 15, 16, 17, 13, 18, 19] (by decide +kernel) (by decide +kernel)
set_option maxRecDepth 20000 in
theorem gJ5_inflate_da8c8_J2_newBytesFor_77867 : GoodIn wsJ5_inflate_da8c8 (va_wsS RJ5 26 yJ2_newBytesFor_77867 wsJ2_newBytesFor_77867) := goodIn_app (goodIn_of _ (by decide +kernel)) ggJ5_inflate_da8c8_J2_newBytesFor_77867
set_option maxRecDepth 20000 in
theorem ggJ5_inflate_da8c8_J1_inflate_0e8fd : GoodIn wsJ5_inflate_da8c8 wsJ1_inflate_0e8fd := goodIn_r _ [23, 24, 25, 13, 26, 27, 28, 29, 30, 31, 32, 33, 34, 35, 36, 37, 38, 39, 40, 41, 42, 43, 44, 45, 46, 47] (by decide +kernel) (by decide +kernel)
set_option maxRecDepth 20000 in
theorem gJ5_inflate_da8c8_J1_inflate_0e8fd : GoodIn wsJ5_inflate_da8c8 (va_wsS RJ5 125 yJ1_inflate_0e8fd wsJ1_inflate_0e8fd) := goodIn_app (goodIn_of _ (by decide +kernel)) ggJ5_inflate_da8c8_J1_inflate_0e8fd
theorem dJ5_inflate_da8c8_0 : decode cJ5_inflate_da8c8 0 = .ok (.aload_n 0, 1) := by decide +kernel
theorem dJ5_inflate_da8c8_1 : decode cJ5_inflate_da8c8 1 = .ok (.invokevirtual 83, 3) := by decide +kernel
theorem dJ5_inflate_da8c8_4 : decode cJ5_inflate_da8c8 4 = .ok (.ifCond .ne 4, 3) := by decide +kernel
theorem dJ5_inflate_da8c8_7 : decode cJ5_inflate_da8c8 7 = .ok (.return_, 1) := by decide +kernel
theorem dJ5_inflate_da8c8_8 : decode cJ5_inflate_da8c8 8 = .ok (.aload_n 0, 1) := by decide +kernel
theorem dJ5_inflate_da8c8_9 : decode cJ5_inflate_da8c8 9 = .ok (.getfield 15, 3) := by decide +kernel
theorem dJ5_inflate_da8c8_12 : decode cJ5_inflate_da8c8 12 = .ok (.arraylength, 1) := by decide +kernel
theorem dJ5_inflate_da8c8_13 : decode cJ5_inflate_da8c8 13 = .ok (.invokestatic 26, 3) := by decide +kernel
theorem dJ5_inflate_da8c8_16 : decode cJ5_inflate_da8c8 16 = .ok (.astore_n 1, 1) := by decide +kernel
theorem dJ5_inflate_da8c8_17 : decode cJ5_inflate_da8c8 17 = .ok (.aload_n 0, 1) := by decide +kernel
theorem dJ5_inflate_da8c8_18 : decode cJ5_inflate_da8c8 18 = .ok (.getfield 15, 3) := by decide +kernel
theorem dJ5_inflate_da8c8_21 : decode cJ5_inflate_da8c8 21 = .ok (.iconst 0, 1) := by decide +kernel
theorem dJ5_inflate_da8c8_22 : decode cJ5_inflate_da8c8 22 = .ok (.aload_n 1, 1) := by decide +kernel
theorem dJ5_inflate_da8c8_23 : decode cJ5_inflate_da8c8 23 = .ok (.iconst 0, 1) := by decide +kernel
theorem dJ5_inflate_da8c8_24 : decode cJ5_inflate_da8c8 24 = .ok (.aload_n 0, 1) := by decide +kernel
theorem dJ5_inflate_da8c8_25 : decode cJ5_inflate_da8c8 25 = .ok (.getfield 79, 3) := by decide +kernel
theorem dJ5_inflate_da8c8_28 : decode cJ5_inflate_da8c8 28 = .ok (.invokestatic 125, 3) := by decide +kernel
theorem dJ5_inflate_da8c8_31 : decode cJ5_inflate_da8c8 31 = .ok (.aload_n 0, 1) := by decide +kernel
theorem dJ5_inflate_da8c8_32 : decode cJ5_inflate_da8c8 32 = .ok (.aload_n 1, 1) := by decide +kernel
theorem dJ5_inflate_da8c8_33 : decode cJ5_inflate_da8c8 33 = .ok (.putfield 15, 3) := by decide +kernel
theorem dJ5_inflate_da8c8_36 : decode cJ5_inflate_da8c8 36 = .ok (.aload_n 0, 1) := by decide +kernel
theorem dJ5_inflate_da8c8_37 : decode cJ5_inflate_da8c8 37 = .ok (.iconst 1, 1) := by decide +kernel
theorem dJ5_inflate_da8c8_38 : decode cJ5_inflate_da8c8 38 = .ok (.putfield 22, 3) := by decide +kernel
theorem dJ5_inflate_da8c8_41 : decode cJ5_inflate_da8c8 41 = .ok (.return_, 1) := by decide +kernel
set_option maxRecDepth 20000 in
theorem ggJ5_setLength_d00df_J5_ensureCapacityInternal_d00df : GoodIn wsJ5_setLength_d00df wsJ5_ensureCapacityInternal_d00df := goodIn_r _ [9, 2, 10, 11, 12, 13, 14, 8, 15, 16, 17, 18, 19, 20, 21, 22, 23, 24, 25, 26, 27, 28, 29, 30, 31, 32, 33, 34, 35, 36, 37, 38, 39, 40, 41, 42, 43, 44, 45, 46, 68, 69, 70, 71] (by decide +kernel) (by decide +kernel)
set_option maxRecDepth 20000 in
theorem gJ5_setLength_d00df_J5_ensureCapacityInternal_d00df_u100J4 : GoodIn wsJ5_setLength_d00df (va_wsU RJ5 100 RJ4 "java/lang/AbstractStringBuilder" ⟨"java/lang/AbstractStringBuilder", "ensureCapacityInternal", "(I)V"⟩ yJ5_ensureCapacityInternal_d00df wsJ5_ensureCapacityInternal_d00df) := goodIn_app (goodIn_of _ (by decide +kernel)) ggJ5_setLength_d00df_J5_ensureCapacityInternal_d00df
set_option maxRecDepth 20000 in
theorem ggJ5_setLength_d00df_J5_isLatin1_aae02 : GoodIn wsJ5_setLength_d00df wsJ5_isLatin1_aae02 := goodIn_r _ [51, 52, 10, 68, 69, 70, 71] (by decide +kernel) (by decide +kernel)
set_option maxRecDepth 20000 in
theorem gJ5_setLength_d00df_J5_isLatin1_aae02_u83J4 : GoodIn wsJ5_setLength_d00df (va_wsU RJ5 83 RJ4 "java/lang/AbstractStringBuilder" ⟨"java/lang/AbstractStringBuilder", "isLatin1", "()Z"⟩ yJ5_isLatin1_aae02 wsJ5_isLatin1_aae02) := goodIn_app (goodIn_of _ (by decide +kernel)) ggJ5_setLength_d00df_J5_isLatin1_aae02
set_option maxRecDepth 20000 in
theorem ggJ5_setLength_d00df_J1_fillNull_b72d1 : GoodIn wsJ5_setLength_d00df wsJ1_fillNull_b72d1 := goodIn_r _ [56, 57, 58, 31, 59, 60, 61, 62] (by decide +kernel) (by decide +kernel)
set_option maxRecDepth 20000 in
theorem gJ5_setLength_d00df_J1_fillNull_b72d1 : GoodIn wsJ5_setLength_d00df (va_wsS RJ5 133 yJ1_fillNull_b72d1 wsJ1_fillNull_b72d1) := goodIn_app (goodIn_of _ (by decide +kernel)) ggJ5_setLength_d00df_J1_fillNull_b72d1
set_option maxRecDepth 20000 in
theorem ggJ5_setLength_d00df_J2_fillNull_b72d1 : GoodIn wsJ5_setLength_d00df wsJ2_fillNull_b72d1 := goodIn_r _ [66, 67, 58, 31, 59, 60, 61, 62] (by decide +kernel) (by decide +kernel)
set_option maxRecDepth 20000 in
theorem gJ5_setLength_d00df_J2_fillNull_b72d1 : GoodIn wsJ5_setLength_d00df (va_wsS RJ5 137 yJ2_fillNull_b72d1 wsJ2_fillNull_b72d1) := goodIn_app (goodIn_of _ (by decide +kernel)) ggJ5_setLength_d00df_J2_fillNull_b72d1
theorem dJ5_setLength_d00df_0 : decode cJ5_setLength_d00df 0 = .ok (.iload_n 1, 1) := by decide +kernel
theorem dJ5_setLength_d00df_1 : decode cJ5_setLength_d00df 1 = .ok (.ifCond .ge 12, 3) := by decide +kernel
theorem dJ5_setLength_d00df_4 : decode cJ5_setLength_d00df 4 = .ok (.new 129, 3) := by decide +kernel
theorem dJ5_setLength_d00df_7 : decode cJ5_setLength_d00df 7 = .ok (.dup, 1) := by decide +kernel
theorem dJ5_setLength_d00df_8 : decode cJ5_setLength_d00df 8 = .ok (.iload_n 1, 1) := by decide +kernel
theorem dJ5_setLength_d00df_9 : decode cJ5_setLength_d00df 9 = .ok (.invokespecial 131, 3) := by decide +kernel
theorem dJ5_setLength_d00df_12 : decode cJ5_setLength_d00df 12 = .ok (.athrow, 1) := by decide +kernel
theorem dJ5_setLength_d00df_13 : decode cJ5_setLength_d00df 13 = .ok (.aload_n 0, 1) := by decide +kernel
theorem dJ5_setLength_d00df_14 : decode cJ5_setLength_d00df 14 = .ok (.iload_n 1, 1) := by decide +kernel
theorem dJ5_setLength_d00df_15 : decode cJ5_setLength_d00df 15 = .ok (.invokevirtual 100, 3) := by decide +kernel
theorem dJ5_setLength_d00df_18 : decode cJ5_setLength_d00df 18 = .ok (.aload_n 0, 1) := by decide +kernel
theorem dJ5_setLength_d00df_19 : decode cJ5_setLength_d00df 19 = .ok (.getfield 79, 3) := by decide +kernel
theorem dJ5_setLength_d00df_22 : decode cJ5_setLength_d00df 22 = .ok (.iload_n 1, 1) := by decide +kernel
theorem dJ5_setLength_d00df_23 : decode cJ5_setLength_d00df 23 = .ok (.if_icmp .ge 40, 3) := by decide +kernel
theorem dJ5_setLength_d00df_26 : decode cJ5_setLength_d00df 26 = .ok (.aload_n 0, 1) := by decide +kernel
theorem dJ5_setLength_d00df_27 : decode cJ5_setLength_d00df 27 = .ok (.invokevirtual 83, 3) := by decide +kernel
theorem dJ5_setLength_d00df_30 : decode cJ5_setLength_d00df 30 = .ok (.ifCond .eq 18, 3) := by decide +kernel
theorem dJ5_setLength_d00df_33 : decode cJ5_setLength_d00df 33 = .ok (.aload_n 0, 1) := by decide +kernel
theorem dJ5_setLength_d00df_34 : decode cJ5_setLength_d00df 34 = .ok (.getfield 15, 3) := by decide +kernel
theorem dJ5_setLength_d00df_37 : decode cJ5_setLength_d00df 37 = .ok (.aload_n 0, 1) := by decide +kernel
theorem dJ5_setLength_d00df_38 : decode cJ5_setLength_d00df 38 = .ok (.getfield 79, 3) := by decide +kernel
theorem dJ5_setLength_d00df_41 : decode cJ5_setLength_d00df 41 = .ok (.iload_n 1, 1) := by decide +kernel
theorem dJ5_setLength_d00df_42 : decode cJ5_setLength_d00df 42 = .ok (.invokestatic 133, 3) := by decide +kernel
theorem dJ5_setLength_d00df_45 : decode cJ5_setLength_d00df 45 = .ok (.goto 31, 3) := by decide +kernel
theorem dJ5_setLength_d00df_48 : decode cJ5_setLength_d00df 48 = .ok (.aload_n 0, 1) := by decide +kernel
theorem dJ5_setLength_d00df_49 : decode cJ5_setLength_d00df 49 = .ok (.getfield 15, 3) := by decide +kernel
theorem dJ5_setLength_d00df_52 : decode cJ5_setLength_d00df 52 = .ok (.aload_n 0, 1) := by decide +kernel
theorem dJ5_setLength_d00df_53 : decode cJ5_setLength_d00df 53 = .ok (.getfield 79, 3) := by decide +kernel
theorem dJ5_setLength_d00df_56 : decode cJ5_setLength_d00df 56 = .ok (.iload_n 1, 1) := by decide +kernel
theorem dJ5_setLength_d00df_57 : decode cJ5_setLength_d00df 57 = .ok (.invokestatic 137, 3) := by decide +kernel
theorem dJ5_setLength_d00df_60 : decode cJ5_setLength_d00df 60 = .ok (.goto 16, 3) := by decide +kernel
theorem dJ5_setLength_d00df_63 : decode cJ5_setLength_d00df 63 = .ok (.aload_n 0, 1) := by decide +kernel
theorem dJ5_setLength_d00df_64 : decode cJ5_setLength_d00df 64 = .ok (.getfield 79, 3) := by decide +kernel
theorem dJ5_setLength_d00df_67 : decode cJ5_setLength_d00df 67 = .ok (.iload_n 1, 1) := by decide +kernel
theorem dJ5_setLength_d00df_68 : decode cJ5_setLength_d00df 68 = .ok (.if_icmp .le 8, 3) := by decide +kernel
theorem dJ5_setLength_d00df_71 : decode cJ5_setLength_d00df 71 = .ok (.aload_n 0, 1) := by decide +kernel
theorem dJ5_setLength_d00df_72 : decode cJ5_setLength_d00df 72 = .ok (.iconst 1, 1) := by decide +kernel
theorem dJ5_setLength_d00df_73 : decode cJ5_setLength_d00df 73 = .ok (.putfield 73, 3) := by decide +kernel
theorem dJ5_setLength_d00df_76 : decode cJ5_setLength_d00df 76 = .ok (.aload_n 0, 1) := by decide +kernel
theorem dJ5_setLength_d00df_77 : decode cJ5_setLength_d00df 77 = .ok (.iload_n 1, 1) := by decide +kernel
theorem dJ5_setLength_d00df_78 : decode cJ5_setLength_d00df 78 = .ok (.putfield 79, 3) := by decide +kernel
theorem dJ5_setLength_d00df_81 : decode cJ5_setLength_d00df 81 = .ok (.return_, 1) := by decide +kernel
set_option maxRecDepth 20000 in
theorem ggJ5_charAt_5068e_J0_checkIndex_df160 : GoodIn wsJ5_charAt_5068e wsJ0_checkIndex_df160 := goodIn_r _ [11, 12, 13, 14, 15, 16] (by decide +kernel) (by decide +kernel)
set_option maxRecDepth 20000 in
theorem gJ5_charAt_5068e_J0_checkIndex_df160 : GoodIn wsJ5_charAt_5068e (va_wsS RJ5 144 yJ0_checkIndex_df160 wsJ0_checkIndex_df160) := goodIn_app (goodIn_of _ (by decide +kernel)) ggJ5_charAt_5068e_J0_checkIndex_df160
set_option maxRecDepth 20000 in
theorem ggJ5_charAt_5068e_J2_getChar_3b067 : GoodIn wsJ5_charAt_5068e wsJ2_getChar_3b067 := goodIn_r _ [20, 21, 22, 23, 24, 25, 19, 26] (by decide +kernel) (by decide +kernel)
set_option maxRecDepth 20000 in
theorem gJ5_charAt_5068e_J2_getChar_3b067 : GoodIn wsJ5_charAt_5068e (va_wsS RJ5 148 yJ2_getChar_3b067 wsJ2_getChar_3b067) := goodIn_app (goodIn_of _ (by decide +kernel)) ggJ5_charAt_5068e_J2_getChar_3b067
theorem dJ5_charAt_5068e_0 : decode cJ5_charAt_5068e 0 = .ok (.aload_n 0, 1) := by decide +kernel
theorem dJ5_charAt_5068e_1 : decode cJ5_charAt_5068e 1 = .ok (.getfield 22, 3) := by decide +kernel
theorem dJ5_charAt_5068e_4 : decode cJ5_charAt_5068e 4 = .ok (.istore_n 2, 1) := by decide +kernel
theorem dJ5_charAt_5068e_5 : decode cJ5_charAt_5068e 5 = .ok (.aload_n 0, 1) := by decide +kernel
theorem dJ5_charAt_5068e_6 : decode cJ5_charAt_5068e 6 = .ok (.getfield 15, 3) := by decide +kernel
theorem dJ5_charAt_5068e_9 : decode cJ5_charAt_5068e 9 = .ok (.astore_n 3, 1) := by decide +kernel
theorem dJ5_charAt_5068e_10 : decode cJ5_charAt_5068e 10 = .ok (.aload_n 0, 1) := by decide +kernel
theorem dJ5_charAt_5068e_11 : decode cJ5_charAt_5068e 11 = .ok (.getfield 79, 3) := by decide +kernel
theorem dJ5_charAt_5068e_14 : decode cJ5_charAt_5068e 14 = .ok (.aload_n 3, 1) := by decide +kernel
theorem dJ5_charAt_5068e_15 : decode cJ5_charAt_5068e 15 = .ok (.arraylength, 1) := by decide +kernel
theorem dJ5_charAt_5068e_16 : decode cJ5_charAt_5068e 16 = .ok (.iload_n 2, 1) := by decide +kernel
theorem dJ5_charAt_5068e_17 : decode cJ5_charAt_5068e 17 = .ok (.ishr, 1) := by decide +kernel
theorem dJ5_charAt_5068e_18 : decode cJ5_charAt_5068e 18 = .ok (.invokestatic 138, 3) := by decide +kernel
theorem dJ5_charAt_5068e_21 : decode cJ5_charAt_5068e 21 = .ok (.istore 4, 2) := by decide +kernel
theorem dJ5_charAt_5068e_23 : decode cJ5_charAt_5068e 23 = .ok (.iload_n 1, 1) := by decide +kernel
theorem dJ5_charAt_5068e_24 : decode cJ5_charAt_5068e 24 = .ok (.iload 4, 2) := by decide +kernel
theorem dJ5_charAt_5068e_26 : decode cJ5_charAt_5068e 26 = .ok (.invokestatic 144, 3) := by decide +kernel
theorem dJ5_charAt_5068e_29 : decode cJ5_charAt_5068e 29 = .ok (.iload_n 2, 1) := by decide +kernel
theorem dJ5_charAt_5068e_30 : decode cJ5_charAt_5068e 30 = .ok (.ifCond .ne 12, 3) := by decide +kernel
theorem dJ5_charAt_5068e_33 : decode cJ5_charAt_5068e 33 = .ok (.aload_n 3, 1) := by decide +kernel
theorem dJ5_charAt_5068e_34 : decode cJ5_charAt_5068e 34 = .ok (.iload_n 1, 1) := by decide +kernel
theorem dJ5_charAt_5068e_35 : decode cJ5_charAt_5068e 35 = .ok (.baload, 1) := by decide +kernel
theorem dJ5_charAt_5068e_36 : decode cJ5_charAt_5068e 36 = .ok (.sipush 255, 3) := by decide +kernel
theorem dJ5_charAt_5068e_39 : decode cJ5_charAt_5068e 39 = .ok (.iand, 1) := by decide +kernel
theorem dJ5_charAt_5068e_40 : decode cJ5_charAt_5068e 40 = .ok (.i2c, 1) := by decide +kernel
theorem dJ5_charAt_5068e_41 : decode cJ5_charAt_5068e 41 = .ok (.ireturn, 1) := by decide +kernel
theorem dJ5_charAt_5068e_42 : decode cJ5_charAt_5068e 42 = .ok (.aload_n 3, 1) := by decide +kernel
theorem dJ5_charAt_5068e_43 : decode cJ5_charAt_5068e 43 = .ok (.iload_n 1, 1) := by decide +kernel
theorem dJ5_charAt_5068e_44 : decode cJ5_charAt_5068e 44 = .ok (.invokestatic 148, 3) := by decide +kernel
theorem dJ5_charAt_5068e_47 : decode cJ5_charAt_5068e 47 = .ok (.ireturn, 1) := by decide +kernel
set_option maxRecDepth 20000 in
theorem ggJ5_append_cf1ce_J5_appendNull_278bc : GoodIn wsJ5_append_cf1ce wsJ5_appendNull_278bc := goodIn_r _ [7, 1, 8, 9, 10, 11, 12, 6, 13, 14, 15, 16, 17, 18, 19, 20, 21, 22, 23, 24, 25, 26, 27, 28, 29, 30, 31, 32, 33, 34, 35, 36, 37, 38, 39, 40, 41, 42, 43, 44, 45, 46, 47, 48, 49, 50, 51, 52, 53, 54, 55, 56, 57, 58, 59, 60, 61, 62, 63, 64, 65, 66, 67, 68, 69, 70, 71, 72, 73, 74, 75, 76, 77, 78, 79, 80, 81, 138, 139, 140, 141] (by decide +kernel) (by decide +kernel)
set_option maxRecDepth 20000 in
theorem gJ5_append_cf1ce_J5_appendNull_278bc_u204J4 : GoodIn wsJ5_append_cf1ce (va_wsU RJ5 204 RJ4 "java/lang/AbstractStringBuilder" ⟨"java/lang/AbstractStringBuilder", "appendNull", "()Ljava/lang/AbstractStringBuilder;"⟩ yJ5_appendNull_278bc wsJ5_appendNull_278bc) := goodIn_app (goodIn_of _ (by decide +kernel)) ggJ5_append_cf1ce_J5_appendNull_278bc
set_option maxRecDepth 20000 in
theorem ggJ5_append_cf1ce_J0_length_8abf5 : GoodIn wsJ5_append_cf1ce wsJ0_length_8abf5 := goodIn_r _ [85, 86, 87, 88, 89, 70, 90, 91, 92] (by decide +kernel) (by decide +kernel)
set_option maxRecDepth 20000 in
theorem gJ5_append_cf1ce_J0_length_8abf5 : GoodIn wsJ5_append_cf1ce (wsV RJ5 32 RJ0 yJ0_length_8abf5 wsJ0_length_8abf5) := goodIn_app (goodIn_of _ (by decide +kernel)) ggJ5_append_cf1ce_J0_length_8abf5
set_option maxRecDepth 20000 in
theorem ggJ5_append_cf1ce_J5_ensureCapacityInternal_d00df : GoodIn wsJ5_append_cf1ce wsJ5_ensureCapacityInternal_d00df := goodIn_r _ [13, 8, 14, 15, 16, 17, 18, 6, 19, 20, 21, 22, 23, 24, 25, 26, 27, 28, 29, 30, 31, 32, 33, 34, 35, 36, 37, 38, 39, 40, 41, 42, 43, 44, 45, 46, 47, 48, 49, 50, 138, 139, 140, 141] (by decide +kernel) (by decide +kernel)
set_option maxRecDepth 20000 in
theorem gJ5_append_cf1ce_J5_ensureCapacityInternal_d00df_u100J4 : GoodIn wsJ5_append_cf1ce (va_wsU RJ5 100 RJ4 "java/lang/AbstractStringBuilder" ⟨"java/lang/AbstractStringBuilder", "ensureCapacityInternal", "(I)V"⟩ yJ5_ensureCapacityInternal_d00df wsJ5_ensureCapacityInternal_d00df) := goodIn_app (goodIn_of _ (by decide +kernel)) ggJ5_append_cf1ce_J5_ensureCapacityInternal_d00df
set_option maxRecDepth 20000 in
theorem ggJ5_append_cf1ce_J5_putStringAt_47b60 : GoodIn wsJ5_append_cf1ce wsJ5_putStringAt_47b60 := goodIn_r _ [97, 8, 14, 98, 99, 100, 101, 6, 102, 56, 103, 88, 89, 70, 90, 91, 92, 104, 105, 106, 107, 108, 1, 51, 52, 53, 54, 55, 109, 110, 59, 111, 43, 112, 113, 114, 115, 116, 117, 118, 119, 120, 121, 122, 123, 124, 125, 65, 66, 67, 126, 127, 128, 72, 129, 130, 75, 131, 77, 78, 79, 61, 80, 81, 132, 133, 134, 135, 86, 136, 48, 49, 50, 87, 137, 138, 139, 140, 141] (by decide +kernel) (by decide +kernel)
set_option maxRecDepth 20000 in
theorem gJ5_append_cf1ce_J5_putStringAt_47b60_u208J4 : GoodIn wsJ5_append_cf1ce (va_wsU RJ5 208 RJ4 "java/lang/AbstractStringBuilder" ⟨"java/lang/AbstractStringBuilder", "putStringAt", "(ILjava/lang/String;)V"⟩ yJ5_putStringAt_47b60 wsJ5_putStringAt_47b60) := goodIn_app (goodIn_of _ (by decide +kernel)) ggJ5_append_cf1ce_J5_putStringAt_47b60
theorem dJ5_append_cf1ce_0 : decode cJ5_append_cf1ce 0 = .ok (.aload_n 1, 1) := by decide +kernel
theorem dJ5_append_cf1ce_1 : decode cJ5_append_cf1ce 1 = .ok (.ifnonnull 8, 3) := by decide +kernel
theorem dJ5_append_cf1ce_4 : decode cJ5_append_cf1ce 4 = .ok (.aload_n 0, 1) := by decide +kernel
theorem dJ5_append_cf1ce_5 : decode cJ5_append_cf1ce 5 = .ok (.invokevirtual 204, 3) := by decide +kernel
theorem dJ5_append_cf1ce_8 : decode cJ5_append_cf1ce 8 = .ok (.areturn, 1) := by decide +kernel
theorem dJ5_append_cf1ce_9 : decode cJ5_append_cf1ce 9 = .ok (.aload_n 1, 1) := by decide +kernel
theorem dJ5_append_cf1ce_10 : decode cJ5_append_cf1ce 10 = .ok (.invokevirtual 32, 3) := by decide +kernel
theorem dJ5_append_cf1ce_13 : decode cJ5_append_cf1ce 13 = .ok (.istore_n 2, 1) := by decide +kernel
theorem dJ5_append_cf1ce_14 : decode cJ5_append_cf1ce 14 = .ok (.aload_n 0, 1) := by decide +kernel
theorem dJ5_append_cf1ce_15 : decode cJ5_append_cf1ce 15 = .ok (.aload_n 0, 1) := by decide +kernel
theorem dJ5_append_cf1ce_16 : decode cJ5_append_cf1ce 16 = .ok (.getfield 79, 3) := by decide +kernel
theorem dJ5_append_cf1ce_19 : decode cJ5_append_cf1ce 19 = .ok (.iload_n 2, 1) := by decide +kernel
theorem dJ5_append_cf1ce_20 : decode cJ5_append_cf1ce 20 = .ok (.iadd, 1) := by decide +kernel
theorem dJ5_append_cf1ce_21 : decode cJ5_append_cf1ce 21 = .ok (.invokevirtual 100, 3) := by decide +kernel
theorem dJ5_append_cf1ce_24 : decode cJ5_append_cf1ce 24 = .ok (.aload_n 0, 1) := by decide +kernel
theorem dJ5_append_cf1ce_25 : decode cJ5_append_cf1ce 25 = .ok (.aload_n 0, 1) := by decide +kernel
theorem dJ5_append_cf1ce_26 : decode cJ5_append_cf1ce 26 = .ok (.getfield 79, 3) := by decide +kernel
theorem dJ5_append_cf1ce_29 : decode cJ5_append_cf1ce 29 = .ok (.aload_n 1, 1) := by decide +kernel
theorem dJ5_append_cf1ce_30 : decode cJ5_append_cf1ce 30 = .ok (.invokevirtual 208, 3) := by decide +kernel
theorem dJ5_append_cf1ce_33 : decode cJ5_append_cf1ce 33 = .ok (.aload_n 0, 1) := by decide +kernel
theorem dJ5_append_cf1ce_34 : decode cJ5_append_cf1ce 34 = .ok (.dup, 1) := by decide +kernel
theorem dJ5_append_cf1ce_35 : decode cJ5_append_cf1ce 35 = .ok (.getfield 79, 3) := by decide +kernel
theorem dJ5_append_cf1ce_38 : decode cJ5_append_cf1ce 38 = .ok (.iload_n 2, 1) := by decide +kernel
theorem dJ5_append_cf1ce_39 : decode cJ5_append_cf1ce 39 = .ok (.iadd, 1) := by decide +kernel
theorem dJ5_append_cf1ce_40 : decode cJ5_append_cf1ce 40 = .ok (.putfield 79, 3) := by decide +kernel
theorem dJ5_append_cf1ce_43 : decode cJ5_append_cf1ce 43 = .ok (.aload_n 0, 1) := by decide +kernel
theorem dJ5_append_cf1ce_44 : decode cJ5_append_cf1ce 44 = .ok (.areturn, 1) := by decide +kernel
set_option maxRecDepth 20000 in
theorem ggJ5_appendNull_278bc_J5_ensureCapacityInternal_d00df : GoodIn wsJ5_appendNull_278bc wsJ5_ensureCapacityInternal_d00df := goodIn_r _ [8, 2, 9, 10, 11, 12, 13, 7, 14, 15, 16, 17, 18, 19, 20, 21, 22, 23, 24, 25, 26, 27, 28, 29, 30, 31, 32, 33, 34, 35, 36, 37, 38, 39, 40, 41, 42, 43, 44, 45, 77, 78, 79, 80] (by decide +kernel) (by decide +kernel)
set_option maxRecDepth 20000 in
theorem gJ5_appendNull_278bc_J5_ensureCapacityInternal_d00df_u100J4 : GoodIn wsJ5_appendNull_278bc (va_wsU RJ5 100 RJ4 "java/lang/AbstractStringBuilder" ⟨"java/lang/AbstractStringBuilder", "ensureCapacityInternal", "(I)V"⟩ yJ5_ensureCapacityInternal_d00df wsJ5_ensureCapacityInternal_d00df) := goodIn_app (goodIn_of _ (by decide +kernel)) ggJ5_appendNull_278bc_J5_ensureCapacityInternal_d00df
set_option maxRecDepth 20000 in
theorem ggJ5_appendNull_278bc_J5_isLatin1_aae02 : GoodIn wsJ5_appendNull_278bc wsJ5_isLatin1_aae02 := goodIn_r _ [50, 51, 9, 77, 78, 79, 80] (by decide +kernel) (by decide +kernel)
set_option maxRecDepth 20000 in
theorem gJ5_appendNull_278bc_J5_isLatin1_aae02_u83J4 : GoodIn wsJ5_appendNull_278bc (va_wsU RJ5 83 RJ4 "java/lang/AbstractStringBuilder" ⟨"java/lang/AbstractStringBuilder", "isLatin1", "()Z"⟩ yJ5_isLatin1_aae02 wsJ5_isLatin1_aae02) := goodIn_app (goodIn_of _ (by decide +kernel)) ggJ5_appendNull_278bc_J5_isLatin1_aae02
set_option maxRecDepth 20000 in
theorem ggJ5_appendNull_278bc_J2_putCharsAt_cd4e5 : GoodIn wsJ5_appendNull_278bc wsJ2_putCharsAt_cd4e5 := goodIn_r _ [55, 56, 57, 58, 54, 59, 60, 61, 62, 63, 64, 65, 66, 67, 68, 69, 70, 71, 72, 73, 74, 75, 76] (by decide +kernel) (by decide +kernel)
set_option maxRecDepth 20000 in
theorem gJ5_appendNull_278bc_J2_putCharsAt_cd4e5 : GoodIn wsJ5_appendNull_278bc (va_wsS RJ5 226 yJ2_putCharsAt_cd4e5 wsJ2_putCharsAt_cd4e5) := goodIn_app (goodIn_of _ (by decide +kernel)) ggJ5_appendNull_278bc_J2_putCharsAt_cd4e5
theorem dJ5_appendNull_278bc_0 : decode cJ5_appendNull_278bc 0 = .ok (.aload_n 0, 1) := by decide +kernel
theorem dJ5_appendNull_278bc_1 : decode cJ5_appendNull_278bc 1 = .ok (.aload_n 0, 1) := by decide +kernel
theorem dJ5_appendNull_278bc_2 : decode cJ5_appendNull_278bc 2 = .ok (.getfield 79, 3) := by decide +kernel
theorem dJ5_appendNull_278bc_5 : decode cJ5_appendNull_278bc 5 = .ok (.iconst 4, 1) := by decide +kernel
theorem dJ5_appendNull_278bc_6 : decode cJ5_appendNull_278bc 6 = .ok (.iadd, 1) := by decide +kernel
theorem dJ5_appendNull_278bc_7 : decode cJ5_appendNull_278bc 7 = .ok (.invokevirtual 100, 3) := by decide +kernel
theorem dJ5_appendNull_278bc_10 : decode cJ5_appendNull_278bc 10 = .ok (.aload_n 0, 1) := by decide +kernel
theorem dJ5_appendNull_278bc_11 : decode cJ5_appendNull_278bc 11 = .ok (.getfield 79, 3) := by decide +kernel
theorem dJ5_appendNull_278bc_14 : decode cJ5_appendNull_278bc 14 = .ok (.istore_n 1, 1) := by decide +kernel
theorem dJ5_appendNull_278bc_15 : decode cJ5_appendNull_278bc 15 = .ok (.aload_n 0, 1) := by decide +kernel
theorem dJ5_appendNull_278bc_16 : decode cJ5_appendNull_278bc 16 = .ok (.getfield 15, 3) := by decide +kernel
theorem dJ5_appendNull_278bc_19 : decode cJ5_appendNull_278bc 19 = .ok (.astore_n 2, 1) := by decide +kernel
theorem dJ5_appendNull_278bc_20 : decode cJ5_appendNull_278bc 20 = .ok (.aload_n 0, 1) := by decide +kernel
theorem dJ5_appendNull_278bc_21 : decode cJ5_appendNull_278bc 21 = .ok (.invokevirtual 83, 3) := by decide +kernel
theorem dJ5_appendNull_278bc_24 : decode cJ5_appendNull_278bc 24 = .ok (.ifCond .eq 38, 3) := by decide +kernel
theorem dJ5_appendNull_278bc_27 : decode cJ5_appendNull_278bc 27 = .ok (.aload_n 2, 1) := by decide +kernel
theorem dJ5_appendNull_278bc_28 : decode cJ5_appendNull_278bc 28 = .ok (.iload_n 1, 1) := by decide +kernel
theorem dJ5_appendNull_278bc_29 : decode cJ5_appendNull_278bc 29 = .ok (.iinc 1 1, 3) := by decide +kernel
theorem dJ5_appendNull_278bc_32 : decode cJ5_appendNull_278bc 32 = .ok (.bipush 110, 2) := by decide +kernel
theorem dJ5_appendNull_278bc_34 : decode cJ5_appendNull_278bc 34 = .ok (.bastore, 1) := by decide +kernel
theorem dJ5_appendNull_278bc_35 : decode cJ5_appendNull_278bc 35 = .ok (.aload_n 2, 1) := by decide +kernel
theorem dJ5_appendNull_278bc_36 : decode cJ5_appendNull_278bc 36 = .ok (.iload_n 1, 1) := by decide +kernel
theorem dJ5_appendNull_278bc_37 : decode cJ5_appendNull_278bc 37 = .ok (.iinc 1 1, 3) := by decide +kernel
theorem dJ5_appendNull_278bc_40 : decode cJ5_appendNull_278bc 40 = .ok (.bipush 117, 2) := by decide +kernel
theorem dJ5_appendNull_278bc_42 : decode cJ5_appendNull_278bc 42 = .ok (.bastore, 1) := by decide +kernel
theorem dJ5_appendNull_278bc_43 : decode cJ5_appendNull_278bc 43 = .ok (.aload_n 2, 1) := by decide +kernel
theorem dJ5_appendNull_278bc_44 : decode cJ5_appendNull_278bc 44 = .ok (.iload_n 1, 1) := by decide +kernel
theorem dJ5_appendNull_278bc_45 : decode cJ5_appendNull_278bc 45 = .ok (.iinc 1 1, 3) := by decide +kernel
theorem dJ5_appendNull_278bc_48 : decode cJ5_appendNull_278bc 48 = .ok (.bipush 108, 2) := by decide +kernel
theorem dJ5_appendNull_278bc_50 : decode cJ5_appendNull_278bc 50 = .ok (.bastore, 1) := by decide +kernel
theorem dJ5_appendNull_278bc_51 : decode cJ5_appendNull_278bc 51 = .ok (.aload_n 2, 1) := by decide +kernel
theorem dJ5_appendNull_278bc_52 : decode cJ5_appendNull_278bc 52 = .ok (.iload_n 1, 1) := by decide +kernel
theorem dJ5_appendNull_278bc_53 : decode cJ5_appendNull_278bc 53 = .ok (.iinc 1 1, 3) := by decide +kernel
theorem dJ5_appendNull_278bc_56 : decode cJ5_appendNull_278bc 56 = .ok (.bipush 108, 2) := by decide +kernel
theorem dJ5_appendNull_278bc_58 : decode cJ5_appendNull_278bc 58 = .ok (.bastore, 1) := by decide +kernel
theorem dJ5_appendNull_278bc_59 : decode cJ5_appendNull_278bc 59 = .ok (.goto 17, 3) := by decide +kernel
theorem dJ5_appendNull_278bc_62 : decode cJ5_appendNull_278bc 62 = .ok (.aload_n 2, 1) := by decide +kernel
theorem dJ5_appendNull_278bc_63 : decode cJ5_appendNull_278bc 63 = .ok (.iload_n 1, 1) := by decide +kernel
theorem dJ5_appendNull_278bc_64 : decode cJ5_appendNull_278bc 64 = .ok (.bipush 110, 2) := by decide +kernel
theorem dJ5_appendNull_278bc_66 : decode cJ5_appendNull_278bc 66 = .ok (.bipush 117, 2) := by decide +kernel
theorem dJ5_appendNull_278bc_68 : decode cJ5_appendNull_278bc 68 = .ok (.bipush 108, 2) := by decide +kernel
theorem dJ5_appendNull_278bc_70 : decode cJ5_appendNull_278bc 70 = .ok (.bipush 108, 2) := by decide +kernel
theorem dJ5_appendNull_278bc_72 : decode cJ5_appendNull_278bc 72 = .ok (.invokestatic 226, 3) := by decide +kernel
theorem dJ5_appendNull_278bc_75 : decode cJ5_appendNull_278bc 75 = .ok (.istore_n 1, 1) := by decide +kernel
theorem dJ5_appendNull_278bc_76 : decode cJ5_appendNull_278bc 76 = .ok (.aload_n 0, 1) := by decide +kernel
theorem dJ5_appendNull_278bc_77 : decode cJ5_appendNull_278bc 77 = .ok (.iload_n 1, 1) := by decide +kernel
theorem dJ5_appendNull_278bc_78 : decode cJ5_appendNull_278bc 78 = .ok (.putfield 79, 3) := by decide +kernel
theorem dJ5_appendNull_278bc_81 : decode cJ5_appendNull_278bc 81 = .ok (.aload_n 0, 1) := by decide +kernel
theorem dJ5_appendNull_278bc_82 : decode cJ5_appendNull_278bc 82 = .ok (.areturn, 1) := by decide +kernel
set_option maxRecDepth 20000 in
theorem ggJ5_append_3fe6f_J5_ensureCapacityInternal_d00df : GoodIn wsJ5_append_3fe6f wsJ5_ensureCapacityInternal_d00df := goodIn_r _ [8, 2, 9, 10, 11, 12, 13, 7, 14, 15, 16, 17, 18, 19, 20, 21, 22, 23, 24, 25, 26, 27, 28, 29, 30, 31, 32, 33, 34, 35, 36, 37, 38, 39, 40, 41, 42, 43, 44, 45, 108, 109, 110, 111] (by decide +kernel) (by decide +kernel)
set_option maxRecDepth 20000 in
theorem gJ5_append_3fe6f_J5_ensureCapacityInternal_d00df_u100J4 : GoodIn wsJ5_append_3fe6f (va_wsU RJ5 100 RJ4 "java/lang/AbstractStringBuilder" ⟨"java/lang/AbstractStringBuilder", "ensureCapacityInternal", "(I)V"⟩ yJ5_ensureCapacityInternal_d00df wsJ5_ensureCapacityInternal_d00df) := goodIn_app (goodIn_of _ (by decide +kernel)) ggJ5_append_3fe6f_J5_ensureCapacityInternal_d00df
set_option maxRecDepth 20000 in
theorem ggJ5_append_3fe6f_J5_isLatin1_aae02 : GoodIn wsJ5_append_3fe6f wsJ5_isLatin1_aae02 := goodIn_r _ [50, 51, 9, 108, 109, 110, 111] (by decide +kernel) (by decide +kernel)
set_option maxRecDepth 20000 in
theorem gJ5_append_3fe6f_J5_isLatin1_aae02_u83J4 : GoodIn wsJ5_append_3fe6f (va_wsU RJ5 83 RJ4 "java/lang/AbstractStringBuilder" ⟨"java/lang/AbstractStringBuilder", "isLatin1", "()Z"⟩ yJ5_isLatin1_aae02 wsJ5_isLatin1_aae02) := goodIn_app (goodIn_of _ (by decide +kernel)) ggJ5_append_3fe6f_J5_isLatin1_aae02
set_option maxRecDepth 20000 in
theorem ggJ5_append_3fe6f_J1_canEncode_fc78d : GoodIn wsJ5_append_3fe6f wsJ1_canEncode_fc78d := goodIn_r _ [55] (by decide +kernel) (by decide +kernel)
set_option maxRecDepth 20000 in
theorem gJ5_append_3fe6f_J1_canEncode_fc78d : GoodIn wsJ5_append_3fe6f (va_wsS RJ5 191 yJ1_canEncode_fc78d wsJ1_canEncode_fc78d) := goodIn_app (goodIn_of _ (by decide +kernel)) ggJ5_append_3fe6f_J1_canEncode_fc78d
set_option maxRecDepth 20000 in
theorem ggJ5_append_3fe6f_J5_inflate_da8c8 : GoodIn wsJ5_append_3fe6f wsJ5_inflate_da8c8 := goodIn_r _ [60, 2, 1, 9, 46, 47, 48, 49, 7, 50, 51, 61, 62, 63, 64, 38, 65, 66, 67, 68, 69, 70, 54, 71, 72, 73, 74, 75, 76, 77, 78, 79, 80, 81, 82, 83, 84, 85, 86, 87, 88, 89, 90, 91, 92, 93, 94, 95, 108, 109, 110, 111] (by decide +kernel) (by decide +kernel)
set_option maxRecDepth 20000 in
theorem gJ5_append_3fe6f_J5_inflate_da8c8_u195J4 : GoodIn wsJ5_append_3fe6f (va_wsU RJ5 195 RJ4 "java/lang/AbstractStringBuilder" ⟨"java/lang/AbstractStringBuilder", "inflate", "()V"⟩ yJ5_inflate_da8c8 wsJ5_inflate_da8c8) := goodIn_app (goodIn_of _ (by decide +kernel)) ggJ5_append_3fe6f_J5_inflate_da8c8
set_option maxRecDepth 20000 in
theorem ggJ5_append_3fe6f_J2_putCharSB_b72d1 : GoodIn wsJ5_append_3fe6f wsJ2_putCharSB_b72d1 := goodIn_r _ [98, 99, 100, 63, 101, 78, 79, 80, 102, 103, 83, 104, 85, 105, 106, 88, 107, 90, 91, 92, 93, 94, 95] (by decide +kernel) (by decide +kernel)
set_option maxRecDepth 20000 in
theorem gJ5_append_3fe6f_J2_putCharSB_b72d1 : GoodIn wsJ5_append_3fe6f (va_wsS RJ5 197 yJ2_putCharSB_b72d1 wsJ2_putCharSB_b72d1) := goodIn_app (goodIn_of _ (by decide +kernel)) ggJ5_append_3fe6f_J2_putCharSB_b72d1
theorem dJ5_append_3fe6f_0 : decode cJ5_append_3fe6f 0 = .ok (.aload_n 0, 1) := by decide +kernel
theorem dJ5_append_3fe6f_1 : decode cJ5_append_3fe6f 1 = .ok (.aload_n 0, 1) := by decide +kernel
theorem dJ5_append_3fe6f_2 : decode cJ5_append_3fe6f 2 = .ok (.getfield 79, 3) := by decide +kernel
theorem dJ5_append_3fe6f_5 : decode cJ5_append_3fe6f 5 = .ok (.iconst 1, 1) := by decide +kernel
theorem dJ5_append_3fe6f_6 : decode cJ5_append_3fe6f 6 = .ok (.iadd, 1) := by decide +kernel
theorem dJ5_append_3fe6f_7 : decode cJ5_append_3fe6f 7 = .ok (.invokevirtual 100, 3) := by decide +kernel
theorem dJ5_append_3fe6f_10 : decode cJ5_append_3fe6f 10 = .ok (.aload_n 0, 1) := by decide +kernel
theorem dJ5_append_3fe6f_11 : decode cJ5_append_3fe6f 11 = .ok (.invokevirtual 83, 3) := by decide +kernel
theorem dJ5_append_3fe6f_14 : decode cJ5_append_3fe6f 14 = .ok (.ifCond .eq 31, 3) := by decide +kernel
theorem dJ5_append_3fe6f_17 : decode cJ5_append_3fe6f 17 = .ok (.iload_n 1, 1) := by decide +kernel
theorem dJ5_append_3fe6f_18 : decode cJ5_append_3fe6f 18 = .ok (.invokestatic 191, 3) := by decide +kernel
theorem dJ5_append_3fe6f_21 : decode cJ5_append_3fe6f 21 = .ok (.ifCond .eq 24, 3) := by decide +kernel
theorem dJ5_append_3fe6f_24 : decode cJ5_append_3fe6f 24 = .ok (.aload_n 0, 1) := by decide +kernel
theorem dJ5_append_3fe6f_25 : decode cJ5_append_3fe6f 25 = .ok (.getfield 15, 3) := by decide +kernel
theorem dJ5_append_3fe6f_28 : decode cJ5_append_3fe6f 28 = .ok (.aload_n 0, 1) := by decide +kernel
theorem dJ5_append_3fe6f_29 : decode cJ5_append_3fe6f 29 = .ok (.dup, 1) := by decide +kernel
theorem dJ5_append_3fe6f_30 : decode cJ5_append_3fe6f 30 = .ok (.getfield 79, 3) := by decide +kernel
theorem dJ5_append_3fe6f_33 : decode cJ5_append_3fe6f 33 = .ok (.dup_x1, 1) := by decide +kernel
theorem dJ5_append_3fe6f_34 : decode cJ5_append_3fe6f 34 = .ok (.iconst 1, 1) := by decide +kernel
theorem dJ5_append_3fe6f_35 : decode cJ5_append_3fe6f 35 = .ok (.iadd, 1) := by decide +kernel
theorem dJ5_append_3fe6f_36 : decode cJ5_append_3fe6f 36 = .ok (.putfield 79, 3) := by decide +kernel
theorem dJ5_append_3fe6f_39 : decode cJ5_append_3fe6f 39 = .ok (.iload_n 1, 1) := by decide +kernel
theorem dJ5_append_3fe6f_40 : decode cJ5_append_3fe6f 40 = .ok (.i2b, 1) := by decide +kernel
theorem dJ5_append_3fe6f_41 : decode cJ5_append_3fe6f 41 = .ok (.bastore, 1) := by decide +kernel
theorem dJ5_append_3fe6f_42 : decode cJ5_append_3fe6f 42 = .ok (.goto 33, 3) := by decide +kernel
theorem dJ5_append_3fe6f_45 : decode cJ5_append_3fe6f 45 = .ok (.aload_n 0, 1) := by decide +kernel
theorem dJ5_append_3fe6f_46 : decode cJ5_append_3fe6f 46 = .ok (.invokevirtual 83, 3) := by decide +kernel
theorem dJ5_append_3fe6f_49 : decode cJ5_append_3fe6f 49 = .ok (.ifCond .eq 7, 3) := by decide +kernel
theorem dJ5_append_3fe6f_52 : decode cJ5_append_3fe6f 52 = .ok (.aload_n 0, 1) := by decide +kernel
theorem dJ5_append_3fe6f_53 : decode cJ5_append_3fe6f 53 = .ok (.invokevirtual 195, 3) := by decide +kernel
theorem dJ5_append_3fe6f_56 : decode cJ5_append_3fe6f 56 = .ok (.aload_n 0, 1) := by decide +kernel
theorem dJ5_append_3fe6f_57 : decode cJ5_append_3fe6f 57 = .ok (.getfield 15, 3) := by decide +kernel
theorem dJ5_append_3fe6f_60 : decode cJ5_append_3fe6f 60 = .ok (.aload_n 0, 1) := by decide +kernel
theorem dJ5_append_3fe6f_61 : decode cJ5_append_3fe6f 61 = .ok (.dup, 1) := by decide +kernel
theorem dJ5_append_3fe6f_62 : decode cJ5_append_3fe6f 62 = .ok (.getfield 79, 3) := by decide +kernel
theorem dJ5_append_3fe6f_65 : decode cJ5_append_3fe6f 65 = .ok (.dup_x1, 1) := by decide +kernel
theorem dJ5_append_3fe6f_66 : decode cJ5_append_3fe6f 66 = .ok (.iconst 1, 1) := by decide +kernel
theorem dJ5_append_3fe6f_67 : decode cJ5_append_3fe6f 67 = .ok (.iadd, 1) := by decide +kernel
theorem dJ5_append_3fe6f_68 : decode cJ5_append_3fe6f 68 = .ok (.putfield 79, 3) := by decide +kernel
theorem dJ5_append_3fe6f_71 : decode cJ5_append_3fe6f 71 = .ok (.iload_n 1, 1) := by decide +kernel
theorem dJ5_append_3fe6f_72 : decode cJ5_append_3fe6f 72 = .ok (.invokestatic 197, 3) := by decide +kernel
theorem dJ5_append_3fe6f_75 : decode cJ5_append_3fe6f 75 = .ok (.aload_n 0, 1) := by decide +kernel
theorem dJ5_append_3fe6f_76 : decode cJ5_append_3fe6f 76 = .ok (.areturn, 1) := by decide +kernel
set_option maxRecDepth 20000 in
theorem ggJ5_append_c97b9_J6_stringSize_0f7a4 : GoodIn wsJ5_append_c97b9 wsJ6_stringSize_0f7a4 := goodIn_r _ [6] (by decide +kernel) (by decide +kernel)
set_option maxRecDepth 20000 in
theorem gJ5_append_c97b9_J6_stringSize_0f7a4 : GoodIn wsJ5_append_c97b9 (va_wsS RJ5 245 yJ6_stringSize_0f7a4 wsJ6_stringSize_0f7a4) := goodIn_app (goodIn_of _ (by decide +kernel)) ggJ5_append_c97b9_J6_stringSize_0f7a4
set_option maxRecDepth 20000 in
theorem ggJ5_append_c97b9_J5_ensureCapacityInternal_d00df : GoodIn wsJ5_append_c97b9 wsJ5_ensureCapacityInternal_d00df := goodIn_r _ [12, 2, 13, 14, 15, 16, 17, 11, 18, 19, 20, 21, 22, 23, 24, 25, 26, 27, 28, 29, 30, 31, 32, 33, 34, 35, 36, 37, 38, 39, 40, 41, 42, 43, 44, 45, 46, 47, 48, 49, 91, 92, 93, 94] (by decide +kernel) (by decide +kernel)
set_option maxRecDepth 20000 in
theorem gJ5_append_c97b9_J5_ensureCapacityInternal_d00df_u100J4 : GoodIn wsJ5_append_c97b9 (va_wsU RJ5 100 RJ4 "java/lang/AbstractStringBuilder" ⟨"java/lang/AbstractStringBuilder", "ensureCapacityInternal", "(I)V"⟩ yJ5_ensureCapacityInternal_d00df wsJ5_ensureCapacityInternal_d00df) := goodIn_app (goodIn_of _ (by decide +kernel)) ggJ5_append_c97b9_J5_ensureCapacityInternal_d00df
set_option maxRecDepth 20000 in
theorem ggJ5_append_c97b9_J5_isLatin1_aae02 : GoodIn wsJ5_append_c97b9 wsJ5_isLatin1_aae02 := goodIn_r _ [54, 55, 13, 91, 92, 93, 94] (by decide +kernel) (by decide +kernel)
set_option maxRecDepth 20000 in
theorem gJ5_append_c97b9_J5_isLatin1_aae02_u83J4 : GoodIn wsJ5_append_c97b9 (va_wsU RJ5 83 RJ4 "java/lang/AbstractStringBuilder" ⟨"java/lang/AbstractStringBuilder", "isLatin1", "()Z"⟩ yJ5_isLatin1_aae02 wsJ5_isLatin1_aae02) := goodIn_app (goodIn_of _ (by decide +kernel)) ggJ5_append_c97b9_J5_isLatin1_aae02
set_option maxRecDepth 20000 in
theorem ggJ5_append_c97b9_J6_getChars_ba4f3 : GoodIn wsJ5_append_c97b9 wsJ6_getChars_ba4f3 := goodIn_r _ [58, 59, 60] (by decide +kernel) (by decide +kernel)
set_option maxRecDepth 20000 in
theorem gJ5_append_c97b9_J6_getChars_ba4f3 : GoodIn wsJ5_append_c97b9 (va_wsS RJ5 248 yJ6_getChars_ba4f3 wsJ6_getChars_ba4f3) := goodIn_app (goodIn_of _ (by decide +kernel)) ggJ5_append_c97b9_J6_getChars_ba4f3
set_option maxRecDepth 20000 in
theorem ggJ5_append_c97b9_J2_getChars_46870 : GoodIn wsJ5_append_c97b9 wsJ2_getChars_46870 := goodIn_r _ [64, 65, 66, 67, 63, 68, 69, 70, 71, 72, 73, 74, 75, 76, 77, 78, 79, 80, 81, 82, 83, 84, 85, 86, 87, 88, 89, 90] (by decide +kernel) (by decide +kernel)
set_option maxRecDepth 20000 in
theorem gJ5_append_c97b9_J2_getChars_46870 : GoodIn wsJ5_append_c97b9 (va_wsS RJ5 251 yJ2_getChars_46870 wsJ2_getChars_46870) := goodIn_app (goodIn_of _ (by decide +kernel)) ggJ5_append_c97b9_J2_getChars_46870
theorem dJ5_append_c97b9_0 : decode cJ5_append_c97b9 0 = .ok (.aload_n 0, 1) := by decide +kernel
theorem dJ5_append_c97b9_1 : decode cJ5_append_c97b9 1 = .ok (.getfield 79, 3) := by decide +kernel
theorem dJ5_append_c97b9_4 : decode cJ5_append_c97b9 4 = .ok (.istore_n 2, 1) := by decide +kernel
theorem dJ5_append_c97b9_5 : decode cJ5_append_c97b9 5 = .ok (.iload_n 2, 1) := by decide +kernel
theorem dJ5_append_c97b9_6 : decode cJ5_append_c97b9 6 = .ok (.iload_n 1, 1) := by decide +kernel
theorem dJ5_append_c97b9_7 : decode cJ5_append_c97b9 7 = .ok (.invokestatic 245, 3) := by decide +kernel
theorem dJ5_append_c97b9_10 : decode cJ5_append_c97b9 10 = .ok (.iadd, 1) := by decide +kernel
theorem dJ5_append_c97b9_11 : decode cJ5_append_c97b9 11 = .ok (.istore_n 3, 1) := by decide +kernel
theorem dJ5_append_c97b9_12 : decode cJ5_append_c97b9 12 = .ok (.aload_n 0, 1) := by decide +kernel
theorem dJ5_append_c97b9_13 : decode cJ5_append_c97b9 13 = .ok (.iload_n 3, 1) := by decide +kernel
theorem dJ5_append_c97b9_14 : decode cJ5_append_c97b9 14 = .ok (.invokevirtual 100, 3) := by decide +kernel
theorem dJ5_append_c97b9_17 : decode cJ5_append_c97b9 17 = .ok (.aload_n 0, 1) := by decide +kernel
theorem dJ5_append_c97b9_18 : decode cJ5_append_c97b9 18 = .ok (.invokevirtual 83, 3) := by decide +kernel
theorem dJ5_append_c97b9_21 : decode cJ5_append_c97b9 21 = .ok (.ifCond .eq 16, 3) := by decide +kernel
theorem dJ5_append_c97b9_24 : decode cJ5_append_c97b9 24 = .ok (.iload_n 1, 1) := by decide +kernel
theorem dJ5_append_c97b9_25 : decode cJ5_append_c97b9 25 = .ok (.iload_n 3, 1) := by decide +kernel
theorem dJ5_append_c97b9_26 : decode cJ5_append_c97b9 26 = .ok (.aload_n 0, 1) := by decide +kernel
theorem dJ5_append_c97b9_27 : decode cJ5_append_c97b9 27 = .ok (.getfield 15, 3) := by decide +kernel
theorem dJ5_append_c97b9_30 : decode cJ5_append_c97b9 30 = .ok (.invokestatic 248, 3) := by decide +kernel
theorem dJ5_append_c97b9_33 : decode cJ5_append_c97b9 33 = .ok (.pop, 1) := by decide +kernel
theorem dJ5_append_c97b9_34 : decode cJ5_append_c97b9 34 = .ok (.goto 14, 3) := by decide +kernel
theorem dJ5_append_c97b9_37 : decode cJ5_append_c97b9 37 = .ok (.iload_n 1, 1) := by decide +kernel
theorem dJ5_append_c97b9_38 : decode cJ5_append_c97b9 38 = .ok (.iload_n 2, 1) := by decide +kernel
theorem dJ5_append_c97b9_39 : decode cJ5_append_c97b9 39 = .ok (.iload_n 3, 1) := by decide +kernel
theorem dJ5_append_c97b9_40 : decode cJ5_append_c97b9 40 = .ok (.aload_n 0, 1) := by decide +kernel
theorem dJ5_append_c97b9_41 : decode cJ5_append_c97b9 41 = .ok (.getfield 15, 3) := by decide +kernel
theorem dJ5_append_c97b9_44 : decode cJ5_append_c97b9 44 = .ok (.invokestatic 251, 3) := by decide +kernel
theorem dJ5_append_c97b9_47 : decode cJ5_append_c97b9 47 = .ok (.pop, 1) := by decide +kernel
theorem dJ5_append_c97b9_48 : decode cJ5_append_c97b9 48 = .ok (.aload_n 0, 1) := by decide +kernel
theorem dJ5_append_c97b9_49 : decode cJ5_append_c97b9 49 = .ok (.iload_n 3, 1) := by decide +kernel
theorem dJ5_append_c97b9_50 : decode cJ5_append_c97b9 50 = .ok (.putfield 79, 3) := by decide +kernel
theorem dJ5_append_c97b9_53 : decode cJ5_append_c97b9 53 = .ok (.aload_n 0, 1) := by decide +kernel
theorem dJ5_append_c97b9_54 : decode cJ5_append_c97b9 54 = .ok (.areturn, 1) := by decide +kernel
theorem dJ5_isLatin1_aae02_0 : decode cJ5_isLatin1_aae02 0 = .ok (.getstatic 18, 3) := by decide +kernel
theorem dJ5_isLatin1_aae02_3 : decode cJ5_isLatin1_aae02 3 = .ok (.ifCond .eq 14, 3) := by decide +kernel
theorem dJ5_isLatin1_aae02_6 : decode cJ5_isLatin1_aae02 6 = .ok (.aload_n 0, 1) := by decide +kernel
theorem dJ5_isLatin1_aae02_7 : decode cJ5_isLatin1_aae02 7 = .ok (.getfield 22, 3) := by decide +kernel
theorem dJ5_isLatin1_aae02_10 : decode cJ5_isLatin1_aae02 10 = .ok (.ifCond .ne 7, 3) := by decide +kernel
theorem dJ5_isLatin1_aae02_13 : decode cJ5_isLatin1_aae02 13 = .ok (.iconst 1, 1) := by decide +kernel
theorem dJ5_isLatin1_aae02_14 : decode cJ5_isLatin1_aae02 14 = .ok (.goto 4, 3) := by decide +kernel
theorem dJ5_isLatin1_aae02_17 : decode cJ5_isLatin1_aae02 17 = .ok (.iconst 0, 1) := by decide +kernel
theorem dJ5_isLatin1_aae02_18 : decode cJ5_isLatin1_aae02 18 = .ok (.ireturn, 1) := by decide +kernel
set_option maxRecDepth 20000 in
theorem ggJ5_inflateIfNeededFor_a7421_J0_coder_7d493 : GoodIn wsJ5_inflateIfNeededFor_a7421 wsJ0_coder_7d493 := goodIn_r _ [7, 8, 9] (by decide +kernel) (by decide +kernel)
set_option maxRecDepth 20000 in
theorem gJ5_inflateIfNeededFor_a7421_J0_coder_7d493 : GoodIn wsJ5_inflateIfNeededFor_a7421 (wsV RJ5 40 RJ0 yJ0_coder_7d493 wsJ0_coder_7d493) := goodIn_app (goodIn_of _ (by decide +kernel)) ggJ5_inflateIfNeededFor_a7421_J0_coder_7d493
set_option maxRecDepth 20000 in
theorem ggJ5_inflateIfNeededFor_a7421_J5_inflate_da8c8 : GoodIn wsJ5_inflateIfNeededFor_a7421 wsJ5_inflate_da8c8 := goodIn_r _ [15, 16, 17, 2, 18, 19, 20, 21, 14, 22, 1, 23, 24, 25, 26, 27, 28, 29, 30, 31, 32, 33, 34, 35, 36, 37, 38, 39, 40, 41, 42, 43, 44, 45, 46, 6, 47, 48, 49, 50, 51, 52, 53, 54, 55, 56, 57, 58, 59, 60, 61, 62] (by decide +kernel) (by decide +kernel)
set_option maxRecDepth 20000 in
theorem gJ5_inflateIfNeededFor_a7421_J5_inflate_da8c8_u195J4 : GoodIn wsJ5_inflateIfNeededFor_a7421 (va_wsU RJ5 195 RJ4 "java/lang/AbstractStringBuilder" ⟨"java/lang/AbstractStringBuilder", "inflate", "()V"⟩ yJ5_inflate_da8c8 wsJ5_inflate_da8c8) := goodIn_app (goodIn_of _ (by decide +kernel)) ggJ5_inflateIfNeededFor_a7421_J5_inflate_da8c8
theorem dJ5_inflateIfNeededFor_a7421_0 : decode cJ5_inflateIfNeededFor_a7421 0 = .ok (.getstatic 18, 3) := by decide +kernel
theorem dJ5_inflateIfNeededFor_a7421_3 : decode cJ5_inflateIfNeededFor_a7421 3 = .ok (.ifCond .eq 18, 3) := by decide +kernel
theorem dJ5_inflateIfNeededFor_a7421_6 : decode cJ5_inflateIfNeededFor_a7421 6 = .ok (.aload_n 0, 1) := by decide +kernel
theorem dJ5_inflateIfNeededFor_a7421_7 : decode cJ5_inflateIfNeededFor_a7421 7 = .ok (.getfield 22, 3) := by decide +kernel
theorem dJ5_inflateIfNeededFor_a7421_10 : decode cJ5_inflateIfNeededFor_a7421 10 = .ok (.aload_n 1, 1) := by decide +kernel
theorem dJ5_inflateIfNeededFor_a7421_11 : decode cJ5_inflateIfNeededFor_a7421 11 = .ok (.invokevirtual 40, 3) := by decide +kernel
theorem dJ5_inflateIfNeededFor_a7421_14 : decode cJ5_inflateIfNeededFor_a7421 14 = .ok (.if_icmp .eq 7, 3) := by decide +kernel
theorem dJ5_inflateIfNeededFor_a7421_17 : decode cJ5_inflateIfNeededFor_a7421 17 = .ok (.aload_n 0, 1) := by decide +kernel
theorem dJ5_inflateIfNeededFor_a7421_18 : decode cJ5_inflateIfNeededFor_a7421 18 = .ok (.invokevirtual 195, 3) := by decide +kernel
theorem dJ5_inflateIfNeededFor_a7421_21 : decode cJ5_inflateIfNeededFor_a7421 21 = .ok (.return_, 1) := by decide +kernel
set_option maxRecDepth 20000 in
theorem ggJ5_putStringAt_47b60_J5_inflateIfNeededFor_a7421 : GoodIn wsJ5_putStringAt_47b60 wsJ5_inflateIfNeededFor_a7421 := goodIn_r _ [8, 9, 2, 10, 11, 12, 13, 14, 15, 16, 17, 18, 19, 20, 7, 21, 1, 22, 23, 24, 25, 26, 27, 28, 29, 30, 31, 32, 33, 34, 35, 36, 37, 38, 39, 40, 41, 42, 43, 44, 45, 46, 47, 48, 49, 50, 51, 52, 53, 54, 55, 56, 57, 58, 59, 60, 61, 62, 63, 75, 76, 77, 78] (by decide +kernel) (by decide +kernel)
set_option maxRecDepth 20000 in
theorem gJ5_putStringAt_47b60_J5_inflateIfNeededFor_a7421_u397J4 : GoodIn wsJ5_putStringAt_47b60 (va_wsU RJ5 397 RJ4 "java/lang/AbstractStringBuilder" ⟨"java/lang/AbstractStringBuilder", "inflateIfNeededFor", "(Ljava/lang/String;)V"⟩ yJ5_inflateIfNeededFor_a7421 wsJ5_inflateIfNeededFor_a7421) := goodIn_app (goodIn_of _ (by decide +kernel)) ggJ5_putStringAt_47b60_J5_inflateIfNeededFor_a7421
set_option maxRecDepth 20000 in
theorem ggJ5_putStringAt_47b60_J0_getBytes_840e7 : GoodIn wsJ5_putStringAt_47b60 wsJ0_getBytes_840e7 := goodIn_r _ [67, 68, 69, 70, 71, 72, 73, 11, 12, 13, 14, 15, 16, 74, 38, 39, 40, 41, 42, 30, 43, 44, 45, 46, 47, 48, 49, 50, 51, 52, 53, 54, 55, 56, 57, 58, 59, 60, 61, 62, 63] (by decide +kernel) (by decide +kernel)
set_option maxRecDepth 20000 in
theorem gJ5_putStringAt_47b60_J0_getBytes_840e7 : GoodIn wsJ5_putStringAt_47b60 (wsV RJ5 399 RJ0 yJ0_getBytes_840e7 wsJ0_getBytes_840e7) := goodIn_app (goodIn_of _ (by decide +kernel)) ggJ5_putStringAt_47b60_J0_getBytes_840e7
theorem dJ5_putStringAt_47b60_0 : decode cJ5_putStringAt_47b60 0 = .ok (.aload_n 0, 1) := by decide +kernel
theorem dJ5_putStringAt_47b60_1 : decode cJ5_putStringAt_47b60 1 = .ok (.aload_n 2, 1) := by decide +kernel
theorem dJ5_putStringAt_47b60_2 : decode cJ5_putStringAt_47b60 2 = .ok (.invokevirtual 397, 3) := by decide +kernel
theorem dJ5_putStringAt_47b60_5 : decode cJ5_putStringAt_47b60 5 = .ok (.aload_n 2, 1) := by decide +kernel
theorem dJ5_putStringAt_47b60_6 : decode cJ5_putStringAt_47b60 6 = .ok (.aload_n 0, 1) := by decide +kernel
theorem dJ5_putStringAt_47b60_7 : decode cJ5_putStringAt_47b60 7 = .ok (.getfield 15, 3) := by decide +kernel
theorem dJ5_putStringAt_47b60_10 : decode cJ5_putStringAt_47b60 10 = .ok (.iload_n 1, 1) := by decide +kernel
theorem dJ5_putStringAt_47b60_11 : decode cJ5_putStringAt_47b60 11 = .ok (.aload_n 0, 1) := by decide +kernel
theorem dJ5_putStringAt_47b60_12 : decode cJ5_putStringAt_47b60 12 = .ok (.getfield 22, 3) := by decide +kernel
theorem dJ5_putStringAt_47b60_15 : decode cJ5_putStringAt_47b60 15 = .ok (.invokevirtual 399, 3) := by decide +kernel
theorem dJ5_putStringAt_47b60_18 : decode cJ5_putStringAt_47b60 18 = .ok (.return_, 1) := by decide +kernel
theorem dJ6_getChars_ba4f3_0 : decode cJ6_getChars_ba4f3 0 = .ok (.iload_n 1, 1) := by decide +kernel
theorem dJ6_getChars_ba4f3_1 : decode cJ6_getChars_ba4f3 1 = .ok (.istore 5, 2) := by decide +kernel
theorem dJ6_getChars_ba4f3_3 : decode cJ6_getChars_ba4f3 3 = .ok (.iload_n 0, 1) := by decide +kernel
theorem dJ6_getChars_ba4f3_4 : decode cJ6_getChars_ba4f3 4 = .ok (.ifCond .ge 7, 3) := by decide +kernel
theorem dJ6_getChars_ba4f3_7 : decode cJ6_getChars_ba4f3 7 = .ok (.iconst 1, 1) := by decide +kernel
theorem dJ6_getChars_ba4f3_8 : decode cJ6_getChars_ba4f3 8 = .ok (.goto 4, 3) := by decide +kernel
theorem dJ6_getChars_ba4f3_11 : decode cJ6_getChars_ba4f3 11 = .ok (.iconst 0, 1) := by decide +kernel
theorem dJ6_getChars_ba4f3_12 : decode cJ6_getChars_ba4f3 12 = .ok (.istore 6, 2) := by decide +kernel
theorem dJ6_getChars_ba4f3_14 : decode cJ6_getChars_ba4f3 14 = .ok (.iload 6, 2) := by decide +kernel
theorem dJ6_getChars_ba4f3_16 : decode cJ6_getChars_ba4f3 16 = .ok (.ifCond .ne 6, 3) := by decide +kernel
theorem dJ6_getChars_ba4f3_19 : decode cJ6_getChars_ba4f3 19 = .ok (.iload_n 0, 1) := by decide +kernel
theorem dJ6_getChars_ba4f3_20 : decode cJ6_getChars_ba4f3 20 = .ok (.ineg, 1) := by decide +kernel
theorem dJ6_getChars_ba4f3_21 : decode cJ6_getChars_ba4f3 21 = .ok (.istore_n 0, 1) := by decide +kernel
theorem dJ6_getChars_ba4f3_22 : decode cJ6_getChars_ba4f3 22 = .ok (.iload_n 0, 1) := by decide +kernel
theorem dJ6_getChars_ba4f3_23 : decode cJ6_getChars_ba4f3 23 = .ok (.bipush (-100), 2) := by decide +kernel
theorem dJ6_getChars_ba4f3_25 : decode cJ6_getChars_ba4f3 25 = .ok (.if_icmp .gt 47, 3) := by decide +kernel
theorem dJ6_getChars_ba4f3_28 : decode cJ6_getChars_ba4f3 28 = .ok (.iload_n 0, 1) := by decide +kernel
theorem dJ6_getChars_ba4f3_29 : decode cJ6_getChars_ba4f3 29 = .ok (.bipush 100, 2) := by decide +kernel
theorem dJ6_getChars_ba4f3_31 : decode cJ6_getChars_ba4f3 31 = .ok (.idiv, 1) := by decide +kernel
theorem dJ6_getChars_ba4f3_32 : decode cJ6_getChars_ba4f3 32 = .ok (.istore_n 3, 1) := by decide +kernel
theorem dJ6_getChars_ba4f3_33 : decode cJ6_getChars_ba4f3 33 = .ok (.iload_n 3, 1) := by decide +kernel
theorem dJ6_getChars_ba4f3_34 : decode cJ6_getChars_ba4f3 34 = .ok (.bipush 100, 2) := by decide +kernel
theorem dJ6_getChars_ba4f3_36 : decode cJ6_getChars_ba4f3 36 = .ok (.imul, 1) := by decide +kernel
theorem dJ6_getChars_ba4f3_37 : decode cJ6_getChars_ba4f3 37 = .ok (.iload_n 0, 1) := by decide +kernel
theorem dJ6_getChars_ba4f3_38 : decode cJ6_getChars_ba4f3 38 = .ok (.isub, 1) := by decide +kernel
theorem dJ6_getChars_ba4f3_39 : decode cJ6_getChars_ba4f3 39 = .ok (.istore 4, 2) := by decide +kernel
theorem dJ6_getChars_ba4f3_41 : decode cJ6_getChars_ba4f3 41 = .ok (.iload_n 3, 1) := by decide +kernel
theorem dJ6_getChars_ba4f3_42 : decode cJ6_getChars_ba4f3 42 = .ok (.istore_n 0, 1) := by decide +kernel
theorem dJ6_getChars_ba4f3_43 : decode cJ6_getChars_ba4f3 43 = .ok (.aload_n 2, 1) := by decide +kernel
theorem dJ6_getChars_ba4f3_44 : decode cJ6_getChars_ba4f3 44 = .ok (.iinc 5 (-1), 3) := by decide +kernel
theorem dJ6_getChars_ba4f3_47 : decode cJ6_getChars_ba4f3 47 = .ok (.iload 5, 2) := by decide +kernel
theorem dJ6_getChars_ba4f3_49 : decode cJ6_getChars_ba4f3 49 = .ok (.getstatic 83, 3) := by decide +kernel
theorem dJ6_getChars_ba4f3_52 : decode cJ6_getChars_ba4f3 52 = .ok (.iload 4, 2) := by decide +kernel
theorem dJ6_getChars_ba4f3_54 : decode cJ6_getChars_ba4f3 54 = .ok (.baload, 1) := by decide +kernel
theorem dJ6_getChars_ba4f3_55 : decode cJ6_getChars_ba4f3 55 = .ok (.bastore, 1) := by decide +kernel
theorem dJ6_getChars_ba4f3_56 : decode cJ6_getChars_ba4f3 56 = .ok (.aload_n 2, 1) := by decide +kernel
theorem dJ6_getChars_ba4f3_57 : decode cJ6_getChars_ba4f3 57 = .ok (.iinc 5 (-1), 3) := by decide +kernel
theorem dJ6_getChars_ba4f3_60 : decode cJ6_getChars_ba4f3 60 = .ok (.iload 5, 2) := by decide +kernel
theorem dJ6_getChars_ba4f3_62 : decode cJ6_getChars_ba4f3 62 = .ok (.getstatic 87, 3) := by decide +kernel
theorem dJ6_getChars_ba4f3_65 : decode cJ6_getChars_ba4f3 65 = .ok (.iload 4, 2) := by decide +kernel
theorem dJ6_getChars_ba4f3_67 : decode cJ6_getChars_ba4f3 67 = .ok (.baload, 1) := by decide +kernel
theorem dJ6_getChars_ba4f3_68 : decode cJ6_getChars_ba4f3 68 = .ok (.bastore, 1) := by decide +kernel
theorem dJ6_getChars_ba4f3_69 : decode cJ6_getChars_ba4f3 69 = .ok (.goto (-47), 3) := by decide +kernel
theorem dJ6_getChars_ba4f3_72 : decode cJ6_getChars_ba4f3 72 = .ok (.aload_n 2, 1) := by decide +kernel
theorem dJ6_getChars_ba4f3_73 : decode cJ6_getChars_ba4f3 73 = .ok (.iinc 5 (-1), 3) := by decide +kernel
theorem dJ6_getChars_ba4f3_76 : decode cJ6_getChars_ba4f3 76 = .ok (.iload 5, 2) := by decide +kernel
theorem dJ6_getChars_ba4f3_78 : decode cJ6_getChars_ba4f3 78 = .ok (.getstatic 83, 3) := by decide +kernel
theorem dJ6_getChars_ba4f3_81 : decode cJ6_getChars_ba4f3 81 = .ok (.iload_n 0, 1) := by decide +kernel
theorem dJ6_getChars_ba4f3_82 : decode cJ6_getChars_ba4f3 82 = .ok (.ineg, 1) := by decide +kernel
theorem dJ6_getChars_ba4f3_83 : decode cJ6_getChars_ba4f3 83 = .ok (.baload, 1) := by decide +kernel
theorem dJ6_getChars_ba4f3_84 : decode cJ6_getChars_ba4f3 84 = .ok (.bastore, 1) := by decide +kernel
theorem dJ6_getChars_ba4f3_85 : decode cJ6_getChars_ba4f3 85 = .ok (.iload_n 0, 1) := by decide +kernel
theorem dJ6_getChars_ba4f3_86 : decode cJ6_getChars_ba4f3 86 = .ok (.bipush (-9), 2) := by decide +kernel
theorem dJ6_getChars_ba4f3_88 : decode cJ6_getChars_ba4f3 88 = .ok (.if_icmp .ge 16, 3) := by decide +kernel
theorem dJ6_getChars_ba4f3_91 : decode cJ6_getChars_ba4f3 91 = .ok (.aload_n 2, 1) := by decide +kernel
theorem dJ6_getChars_ba4f3_92 : decode cJ6_getChars_ba4f3 92 = .ok (.iinc 5 (-1), 3) := by decide +kernel
theorem dJ6_getChars_ba4f3_95 : decode cJ6_getChars_ba4f3 95 = .ok (.iload 5, 2) := by decide +kernel
theorem dJ6_getChars_ba4f3_97 : decode cJ6_getChars_ba4f3 97 = .ok (.getstatic 87, 3) := by decide +kernel
theorem dJ6_getChars_ba4f3_100 : decode cJ6_getChars_ba4f3 100 = .ok (.iload_n 0, 1) := by decide +kernel
theorem dJ6_getChars_ba4f3_101 : decode cJ6_getChars_ba4f3 101 = .ok (.ineg, 1) := by decide +kernel
theorem dJ6_getChars_ba4f3_102 : decode cJ6_getChars_ba4f3 102 = .ok (.baload, 1) := by decide +kernel
theorem dJ6_getChars_ba4f3_103 : decode cJ6_getChars_ba4f3 103 = .ok (.bastore, 1) := by decide +kernel
theorem dJ6_getChars_ba4f3_104 : decode cJ6_getChars_ba4f3 104 = .ok (.iload 6, 2) := by decide +kernel
theorem dJ6_getChars_ba4f3_106 : decode cJ6_getChars_ba4f3 106 = .ok (.ifCond .eq 12, 3) := by decide +kernel
theorem dJ6_getChars_ba4f3_109 : decode cJ6_getChars_ba4f3 109 = .ok (.aload_n 2, 1) := by decide +kernel
theorem dJ6_getChars_ba4f3_110 : decode cJ6_getChars_ba4f3 110 = .ok (.iinc 5 (-1), 3) := by decide +kernel
theorem dJ6_getChars_ba4f3_113 : decode cJ6_getChars_ba4f3 113 = .ok (.iload 5, 2) := by decide +kernel
theorem dJ6_getChars_ba4f3_115 : decode cJ6_getChars_ba4f3 115 = .ok (.bipush 45, 2) := by decide +kernel
theorem dJ6_getChars_ba4f3_117 : decode cJ6_getChars_ba4f3 117 = .ok (.bastore, 1) := by decide +kernel
theorem dJ6_getChars_ba4f3_118 : decode cJ6_getChars_ba4f3 118 = .ok (.iload 5, 2) := by decide +kernel
theorem dJ6_getChars_ba4f3_120 : decode cJ6_getChars_ba4f3 120 = .ok (.ireturn, 1) := by decide +kernel
theorem dJ6_stringSize_0f7a4_0 : decode cJ6_stringSize_0f7a4 0 = .ok (.iconst 1, 1) := by decide +kernel
theorem dJ6_stringSize_0f7a4_1 : decode cJ6_stringSize_0f7a4 1 = .ok (.istore_n 1, 1) := by decide +kernel
theorem dJ6_stringSize_0f7a4_2 : decode cJ6_stringSize_0f7a4 2 = .ok (.iload_n 0, 1) := by decide +kernel
theorem dJ6_stringSize_0f7a4_3 : decode cJ6_stringSize_0f7a4 3 = .ok (.ifCond .lt 8, 3) := by decide +kernel
theorem dJ6_stringSize_0f7a4_6 : decode cJ6_stringSize_0f7a4 6 = .ok (.iconst 0, 1) := by decide +kernel
theorem dJ6_stringSize_0f7a4_7 : decode cJ6_stringSize_0f7a4 7 = .ok (.istore_n 1, 1) := by decide +kernel
theorem dJ6_stringSize_0f7a4_8 : decode cJ6_stringSize_0f7a4 8 = .ok (.iload_n 0, 1) := by decide +kernel
theorem dJ6_stringSize_0f7a4_9 : decode cJ6_stringSize_0f7a4 9 = .ok (.ineg, 1) := by decide +kernel
theorem dJ6_stringSize_0f7a4_10 : decode cJ6_stringSize_0f7a4 10 = .ok (.istore_n 0, 1) := by decide +kernel
theorem dJ6_stringSize_0f7a4_11 : decode cJ6_stringSize_0f7a4 11 = .ok (.bipush (-10), 2) := by decide +kernel
theorem dJ6_stringSize_0f7a4_13 : decode cJ6_stringSize_0f7a4 13 = .ok (.istore_n 2, 1) := by decide +kernel
theorem dJ6_stringSize_0f7a4_14 : decode cJ6_stringSize_0f7a4 14 = .ok (.iconst 1, 1) := by decide +kernel
theorem dJ6_stringSize_0f7a4_15 : decode cJ6_stringSize_0f7a4 15 = .ok (.istore_n 3, 1) := by decide +kernel
theorem dJ6_stringSize_0f7a4_16 : decode cJ6_stringSize_0f7a4 16 = .ok (.iload_n 3, 1) := by decide +kernel
theorem dJ6_stringSize_0f7a4_17 : decode cJ6_stringSize_0f7a4 17 = .ok (.bipush 10, 2) := by decide +kernel
theorem dJ6_stringSize_0f7a4_19 : decode cJ6_stringSize_0f7a4 19 = .ok (.if_icmp .ge 23, 3) := by decide +kernel
theorem dJ6_stringSize_0f7a4_22 : decode cJ6_stringSize_0f7a4 22 = .ok (.iload_n 0, 1) := by decide +kernel
theorem dJ6_stringSize_0f7a4_23 : decode cJ6_stringSize_0f7a4 23 = .ok (.iload_n 2, 1) := by decide +kernel
theorem dJ6_stringSize_0f7a4_24 : decode cJ6_stringSize_0f7a4 24 = .ok (.if_icmp .le 7, 3) := by decide +kernel
theorem dJ6_stringSize_0f7a4_27 : decode cJ6_stringSize_0f7a4 27 = .ok (.iload_n 3, 1) := by decide +kernel
theorem dJ6_stringSize_0f7a4_28 : decode cJ6_stringSize_0f7a4 28 = .ok (.iload_n 1, 1) := by decide +kernel
theorem dJ6_stringSize_0f7a4_29 : decode cJ6_stringSize_0f7a4 29 = .ok (.iadd, 1) := by decide +kernel
theorem dJ6_stringSize_0f7a4_30 : decode cJ6_stringSize_0f7a4 30 = .ok (.ireturn, 1) := by decide +kernel
theorem dJ6_stringSize_0f7a4_31 : decode cJ6_stringSize_0f7a4 31 = .ok (.bipush 10, 2) := by decide +kernel
theorem dJ6_stringSize_0f7a4_33 : decode cJ6_stringSize_0f7a4 33 = .ok (.iload_n 2, 1) := by decide +kernel
theorem dJ6_stringSize_0f7a4_34 : decode cJ6_stringSize_0f7a4 34 = .ok (.imul, 1) := by decide +kernel
theorem dJ6_stringSize_0f7a4_35 : decode cJ6_stringSize_0f7a4 35 = .ok (.istore_n 2, 1) := by decide +kernel
theorem dJ6_stringSize_0f7a4_36 : decode cJ6_stringSize_0f7a4 36 = .ok (.iinc 3 1, 3) := by decide +kernel
theorem dJ6_stringSize_0f7a4_39 : decode cJ6_stringSize_0f7a4 39 = .ok (.goto (-23), 3) := by decide +kernel
theorem dJ6_stringSize_0f7a4_42 : decode cJ6_stringSize_0f7a4 42 = .ok (.bipush 10, 2) := by decide +kernel
theorem dJ6_stringSize_0f7a4_44 : decode cJ6_stringSize_0f7a4 44 = .ok (.iload_n 1, 1) := by decide +kernel
theorem dJ6_stringSize_0f7a4_45 : decode cJ6_stringSize_0f7a4 45 = .ok (.iadd, 1) := by decide +kernel
theorem dJ6_stringSize_0f7a4_46 : decode cJ6_stringSize_0f7a4 46 = .ok (.ireturn, 1) := by decide +kernel
theorem dJ9_max_7cf53_0 : decode cJ9_max_7cf53 0 = .ok (.iload_n 0, 1) := by decide +kernel
theorem dJ9_max_7cf53_1 : decode cJ9_max_7cf53 1 = .ok (.iload_n 1, 1) := by decide +kernel
theorem dJ9_max_7cf53_2 : decode cJ9_max_7cf53 2 = .ok (.if_icmp .lt 7, 3) := by decide +kernel
theorem dJ9_max_7cf53_5 : decode cJ9_max_7cf53 5 = .ok (.iload_n 0, 1) := by decide +kernel
theorem dJ9_max_7cf53_6 : decode cJ9_max_7cf53 6 = .ok (.goto 4, 3) := by decide +kernel
theorem dJ9_max_7cf53_9 : decode cJ9_max_7cf53 9 = .ok (.iload_n 1, 1) := by decide +kernel
theorem dJ9_max_7cf53_10 : decode cJ9_max_7cf53 10 = .ok (.ireturn, 1) := by decide +kernel
theorem dJ9_min_7cf53_0 : decode cJ9_min_7cf53 0 = .ok (.iload_n 0, 1) := by decide +kernel
theorem dJ9_min_7cf53_1 : decode cJ9_min_7cf53 1 = .ok (.iload_n 1, 1) := by decide +kernel
theorem dJ9_min_7cf53_2 : decode cJ9_min_7cf53 2 = .ok (.if_icmp .gt 7, 3) := by decide +kernel
theorem dJ9_min_7cf53_5 : decode cJ9_min_7cf53 5 = .ok (.iload_n 0, 1) := by decide +kernel
theorem dJ9_min_7cf53_6 : decode cJ9_min_7cf53 6 = .ok (.goto 4, 3) := by decide +kernel
theorem dJ9_min_7cf53_9 : decode cJ9_min_7cf53 9 = .ok (.iload_n 1, 1) := by decide +kernel
theorem dJ9_min_7cf53_10 : decode cJ9_min_7cf53 10 = .ok (.ireturn, 1) := by decide +kernel
theorem dJ9_min_f86c9_0 : decode cJ9_min_f86c9 0 = .ok (.lload_n 0, 1) := by decide +kernel
theorem dJ9_min_f86c9_1 : decode cJ9_min_f86c9 1 = .ok (.lload_n 2, 1) := by decide +kernel
theorem dJ9_min_f86c9_2 : decode cJ9_min_f86c9 2 = .ok (.lcmp, 1) := by decide +kernel
theorem dJ9_min_f86c9_3 : decode cJ9_min_f86c9 3 = .ok (.ifCond .gt 7, 3) := by decide +kernel
theorem dJ9_min_f86c9_6 : decode cJ9_min_f86c9 6 = .ok (.lload_n 0, 1) := by decide +kernel
theorem dJ9_min_f86c9_7 : decode cJ9_min_f86c9 7 = .ok (.goto 4, 3) := by decide +kernel
theorem dJ9_min_f86c9_10 : decode cJ9_min_f86c9 10 = .ok (.lload_n 2, 1) := by decide +kernel
theorem dJ9_min_f86c9_11 : decode cJ9_min_f86c9 11 = .ok (.lreturn, 1) := by decide +kernel
set_option maxRecDepth 20000 in
theorem ggJ0_length_8abf5_J0_coder_7d493 : GoodIn wsJ0_length_8abf5 wsJ0_coder_7d493 := goodIn_r _ [6, 7, 8] (by decide +kernel) (by decide +kernel)
set_option maxRecDepth 20000 in
theorem gJ0_length_8abf5_J0_coder_7d493 : GoodIn wsJ0_length_8abf5 (wsV RJ0 335 RJ0 yJ0_coder_7d493 wsJ0_coder_7d493) := goodIn_app (goodIn_of _ (by decide +kernel)) ggJ0_length_8abf5_J0_coder_7d493
theorem dJ0_length_8abf5_0 : decode cJ0_length_8abf5 0 = .ok (.aload_n 0, 1) := by decide +kernel
theorem dJ0_length_8abf5_1 : decode cJ0_length_8abf5 1 = .ok (.getfield 9, 3) := by decide +kernel
theorem dJ0_length_8abf5_4 : decode cJ0_length_8abf5 4 = .ok (.arraylength, 1) := by decide +kernel
theorem dJ0_length_8abf5_5 : decode cJ0_length_8abf5 5 = .ok (.aload_n 0, 1) := by decide +kernel
theorem dJ0_length_8abf5_6 : decode cJ0_length_8abf5 6 = .ok (.invokevirtual 335, 3) := by decide +kernel
theorem dJ0_length_8abf5_9 : decode cJ0_length_8abf5 9 = .ok (.ishr, 1) := by decide +kernel
theorem dJ0_length_8abf5_10 : decode cJ0_length_8abf5 10 = .ok (.ireturn, 1) := by decide +kernel
set_option maxRecDepth 20000 in
theorem ggJ0_charAt_5068e_J0_isLatin1_aae02 : GoodIn wsJ0_charAt_5068e wsJ0_isLatin1_aae02 := goodIn_r _ [6, 7, 8] (by decide +kernel) (by decide +kernel)
set_option maxRecDepth 20000 in
theorem gJ0_charAt_5068e_J0_isLatin1_aae02 : GoodIn wsJ0_charAt_5068e (wsV RJ0 492 RJ0 yJ0_isLatin1_aae02 wsJ0_isLatin1_aae02) := goodIn_app (goodIn_of _ (by decide +kernel)) ggJ0_charAt_5068e_J0_isLatin1_aae02
set_option maxRecDepth 20000 in
theorem ggJ0_charAt_5068e_J1_charAt_3b067 : GoodIn wsJ0_charAt_5068e wsJ1_charAt_3b067 := goodIn_r _ [12, 13, 14, 5, 15, 16, 17, 18, 19, 20] (by decide +kernel) (by decide +kernel)
set_option maxRecDepth 20000 in
theorem gJ0_charAt_5068e_J1_charAt_3b067 : GoodIn wsJ0_charAt_5068e (va_wsS RJ0 495 yJ1_charAt_3b067 wsJ1_charAt_3b067) := goodIn_app (goodIn_of _ (by decide +kernel)) ggJ0_charAt_5068e_J1_charAt_3b067
set_option maxRecDepth 20000 in
theorem ggJ0_charAt_5068e_J2_charAt_3b067 : GoodIn wsJ0_charAt_5068e wsJ2_charAt_3b067 := goodIn_r _ [24, 25, 26, 23, 27, 28, 29, 30, 31, 14, 5, 15, 16, 17, 18, 19, 20, 32, 33, 34, 35, 36, 37] (by decide +kernel) (by decide +kernel)
set_option maxRecDepth 20000 in
theorem gJ0_charAt_5068e_J2_charAt_3b067 : GoodIn wsJ0_charAt_5068e (va_wsS RJ0 498 yJ2_charAt_3b067 wsJ2_charAt_3b067) := goodIn_app (goodIn_of _ (by decide +kernel)) ggJ0_charAt_5068e_J2_charAt_3b067
theorem dJ0_charAt_5068e_0 : decode cJ0_charAt_5068e 0 = .ok (.aload_n 0, 1) := by decide +kernel
theorem dJ0_charAt_5068e_1 : decode cJ0_charAt_5068e 1 = .ok (.invokevirtual 492, 3) := by decide +kernel
theorem dJ0_charAt_5068e_4 : decode cJ0_charAt_5068e 4 = .ok (.ifCond .eq 12, 3) := by decide +kernel
theorem dJ0_charAt_5068e_7 : decode cJ0_charAt_5068e 7 = .ok (.aload_n 0, 1) := by decide +kernel
theorem dJ0_charAt_5068e_8 : decode cJ0_charAt_5068e 8 = .ok (.getfield 9, 3) := by decide +kernel
theorem dJ0_charAt_5068e_11 : decode cJ0_charAt_5068e 11 = .ok (.iload_n 1, 1) := by decide +kernel
theorem dJ0_charAt_5068e_12 : decode cJ0_charAt_5068e 12 = .ok (.invokestatic 495, 3) := by decide +kernel
theorem dJ0_charAt_5068e_15 : decode cJ0_charAt_5068e 15 = .ok (.ireturn, 1) := by decide +kernel
theorem dJ0_charAt_5068e_16 : decode cJ0_charAt_5068e 16 = .ok (.aload_n 0, 1) := by decide +kernel
theorem dJ0_charAt_5068e_17 : decode cJ0_charAt_5068e 17 = .ok (.getfield 9, 3) := by decide +kernel
theorem dJ0_charAt_5068e_20 : decode cJ0_charAt_5068e 20 = .ok (.iload_n 1, 1) := by decide +kernel
theorem dJ0_charAt_5068e_21 : decode cJ0_charAt_5068e 21 = .ok (.invokestatic 498, 3) := by decide +kernel
theorem dJ0_charAt_5068e_24 : decode cJ0_charAt_5068e 24 = .ok (.ireturn, 1) := by decide +kernel
set_option maxRecDepth 20000 in
theorem ggJ0_getBytes_840e7_J0_coder_7d493 : GoodIn wsJ0_getBytes_840e7 wsJ0_coder_7d493 := goodIn_r _ [10, 11, 12] (by decide +kernel) (by decide +kernel)
set_option maxRecDepth 20000 in
theorem gJ0_getBytes_840e7_J0_coder_7d493 : GoodIn wsJ0_getBytes_840e7 (wsV RJ0 335 RJ0 yJ0_coder_7d493 wsJ0_coder_7d493) := goodIn_app (goodIn_of _ (by decide +kernel)) ggJ0_getBytes_840e7_J0_coder_7d493
set_option maxRecDepth 20000 in
theorem ggJ0_getBytes_840e7_J1_inflate_0e8fd : GoodIn wsJ0_getBytes_840e7 wsJ1_inflate_0e8fd := goodIn_r _ [16, 17, 18, 19, 20, 21, 22, 23, 24, 25, 26, 27, 28, 9, 29, 30, 31, 32, 33, 34, 35, 36, 37, 38, 39, 40] (by decide +kernel) (by decide +kernel)
set_option maxRecDepth 20000 in
theorem gJ0_getBytes_840e7_J1_inflate_0e8fd : GoodIn wsJ0_getBytes_840e7 (va_wsS RJ0 106 yJ1_inflate_0e8fd wsJ1_inflate_0e8fd) := goodIn_app (goodIn_of _ (by decide +kernel)) ggJ0_getBytes_840e7_J1_inflate_0e8fd
theorem dJ0_getBytes_840e7_0 : decode cJ0_getBytes_840e7 0 = .ok (.aload_n 0, 1) := by decide +kernel
theorem dJ0_getBytes_840e7_1 : decode cJ0_getBytes_840e7 1 = .ok (.invokevirtual 335, 3) := by decide +kernel
theorem dJ0_getBytes_840e7_4 : decode cJ0_getBytes_840e7 4 = .ok (.iload_n 3, 1) := by decide +kernel
theorem dJ0_getBytes_840e7_5 : decode cJ0_getBytes_840e7 5 = .ok (.if_icmp .ne 23, 3) := by decide +kernel
theorem dJ0_getBytes_840e7_8 : decode cJ0_getBytes_840e7 8 = .ok (.aload_n 0, 1) := by decide +kernel
theorem dJ0_getBytes_840e7_9 : decode cJ0_getBytes_840e7 9 = .ok (.getfield 9, 3) := by decide +kernel
theorem dJ0_getBytes_840e7_12 : decode cJ0_getBytes_840e7 12 = .ok (.iconst 0, 1) := by decide +kernel
theorem dJ0_getBytes_840e7_13 : decode cJ0_getBytes_840e7 13 = .ok (.aload_n 1, 1) := by decide +kernel
theorem dJ0_getBytes_840e7_14 : decode cJ0_getBytes_840e7 14 = .ok (.iload_n 2, 1) := by decide +kernel
theorem dJ0_getBytes_840e7_15 : decode cJ0_getBytes_840e7 15 = .ok (.iload_n 3, 1) := by decide +kernel
theorem dJ0_getBytes_840e7_16 : decode cJ0_getBytes_840e7 16 = .ok (.ishl, 1) := by decide +kernel
theorem dJ0_getBytes_840e7_17 : decode cJ0_getBytes_840e7 17 = .ok (.aload_n 0, 1) := by decide +kernel
theorem dJ0_getBytes_840e7_18 : decode cJ0_getBytes_840e7 18 = .ok (.getfield 9, 3) := by decide +kernel
theorem dJ0_getBytes_840e7_21 : decode cJ0_getBytes_840e7 21 = .ok (.arraylength, 1) := by decide +kernel
theorem dJ0_getBytes_840e7_22 : decode cJ0_getBytes_840e7 22 = .ok (.invokestatic 212, 3) := by decide +kernel
theorem dJ0_getBytes_840e7_25 : decode cJ0_getBytes_840e7 25 = .ok (.goto 18, 3) := by decide +kernel
theorem dJ0_getBytes_840e7_28 : decode cJ0_getBytes_840e7 28 = .ok (.aload_n 0, 1) := by decide +kernel
theorem dJ0_getBytes_840e7_29 : decode cJ0_getBytes_840e7 29 = .ok (.getfield 9, 3) := by decide +kernel
theorem dJ0_getBytes_840e7_32 : decode cJ0_getBytes_840e7 32 = .ok (.iconst 0, 1) := by decide +kernel
theorem dJ0_getBytes_840e7_33 : decode cJ0_getBytes_840e7 33 = .ok (.aload_n 1, 1) := by decide +kernel
theorem dJ0_getBytes_840e7_34 : decode cJ0_getBytes_840e7 34 = .ok (.iload_n 2, 1) := by decide +kernel
theorem dJ0_getBytes_840e7_35 : decode cJ0_getBytes_840e7 35 = .ok (.aload_n 0, 1) := by decide +kernel
theorem dJ0_getBytes_840e7_36 : decode cJ0_getBytes_840e7 36 = .ok (.getfield 9, 3) := by decide +kernel
theorem dJ0_getBytes_840e7_39 : decode cJ0_getBytes_840e7 39 = .ok (.arraylength, 1) := by decide +kernel
theorem dJ0_getBytes_840e7_40 : decode cJ0_getBytes_840e7 40 = .ok (.invokestatic 106, 3) := by decide +kernel
theorem dJ0_getBytes_840e7_43 : decode cJ0_getBytes_840e7 43 = .ok (.return_, 1) := by decide +kernel
theorem dJ0_coder_7d493_0 : decode cJ0_coder_7d493 0 = .ok (.getstatic 38, 3) := by decide +kernel
theorem dJ0_coder_7d493_3 : decode cJ0_coder_7d493 3 = .ok (.ifCond .eq 10, 3) := by decide +kernel
theorem dJ0_coder_7d493_6 : decode cJ0_coder_7d493 6 = .ok (.aload_n 0, 1) := by decide +kernel
theorem dJ0_coder_7d493_7 : decode cJ0_coder_7d493 7 = .ok (.getfield 15, 3) := by decide +kernel
theorem dJ0_coder_7d493_10 : decode cJ0_coder_7d493 10 = .ok (.goto 4, 3) := by decide +kernel
theorem dJ0_coder_7d493_13 : decode cJ0_coder_7d493 13 = .ok (.iconst 1, 1) := by decide +kernel
theorem dJ0_coder_7d493_14 : decode cJ0_coder_7d493 14 = .ok (.ireturn, 1) := by decide +kernel
theorem dJ0_isLatin1_aae02_0 : decode cJ0_isLatin1_aae02 0 = .ok (.getstatic 38, 3) := by decide +kernel
theorem dJ0_isLatin1_aae02_3 : decode cJ0_isLatin1_aae02 3 = .ok (.ifCond .eq 14, 3) := by decide +kernel
theorem dJ0_isLatin1_aae02_6 : decode cJ0_isLatin1_aae02 6 = .ok (.aload_n 0, 1) := by decide +kernel
theorem dJ0_isLatin1_aae02_7 : decode cJ0_isLatin1_aae02 7 = .ok (.getfield 15, 3) := by decide +kernel
theorem dJ0_isLatin1_aae02_10 : decode cJ0_isLatin1_aae02 10 = .ok (.ifCond .ne 7, 3) := by decide +kernel
theorem dJ0_isLatin1_aae02_13 : decode cJ0_isLatin1_aae02 13 = .ok (.iconst 1, 1) := by decide +kernel
theorem dJ0_isLatin1_aae02_14 : decode cJ0_isLatin1_aae02 14 = .ok (.goto 4, 3) := by decide +kernel
theorem dJ0_isLatin1_aae02_17 : decode cJ0_isLatin1_aae02 17 = .ok (.iconst 0, 1) := by decide +kernel
theorem dJ0_isLatin1_aae02_18 : decode cJ0_isLatin1_aae02 18 = .ok (.ireturn, 1) := by decide +kernel
set_option maxRecDepth 20000 in
theorem ggJ0_checkIndex_df160_J3_checkIndex_8e157 : GoodIn wsJ0_checkIndex_df160 wsJ3_checkIndex_8e157 := goodIn_r _ [5] (by decide +kernel) (by decide +kernel)
set_option maxRecDepth 20000 in
theorem gJ0_checkIndex_df160_J3_checkIndex_8e157 : GoodIn wsJ0_checkIndex_df160 (va_wsS RJ0 1059 yJ3_checkIndex_8e157 wsJ3_checkIndex_8e157) := goodIn_app (goodIn_of _ (by decide +kernel)) ggJ0_checkIndex_df160_J3_checkIndex_8e157
theorem dJ0_checkIndex_df160_0 : decode cJ0_checkIndex_df160 0 = .ok (.iload_n 0, 1) := by decide +kernel
theorem dJ0_checkIndex_df160_1 : decode cJ0_checkIndex_df160 1 = .ok (.iload_n 1, 1) := by decide +kernel
theorem dJ0_checkIndex_df160_2 : decode cJ0_checkIndex_df160 2 = .ok (.getstatic 1053, 3) := by decide +kernel
theorem dJ0_checkIndex_df160_5 : decode cJ0_checkIndex_df160 5 = .ok (.invokestatic 1059, 3) := by decide +kernel
theorem dJ0_checkIndex_df160_8 : decode cJ0_checkIndex_df160 8 = .ok (.pop, 1) := by decide +kernel
theorem dJ0_checkIndex_df160_9 : decode cJ0_checkIndex_df160 9 = .ok (.return_, 1) := by decide +kernel
set_option maxRecDepth 20000 in
theorem ggJ0_checkBoundsOffCount_cabcc_J3_checkFromIndexSize_8c36e : GoodIn wsJ0_checkBoundsOffCount_cabcc wsJ3_checkFromIndexSize_8c36e := goodIn_r _ [5] (by decide +kernel) (by decide +kernel)
set_option maxRecDepth 20000 in
theorem gJ0_checkBoundsOffCount_cabcc_J3_checkFromIndexSize_8c36e : GoodIn wsJ0_checkBoundsOffCount_cabcc (va_wsS RJ0 1065 yJ3_checkFromIndexSize_8c36e wsJ3_checkFromIndexSize_8c36e) := goodIn_app (goodIn_of _ (by decide +kernel)) ggJ0_checkBoundsOffCount_cabcc_J3_checkFromIndexSize_8c36e
theorem dJ0_checkBoundsOffCount_cabcc_0 : decode cJ0_checkBoundsOffCount_cabcc 0 = .ok (.iload_n 0, 1) := by decide +kernel
theorem dJ0_checkBoundsOffCount_cabcc_1 : decode cJ0_checkBoundsOffCount_cabcc 1 = .ok (.iload_n 1, 1) := by decide +kernel
theorem dJ0_checkBoundsOffCount_cabcc_2 : decode cJ0_checkBoundsOffCount_cabcc 2 = .ok (.iload_n 2, 1) := by decide +kernel
theorem dJ0_checkBoundsOffCount_cabcc_3 : decode cJ0_checkBoundsOffCount_cabcc 3 = .ok (.getstatic 1053, 3) := by decide +kernel
theorem dJ0_checkBoundsOffCount_cabcc_6 : decode cJ0_checkBoundsOffCount_cabcc 6 = .ok (.invokestatic 1065, 3) := by decide +kernel
theorem dJ0_checkBoundsOffCount_cabcc_9 : decode cJ0_checkBoundsOffCount_cabcc 9 = .ok (.ireturn, 1) := by decide +kernel
set_option maxRecDepth 20000 in
theorem ggJ0_checkBoundsBeginEnd_23922_J3_checkFromToIndex_8c36e : GoodIn wsJ0_checkBoundsBeginEnd_23922 wsJ3_checkFromToIndex_8c36e := goodIn_r _ [5] (by decide +kernel) (by decide +kernel)
set_option maxRecDepth 20000 in
theorem gJ0_checkBoundsBeginEnd_23922_J3_checkFromToIndex_8c36e : GoodIn wsJ0_checkBoundsBeginEnd_23922 (va_wsS RJ0 1062 yJ3_checkFromToIndex_8c36e wsJ3_checkFromToIndex_8c36e) := goodIn_app (goodIn_of _ (by decide +kernel)) ggJ0_checkBoundsBeginEnd_23922_J3_checkFromToIndex_8c36e
theorem dJ0_checkBoundsBeginEnd_23922_0 : decode cJ0_checkBoundsBeginEnd_23922 0 = .ok (.iload_n 0, 1) := by decide +kernel
theorem dJ0_checkBoundsBeginEnd_23922_1 : decode cJ0_checkBoundsBeginEnd_23922 1 = .ok (.iload_n 1, 1) := by decide +kernel
theorem dJ0_checkBoundsBeginEnd_23922_2 : decode cJ0_checkBoundsBeginEnd_23922 2 = .ok (.iload_n 2, 1) := by decide +kernel
theorem dJ0_checkBoundsBeginEnd_23922_3 : decode cJ0_checkBoundsBeginEnd_23922 3 = .ok (.getstatic 1053, 3) := by decide +kernel
theorem dJ0_checkBoundsBeginEnd_23922_6 : decode cJ0_checkBoundsBeginEnd_23922 6 = .ok (.invokestatic 1062, 3) := by decide +kernel
theorem dJ0_checkBoundsBeginEnd_23922_9 : decode cJ0_checkBoundsBeginEnd_23922 9 = .ok (.pop, 1) := by decide +kernel
theorem dJ0_checkBoundsBeginEnd_23922_10 : decode cJ0_checkBoundsBeginEnd_23922 10 = .ok (.return_, 1) := by decide +kernel
set_option maxRecDepth 20000 in
theorem ggJ4_init_da8c8_J5_init_d00df : GoodIn wsJ4_init_da8c8 wsJ5_init_d00df := goodIn_r _ [4, 5, 6, 7, 8, 9, 10, 11, 12, 13, 14, 15, 16, 17, 18, 19, 20, 21, 22, 23] (by decide +kernel) (by decide +kernel)
set_option maxRecDepth 20000 in
theorem gJ4_init_da8c8_J5_init_d00df : GoodIn wsJ4_init_da8c8 (wsJ5_init_d00df) := ggJ4_init_da8c8_J5_init_d00df
theorem dJ4_init_da8c8_0 : decode cJ4_init_da8c8 0 = .ok (.aload_n 0, 1) := by decide +kernel
theorem dJ4_init_da8c8_1 : decode cJ4_init_da8c8 1 = .ok (.bipush 16, 2) := by decide +kernel
theorem dJ4_init_da8c8_3 : decode cJ4_init_da8c8 3 = .ok (.invokespecial 1, 3) := by decide +kernel
theorem dJ4_init_da8c8_6 : decode cJ4_init_da8c8 6 = .ok (.return_, 1) := by decide +kernel
set_option maxRecDepth 20000 in
theorem ggJ4_append_15ec4_J5_append_cf1ce : GoodIn wsJ4_append_15ec4 wsJ5_append_cf1ce := goodIn_r _ [6, 7, 8, 9, 10, 11, 5, 12, 13, 14, 15, 16, 17, 18, 19, 20, 21, 22, 23, 24, 25, 26, 27, 28, 29, 30, 31, 32, 33, 34, 35, 36, 37, 38, 39, 40, 41, 42, 43, 44, 45, 46, 47, 48, 49, 50, 51, 52, 53, 54, 55, 56, 57, 58, 59, 60, 61, 62, 63, 64, 65, 66, 67, 68, 69, 70, 71, 72, 73, 74, 75, 76, 77, 78, 79, 80, 81, 82, 83, 84, 85, 86, 87, 88, 89, 90, 91, 92, 93, 94, 95, 96, 97, 98, 99, 100, 101, 102, 103, 104, 105, 106, 107, 108, 109, 110, 111, 112, 113, 114, 115, 116, 117, 118, 119, 120, 121, 122, 123, 124, 125, 126, 127, 128, 129, 130, 131, 132, 133, 134, 135, 136, 137, 138, 139, 140, 141, 142, 143, 144, 145, 146] (by decide +kernel) (by decide +kernel)
set_option maxRecDepth 20000 in
theorem gJ4_append_15ec4_J5_append_cf1ce_s29 : GoodIn wsJ4_append_15ec4 (va_wsSU RJ4 29 yJ5_append_cf1ce wsJ5_append_cf1ce) := goodIn_app (goodIn_of _ (by decide +kernel)) ggJ4_append_15ec4_J5_append_cf1ce
theorem dJ4_append_15ec4_0 : decode cJ4_append_15ec4 0 = .ok (.aload_n 0, 1) := by decide +kernel
theorem dJ4_append_15ec4_1 : decode cJ4_append_15ec4 1 = .ok (.aload_n 1, 1) := by decide +kernel
theorem dJ4_append_15ec4_2 : decode cJ4_append_15ec4 2 = .ok (.invokespecial 29, 3) := by decide +kernel
theorem dJ4_append_15ec4_5 : decode cJ4_append_15ec4 5 = .ok (.pop, 1) := by decide +kernel
theorem dJ4_append_15ec4_6 : decode cJ4_append_15ec4 6 = .ok (.aload_n 0, 1) := by decide +kernel
theorem dJ4_append_15ec4_7 : decode cJ4_append_15ec4 7 = .ok (.areturn, 1) := by decide +kernel
set_option maxRecDepth 20000 in
theorem ggJ4_append_cf468_J5_append_3fe6f : GoodIn wsJ4_append_cf468 wsJ5_append_3fe6f := goodIn_r _ [6, 7, 8, 9, 10, 11, 12, 5, 13, 14, 15, 16, 17, 18, 19, 20, 21, 22, 23, 24, 25, 26, 27, 28, 29, 30, 31, 32, 33, 34, 35, 36, 37, 38, 39, 40, 41, 42, 43, 44, 45, 46, 47, 48, 49, 50, 51, 52, 53, 54, 55, 56, 57, 58, 59, 60, 61, 62, 63, 64, 65, 66, 67, 68, 69, 70, 71, 72, 73, 74, 75, 76, 77, 78, 79, 80, 81, 82, 83, 84, 85, 86, 87, 88, 89, 90, 91, 92, 93, 94, 95, 96, 97, 98, 99, 100, 101, 102, 103, 104, 105, 106, 107, 108, 109, 110, 111, 112, 113, 114, 115, 116] (by decide +kernel) (by decide +kernel)
set_option maxRecDepth 20000 in
theorem gJ4_append_cf468_J5_append_3fe6f_s50 : GoodIn wsJ4_append_cf468 (va_wsSU RJ4 50 yJ5_append_3fe6f wsJ5_append_3fe6f) := goodIn_app (goodIn_of _ (by decide +kernel)) ggJ4_append_cf468_J5_append_3fe6f
theorem dJ4_append_cf468_0 : decode cJ4_append_cf468 0 = .ok (.aload_n 0, 1) := by decide +kernel
theorem dJ4_append_cf468_1 : decode cJ4_append_cf468 1 = .ok (.iload_n 1, 1) := by decide +kernel
theorem dJ4_append_cf468_2 : decode cJ4_append_cf468 2 = .ok (.invokespecial 50, 3) := by decide +kernel
theorem dJ4_append_cf468_5 : decode cJ4_append_cf468 5 = .ok (.pop, 1) := by decide +kernel
theorem dJ4_append_cf468_6 : decode cJ4_append_cf468 6 = .ok (.aload_n 0, 1) := by decide +kernel
theorem dJ4_append_cf468_7 : decode cJ4_append_cf468 7 = .ok (.areturn, 1) := by decide +kernel
set_option maxRecDepth 20000 in
theorem ggJ4_append_bf812_J5_append_c97b9 : GoodIn wsJ4_append_bf812 wsJ5_append_c97b9 := goodIn_r _ [6, 7, 8, 9, 10, 11, 12, 13, 14, 15, 16, 5, 17, 18, 19, 20, 21, 22, 23, 24, 25, 26, 27, 28, 29, 30, 31, 32, 33, 34, 35, 36, 37, 38, 39, 40, 41, 42, 43, 44, 45, 46, 47, 48, 49, 50, 51, 52, 53, 54, 55, 56, 57, 58, 59, 60, 61, 62, 63, 64, 65, 66, 67, 68, 69, 70, 71, 72, 73, 74, 75, 76, 77, 78, 79, 80, 81, 82, 83, 84, 85, 86, 87, 88, 89, 90, 91, 92, 93, 94, 95, 96, 97, 98, 99] (by decide +kernel) (by decide +kernel)
set_option maxRecDepth 20000 in
theorem gJ4_append_bf812_J5_append_c97b9_s53 : GoodIn wsJ4_append_bf812 (va_wsSU RJ4 53 yJ5_append_c97b9 wsJ5_append_c97b9) := goodIn_app (goodIn_of _ (by decide +kernel)) ggJ4_append_bf812_J5_append_c97b9
theorem dJ4_append_bf812_0 : decode cJ4_append_bf812 0 = .ok (.aload_n 0, 1) := by decide +kernel
theorem dJ4_append_bf812_1 : decode cJ4_append_bf812 1 = .ok (.iload_n 1, 1) := by decide +kernel
theorem dJ4_append_bf812_2 : decode cJ4_append_bf812 2 = .ok (.invokespecial 53, 3) := by decide +kernel
theorem dJ4_append_bf812_5 : decode cJ4_append_bf812 5 = .ok (.pop, 1) := by decide +kernel
theorem dJ4_append_bf812_6 : decode cJ4_append_bf812 6 = .ok (.aload_n 0, 1) := by decide +kernel
theorem dJ4_append_bf812_7 : decode cJ4_append_bf812 7 = .ok (.areturn, 1) := by decide +kernel
set_option maxRecDepth 20000 in
theorem ggJ4_charAt_5068e_J5_charAt_5068e : GoodIn wsJ4_charAt_5068e wsJ5_charAt_5068e := goodIn_r _ [6, 7, 8, 9, 10, 11, 12, 13, 14, 15, 16, 17, 18, 19, 20, 21, 22, 23, 24, 25, 26, 27, 28, 29, 30, 31, 32, 33, 34, 35, 36] (by decide +kernel) (by decide +kernel)
set_option maxRecDepth 20000 in
theorem gJ4_charAt_5068e_J5_charAt_5068e_s329 : GoodIn wsJ4_charAt_5068e (va_wsSU RJ4 329 yJ5_charAt_5068e wsJ5_charAt_5068e) := goodIn_app (goodIn_of _ (by decide +kernel)) ggJ4_charAt_5068e_J5_charAt_5068e
theorem dJ4_charAt_5068e_0 : decode cJ4_charAt_5068e 0 = .ok (.aload_n 0, 1) := by decide +kernel
theorem dJ4_charAt_5068e_1 : decode cJ4_charAt_5068e 1 = .ok (.iload_n 1, 1) := by decide +kernel
theorem dJ4_charAt_5068e_2 : decode cJ4_charAt_5068e 2 = .ok (.invokespecial 329, 3) := by decide +kernel
theorem dJ4_charAt_5068e_5 : decode cJ4_charAt_5068e 5 = .ok (.ireturn, 1) := by decide +kernel
set_option maxRecDepth 20000 in
theorem ggJ4_setLength_d00df_J5_setLength_d00df : GoodIn wsJ4_setLength_d00df wsJ5_setLength_d00df := goodIn_r _ [6, 7, 8, 9, 10, 11, 12, 13, 5, 14, 15, 16, 17, 18, 19, 20, 21, 22, 23, 24, 25, 26, 27, 28, 29, 30, 31, 32, 33, 34, 35, 36, 37, 38, 39, 40, 41, 42, 43, 44, 45, 46, 47, 48, 49, 50, 51, 52, 53, 54, 55, 56, 57, 58, 59, 60, 61, 62, 63, 64, 65, 66, 67, 68, 69, 70, 71, 72, 73, 74, 75, 76] (by decide +kernel) (by decide +kernel)
set_option maxRecDepth 20000 in
theorem gJ4_setLength_d00df_J5_setLength_d00df_s333 : GoodIn wsJ4_setLength_d00df (va_wsSU RJ4 333 yJ5_setLength_d00df wsJ5_setLength_d00df) := goodIn_app (goodIn_of _ (by decide +kernel)) ggJ4_setLength_d00df_J5_setLength_d00df
theorem dJ4_setLength_d00df_0 : decode cJ4_setLength_d00df 0 = .ok (.aload_n 0, 1) := by decide +kernel
theorem dJ4_setLength_d00df_1 : decode cJ4_setLength_d00df 1 = .ok (.iload_n 1, 1) := by decide +kernel
theorem dJ4_setLength_d00df_2 : decode cJ4_setLength_d00df 2 = .ok (.invokespecial 333, 3) := by decide +kernel
theorem dJ4_setLength_d00df_5 : decode cJ4_setLength_d00df 5 = .ok (.return_, 1) := by decide +kernel
set_option maxRecDepth 20000 in
theorem ggJ4_length_8abf5_J5_length_8abf5 : GoodIn wsJ4_length_8abf5 wsJ5_length_8abf5 := goodIn_r _ [6, 7, 8, 9, 10, 11] (by decide +kernel) (by decide +kernel)
set_option maxRecDepth 20000 in
theorem gJ4_length_8abf5_J5_length_8abf5_s343 : GoodIn wsJ4_length_8abf5 (va_wsSU RJ4 343 yJ5_length_8abf5 wsJ5_length_8abf5) := goodIn_app (goodIn_of _ (by decide +kernel)) ggJ4_length_8abf5_J5_length_8abf5
theorem dJ4_length_8abf5_0 : decode cJ4_length_8abf5 0 = .ok (.aload_n 0, 1) := by decide +kernel
theorem dJ4_length_8abf5_1 : decode cJ4_length_8abf5 1 = .ok (.invokespecial 343, 3) := by decide +kernel
theorem dJ4_length_8abf5_4 : decode cJ4_length_8abf5 4 = .ok (.ireturn, 1) := by decide +kernel
set_option maxRecDepth 20000 in
theorem ggJ1_charAt_3b067_J0_checkIndex_df160 : GoodIn wsJ1_charAt_3b067 wsJ0_checkIndex_df160 := goodIn_r _ [4, 5, 6, 7, 8, 9] (by decide +kernel) (by decide +kernel)
set_option maxRecDepth 20000 in
theorem gJ1_charAt_3b067_J0_checkIndex_df160 : GoodIn wsJ1_charAt_3b067 (va_wsS RJ1 9 yJ0_checkIndex_df160 wsJ0_checkIndex_df160) := goodIn_app (goodIn_of _ (by decide +kernel)) ggJ1_charAt_3b067_J0_checkIndex_df160
theorem dJ1_charAt_3b067_0 : decode cJ1_charAt_3b067 0 = .ok (.iload_n 1, 1) := by decide +kernel
theorem dJ1_charAt_3b067_1 : decode cJ1_charAt_3b067 1 = .ok (.aload_n 0, 1) := by decide +kernel
theorem dJ1_charAt_3b067_2 : decode cJ1_charAt_3b067 2 = .ok (.arraylength, 1) := by decide +kernel
theorem dJ1_charAt_3b067_3 : decode cJ1_charAt_3b067 3 = .ok (.invokestatic 9, 3) := by decide +kernel
theorem dJ1_charAt_3b067_6 : decode cJ1_charAt_3b067 6 = .ok (.aload_n 0, 1) := by decide +kernel
theorem dJ1_charAt_3b067_7 : decode cJ1_charAt_3b067 7 = .ok (.iload_n 1, 1) := by decide +kernel
theorem dJ1_charAt_3b067_8 : decode cJ1_charAt_3b067 8 = .ok (.baload, 1) := by decide +kernel
theorem dJ1_charAt_3b067_9 : decode cJ1_charAt_3b067 9 = .ok (.sipush 255, 3) := by decide +kernel
theorem dJ1_charAt_3b067_12 : decode cJ1_charAt_3b067 12 = .ok (.iand, 1) := by decide +kernel
theorem dJ1_charAt_3b067_13 : decode cJ1_charAt_3b067 13 = .ok (.i2c, 1) := by decide +kernel
theorem dJ1_charAt_3b067_14 : decode cJ1_charAt_3b067 14 = .ok (.ireturn, 1) := by decide +kernel
theorem dJ1_canEncode_fc78d_0 : decode cJ1_canEncode_fc78d 0 = .ok (.iload_n 0, 1) := by decide +kernel
theorem dJ1_canEncode_fc78d_1 : decode cJ1_canEncode_fc78d 1 = .ok (.sipush 255, 3) := by decide +kernel
theorem dJ1_canEncode_fc78d_4 : decode cJ1_canEncode_fc78d 4 = .ok (.if_icmp .gt 7, 3) := by decide +kernel
theorem dJ1_canEncode_fc78d_7 : decode cJ1_canEncode_fc78d 7 = .ok (.iconst 1, 1) := by decide +kernel
theorem dJ1_canEncode_fc78d_8 : decode cJ1_canEncode_fc78d 8 = .ok (.goto 4, 3) := by decide +kernel
theorem dJ1_canEncode_fc78d_11 : decode cJ1_canEncode_fc78d 11 = .ok (.iconst 0, 1) := by decide +kernel
theorem dJ1_canEncode_fc78d_12 : decode cJ1_canEncode_fc78d 12 = .ok (.ireturn, 1) := by decide +kernel
set_option maxRecDepth 20000 in
theorem ggJ1_fillNull_b72d1_J7_fill_eb02e : GoodIn wsJ1_fillNull_b72d1 wsJ7_fill_eb02e := goodIn_r _ [4, 5, 6, 3, 7] (by decide +kernel) (by decide +kernel)
set_option maxRecDepth 20000 in
theorem gJ1_fillNull_b72d1_J7_fill_eb02e : GoodIn wsJ1_fillNull_b72d1 (va_wsS RJ1 236 yJ7_fill_eb02e wsJ7_fill_eb02e) := goodIn_app (goodIn_of _ (by decide +kernel)) ggJ1_fillNull_b72d1_J7_fill_eb02e
theorem dJ1_fillNull_b72d1_0 : decode cJ1_fillNull_b72d1 0 = .ok (.aload_n 0, 1) := by decide +kernel
theorem dJ1_fillNull_b72d1_1 : decode cJ1_fillNull_b72d1 1 = .ok (.iload_n 1, 1) := by decide +kernel
theorem dJ1_fillNull_b72d1_2 : decode cJ1_fillNull_b72d1 2 = .ok (.iload_n 2, 1) := by decide +kernel
theorem dJ1_fillNull_b72d1_3 : decode cJ1_fillNull_b72d1 3 = .ok (.iconst 0, 1) := by decide +kernel
theorem dJ1_fillNull_b72d1_4 : decode cJ1_fillNull_b72d1 4 = .ok (.invokestatic 236, 3) := by decide +kernel
theorem dJ1_fillNull_b72d1_7 : decode cJ1_fillNull_b72d1 7 = .ok (.return_, 1) := by decide +kernel
set_option maxRecDepth 20000 in
theorem ggJ1_inflate_0e8fd_J2_inflate_0e8fd : GoodIn wsJ1_inflate_0e8fd wsJ2_inflate_0e8fd := goodIn_r _ [4, 5, 6, 3, 7, 8, 9, 10, 11, 12, 13, 14, 15, 16, 17, 18, 19, 20, 21, 22, 23, 24, 25] (by decide +kernel) (by decide +kernel)
set_option maxRecDepth 20000 in
theorem gJ1_inflate_0e8fd_J2_inflate_0e8fd : GoodIn wsJ1_inflate_0e8fd (va_wsS RJ1 240 yJ2_inflate_0e8fd wsJ2_inflate_0e8fd) := goodIn_app (goodIn_of _ (by decide +kernel)) ggJ1_inflate_0e8fd_J2_inflate_0e8fd
theorem dJ1_inflate_0e8fd_0 : decode cJ1_inflate_0e8fd 0 = .ok (.aload_n 0, 1) := by decide +kernel
theorem dJ1_inflate_0e8fd_1 : decode cJ1_inflate_0e8fd 1 = .ok (.iload_n 1, 1) := by decide +kernel
theorem dJ1_inflate_0e8fd_2 : decode cJ1_inflate_0e8fd 2 = .ok (.aload_n 2, 1) := by decide +kernel
theorem dJ1_inflate_0e8fd_3 : decode cJ1_inflate_0e8fd 3 = .ok (.iload_n 3, 1) := by decide +kernel
theorem dJ1_inflate_0e8fd_4 : decode cJ1_inflate_0e8fd 4 = .ok (.iload 4, 2) := by decide +kernel
theorem dJ1_inflate_0e8fd_6 : decode cJ1_inflate_0e8fd 6 = .ok (.invokestatic 240, 3) := by decide +kernel
theorem dJ1_inflate_0e8fd_9 : decode cJ1_inflate_0e8fd 9 = .ok (.return_, 1) := by decide +kernel
set_option maxRecDepth 20000 in
theorem ggJ2_newBytesFor_77867_J2_newBytesLength_0f7a4 : GoodIn wsJ2_newBytesFor_77867 wsJ2_newBytesLength_0f7a4 := goodIn_r _ [5, 6] (by decide +kernel) (by decide +kernel)
set_option maxRecDepth 20000 in
theorem gJ2_newBytesFor_77867_J2_newBytesLength_0f7a4 : GoodIn wsJ2_newBytesFor_77867 (va_wsS RJ2 11 yJ2_newBytesLength_0f7a4 wsJ2_newBytesLength_0f7a4) := goodIn_app (goodIn_of _ (by decide +kernel)) ggJ2_newBytesFor_77867_J2_newBytesLength_0f7a4
theorem dJ2_newBytesFor_77867_0 : decode cJ2_newBytesFor_77867 0 = .ok (.iload_n 0, 1) := by decide +kernel
theorem dJ2_newBytesFor_77867_1 : decode cJ2_newBytesFor_77867 1 = .ok (.invokestatic 11, 3) := by decide +kernel
theorem dJ2_newBytesFor_77867_4 : decode cJ2_newBytesFor_77867 4 = .ok (.newarray .byte, 2) := by decide +kernel
theorem dJ2_newBytesFor_77867_6 : decode cJ2_newBytesFor_77867 6 = .ok (.areturn, 1) := by decide +kernel
theorem dJ2_newBytesLength_0f7a4_0 : decode cJ2_newBytesLength_0f7a4 0 = .ok (.iload_n 0, 1) := by decide +kernel
theorem dJ2_newBytesLength_0f7a4_1 : decode cJ2_newBytesLength_0f7a4 1 = .ok (.ifCond .ge 11, 3) := by decide +kernel
theorem dJ2_newBytesLength_0f7a4_4 : decode cJ2_newBytesLength_0f7a4 4 = .ok (.new 17, 3) := by decide +kernel
theorem dJ2_newBytesLength_0f7a4_7 : decode cJ2_newBytesLength_0f7a4 7 = .ok (.dup, 1) := by decide +kernel
theorem dJ2_newBytesLength_0f7a4_8 : decode cJ2_newBytesLength_0f7a4 8 = .ok (.invokespecial 19, 3) := by decide +kernel
theorem dJ2_newBytesLength_0f7a4_11 : decode cJ2_newBytesLength_0f7a4 11 = .ok (.athrow, 1) := by decide +kernel
theorem dJ2_newBytesLength_0f7a4_12 : decode cJ2_newBytesLength_0f7a4 12 = .ok (.iload_n 0, 1) := by decide +kernel
theorem dJ2_newBytesLength_0f7a4_13 : decode cJ2_newBytesLength_0f7a4 13 = .ok (.ldc 20, 2) := by decide +kernel
theorem dJ2_newBytesLength_0f7a4_15 : decode cJ2_newBytesLength_0f7a4 15 = .ok (.if_icmp .lt 40, 3) := by decide +kernel
theorem dJ2_newBytesLength_0f7a4_18 : decode cJ2_newBytesLength_0f7a4 18 = .ok (.new 21, 3) := by decide +kernel
theorem dJ2_newBytesLength_0f7a4_21 : decode cJ2_newBytesLength_0f7a4 21 = .ok (.dup, 1) := by decide +kernel
theorem dJ2_newBytesLength_0f7a4_22 : decode cJ2_newBytesLength_0f7a4 22 = .ok (.new 23, 3) := by decide +kernel
theorem dJ2_newBytesLength_0f7a4_25 : decode cJ2_newBytesLength_0f7a4 25 = .ok (.dup, 1) := by decide +kernel
theorem dJ2_newBytesLength_0f7a4_26 : decode cJ2_newBytesLength_0f7a4 26 = .ok (.invokespecial 25, 3) := by decide +kernel
theorem dJ2_newBytesLength_0f7a4_29 : decode cJ2_newBytesLength_0f7a4 29 = .ok (.ldc 26, 2) := by decide +kernel
theorem dJ2_newBytesLength_0f7a4_31 : decode cJ2_newBytesLength_0f7a4 31 = .ok (.invokevirtual 28, 3) := by decide +kernel
theorem dJ2_newBytesLength_0f7a4_34 : decode cJ2_newBytesLength_0f7a4 34 = .ok (.iload_n 0, 1) := by decide +kernel
theorem dJ2_newBytesLength_0f7a4_35 : decode cJ2_newBytesLength_0f7a4 35 = .ok (.invokevirtual 32, 3) := by decide +kernel
theorem dJ2_newBytesLength_0f7a4_38 : decode cJ2_newBytesLength_0f7a4 38 = .ok (.ldc 35, 2) := by decide +kernel
theorem dJ2_newBytesLength_0f7a4_40 : decode cJ2_newBytesLength_0f7a4 40 = .ok (.invokevirtual 28, 3) := by decide +kernel
theorem dJ2_newBytesLength_0f7a4_43 : decode cJ2_newBytesLength_0f7a4 43 = .ok (.ldc 20, 2) := by decide +kernel
theorem dJ2_newBytesLength_0f7a4_45 : decode cJ2_newBytesLength_0f7a4 45 = .ok (.invokevirtual 32, 3) := by decide +kernel
theorem dJ2_newBytesLength_0f7a4_48 : decode cJ2_newBytesLength_0f7a4 48 = .ok (.invokevirtual 37, 3) := by decide +kernel
theorem dJ2_newBytesLength_0f7a4_51 : decode cJ2_newBytesLength_0f7a4 51 = .ok (.invokespecial 41, 3) := by decide +kernel
theorem dJ2_newBytesLength_0f7a4_54 : decode cJ2_newBytesLength_0f7a4 54 = .ok (.athrow, 1) := by decide +kernel
theorem dJ2_newBytesLength_0f7a4_55 : decode cJ2_newBytesLength_0f7a4 55 = .ok (.iload_n 0, 1) := by decide +kernel
theorem dJ2_newBytesLength_0f7a4_56 : decode cJ2_newBytesLength_0f7a4 56 = .ok (.iconst 1, 1) := by decide +kernel
theorem dJ2_newBytesLength_0f7a4_57 : decode cJ2_newBytesLength_0f7a4 57 = .ok (.ishl, 1) := by decide +kernel
theorem dJ2_newBytesLength_0f7a4_58 : decode cJ2_newBytesLength_0f7a4 58 = .ok (.ireturn, 1) := by decide +kernel
set_option maxRecDepth 20000 in
theorem ggJ2_putChar_b72d1_J2_length_9d52b : GoodIn wsJ2_putChar_b72d1 wsJ2_length_9d52b := goodIn_r _ [7] (by decide +kernel) (by decide +kernel)
set_option maxRecDepth 20000 in
theorem gJ2_putChar_b72d1_J2_length_9d52b : GoodIn wsJ2_putChar_b72d1 (va_wsS RJ2 48 yJ2_length_9d52b wsJ2_length_9d52b) := goodIn_app (goodIn_of _ (by decide +kernel)) ggJ2_putChar_b72d1_J2_length_9d52b
theorem dJ2_putChar_b72d1_0 : decode cJ2_putChar_b72d1 0 = .ok (.getstatic 44, 3) := by decide +kernel
theorem dJ2_putChar_b72d1_3 : decode cJ2_putChar_b72d1 3 = .ok (.ifCond .ne 25, 3) := by decide +kernel
theorem dJ2_putChar_b72d1_6 : decode cJ2_putChar_b72d1 6 = .ok (.iload_n 1, 1) := by decide +kernel
theorem dJ2_putChar_b72d1_7 : decode cJ2_putChar_b72d1 7 = .ok (.ifCond .lt 11, 3) := by decide +kernel
theorem dJ2_putChar_b72d1_10 : decode cJ2_putChar_b72d1 10 = .ok (.iload_n 1, 1) := by decide +kernel
theorem dJ2_putChar_b72d1_11 : decode cJ2_putChar_b72d1 11 = .ok (.aload_n 0, 1) := by decide +kernel
theorem dJ2_putChar_b72d1_12 : decode cJ2_putChar_b72d1 12 = .ok (.invokestatic 48, 3) := by decide +kernel
theorem dJ2_putChar_b72d1_15 : decode cJ2_putChar_b72d1 15 = .ok (.if_icmp .lt 13, 3) := by decide +kernel
theorem dJ2_putChar_b72d1_18 : decode cJ2_putChar_b72d1 18 = .ok (.new 52, 3) := by decide +kernel
theorem dJ2_putChar_b72d1_21 : decode cJ2_putChar_b72d1 21 = .ok (.dup, 1) := by decide +kernel
theorem dJ2_putChar_b72d1_22 : decode cJ2_putChar_b72d1 22 = .ok (.ldc 54, 2) := by decide +kernel
theorem dJ2_putChar_b72d1_24 : decode cJ2_putChar_b72d1 24 = .ok (.invokespecial 56, 3) := by decide +kernel
theorem dJ2_putChar_b72d1_27 : decode cJ2_putChar_b72d1 27 = .ok (.athrow, 1) := by decide +kernel
theorem dJ2_putChar_b72d1_28 : decode cJ2_putChar_b72d1 28 = .ok (.iload_n 1, 1) := by decide +kernel
theorem dJ2_putChar_b72d1_29 : decode cJ2_putChar_b72d1 29 = .ok (.iconst 1, 1) := by decide +kernel
theorem dJ2_putChar_b72d1_30 : decode cJ2_putChar_b72d1 30 = .ok (.ishl, 1) := by decide +kernel
theorem dJ2_putChar_b72d1_31 : decode cJ2_putChar_b72d1 31 = .ok (.istore_n 1, 1) := by decide +kernel
theorem dJ2_putChar_b72d1_32 : decode cJ2_putChar_b72d1 32 = .ok (.aload_n 0, 1) := by decide +kernel
theorem dJ2_putChar_b72d1_33 : decode cJ2_putChar_b72d1 33 = .ok (.iload_n 1, 1) := by decide +kernel
theorem dJ2_putChar_b72d1_34 : decode cJ2_putChar_b72d1 34 = .ok (.iinc 1 1, 3) := by decide +kernel
theorem dJ2_putChar_b72d1_37 : decode cJ2_putChar_b72d1 37 = .ok (.iload_n 2, 1) := by decide +kernel
theorem dJ2_putChar_b72d1_38 : decode cJ2_putChar_b72d1 38 = .ok (.getstatic 59, 3) := by decide +kernel
theorem dJ2_putChar_b72d1_41 : decode cJ2_putChar_b72d1 41 = .ok (.ishr, 1) := by decide +kernel
theorem dJ2_putChar_b72d1_42 : decode cJ2_putChar_b72d1 42 = .ok (.i2b, 1) := by decide +kernel
theorem dJ2_putChar_b72d1_43 : decode cJ2_putChar_b72d1 43 = .ok (.bastore, 1) := by decide +kernel
theorem dJ2_putChar_b72d1_44 : decode cJ2_putChar_b72d1 44 = .ok (.aload_n 0, 1) := by decide +kernel
theorem dJ2_putChar_b72d1_45 : decode cJ2_putChar_b72d1 45 = .ok (.iload_n 1, 1) := by decide +kernel
theorem dJ2_putChar_b72d1_46 : decode cJ2_putChar_b72d1 46 = .ok (.iload_n 2, 1) := by decide +kernel
theorem dJ2_putChar_b72d1_47 : decode cJ2_putChar_b72d1 47 = .ok (.getstatic 63, 3) := by decide +kernel
theorem dJ2_putChar_b72d1_50 : decode cJ2_putChar_b72d1 50 = .ok (.ishr, 1) := by decide +kernel
theorem dJ2_putChar_b72d1_51 : decode cJ2_putChar_b72d1 51 = .ok (.i2b, 1) := by decide +kernel
theorem dJ2_putChar_b72d1_52 : decode cJ2_putChar_b72d1 52 = .ok (.bastore, 1) := by decide +kernel
theorem dJ2_putChar_b72d1_53 : decode cJ2_putChar_b72d1 53 = .ok (.return_, 1) := by decide +kernel
set_option maxRecDepth 20000 in
theorem ggJ2_getChar_3b067_J2_length_9d52b : GoodIn wsJ2_getChar_3b067 wsJ2_length_9d52b := goodIn_r _ [7] (by decide +kernel) (by decide +kernel)
set_option maxRecDepth 20000 in
theorem gJ2_getChar_3b067_J2_length_9d52b : GoodIn wsJ2_getChar_3b067 (va_wsS RJ2 48 yJ2_length_9d52b wsJ2_length_9d52b) := goodIn_app (goodIn_of _ (by decide +kernel)) ggJ2_getChar_3b067_J2_length_9d52b
theorem dJ2_getChar_3b067_0 : decode cJ2_getChar_3b067 0 = .ok (.getstatic 44, 3) := by decide +kernel
theorem dJ2_getChar_3b067_3 : decode cJ2_getChar_3b067 3 = .ok (.ifCond .ne 25, 3) := by decide +kernel
theorem dJ2_getChar_3b067_6 : decode cJ2_getChar_3b067 6 = .ok (.iload_n 1, 1) := by decide +kernel
theorem dJ2_getChar_3b067_7 : decode cJ2_getChar_3b067 7 = .ok (.ifCond .lt 11, 3) := by decide +kernel
theorem dJ2_getChar_3b067_10 : decode cJ2_getChar_3b067 10 = .ok (.iload_n 1, 1) := by decide +kernel
theorem dJ2_getChar_3b067_11 : decode cJ2_getChar_3b067 11 = .ok (.aload_n 0, 1) := by decide +kernel
theorem dJ2_getChar_3b067_12 : decode cJ2_getChar_3b067 12 = .ok (.invokestatic 48, 3) := by decide +kernel
theorem dJ2_getChar_3b067_15 : decode cJ2_getChar_3b067 15 = .ok (.if_icmp .lt 13, 3) := by decide +kernel
theorem dJ2_getChar_3b067_18 : decode cJ2_getChar_3b067 18 = .ok (.new 52, 3) := by decide +kernel
theorem dJ2_getChar_3b067_21 : decode cJ2_getChar_3b067 21 = .ok (.dup, 1) := by decide +kernel
theorem dJ2_getChar_3b067_22 : decode cJ2_getChar_3b067 22 = .ok (.ldc 54, 2) := by decide +kernel
theorem dJ2_getChar_3b067_24 : decode cJ2_getChar_3b067 24 = .ok (.invokespecial 56, 3) := by decide +kernel
theorem dJ2_getChar_3b067_27 : decode cJ2_getChar_3b067 27 = .ok (.athrow, 1) := by decide +kernel
theorem dJ2_getChar_3b067_28 : decode cJ2_getChar_3b067 28 = .ok (.iload_n 1, 1) := by decide +kernel
theorem dJ2_getChar_3b067_29 : decode cJ2_getChar_3b067 29 = .ok (.iconst 1, 1) := by decide +kernel
theorem dJ2_getChar_3b067_30 : decode cJ2_getChar_3b067 30 = .ok (.ishl, 1) := by decide +kernel
theorem dJ2_getChar_3b067_31 : decode cJ2_getChar_3b067 31 = .ok (.istore_n 1, 1) := by decide +kernel
theorem dJ2_getChar_3b067_32 : decode cJ2_getChar_3b067 32 = .ok (.aload_n 0, 1) := by decide +kernel
theorem dJ2_getChar_3b067_33 : decode cJ2_getChar_3b067 33 = .ok (.iload_n 1, 1) := by decide +kernel
theorem dJ2_getChar_3b067_34 : decode cJ2_getChar_3b067 34 = .ok (.iinc 1 1, 3) := by decide +kernel
theorem dJ2_getChar_3b067_37 : decode cJ2_getChar_3b067 37 = .ok (.baload, 1) := by decide +kernel
theorem dJ2_getChar_3b067_38 : decode cJ2_getChar_3b067 38 = .ok (.sipush 255, 3) := by decide +kernel
theorem dJ2_getChar_3b067_41 : decode cJ2_getChar_3b067 41 = .ok (.iand, 1) := by decide +kernel
theorem dJ2_getChar_3b067_42 : decode cJ2_getChar_3b067 42 = .ok (.getstatic 59, 3) := by decide +kernel
theorem dJ2_getChar_3b067_45 : decode cJ2_getChar_3b067 45 = .ok (.ishl, 1) := by decide +kernel
theorem dJ2_getChar_3b067_46 : decode cJ2_getChar_3b067 46 = .ok (.aload_n 0, 1) := by decide +kernel
theorem dJ2_getChar_3b067_47 : decode cJ2_getChar_3b067 47 = .ok (.iload_n 1, 1) := by decide +kernel
theorem dJ2_getChar_3b067_48 : decode cJ2_getChar_3b067 48 = .ok (.baload, 1) := by decide +kernel
theorem dJ2_getChar_3b067_49 : decode cJ2_getChar_3b067 49 = .ok (.sipush 255, 3) := by decide +kernel
theorem dJ2_getChar_3b067_52 : decode cJ2_getChar_3b067 52 = .ok (.iand, 1) := by decide +kernel
theorem dJ2_getChar_3b067_53 : decode cJ2_getChar_3b067 53 = .ok (.getstatic 63, 3) := by decide +kernel
theorem dJ2_getChar_3b067_56 : decode cJ2_getChar_3b067 56 = .ok (.ishl, 1) := by decide +kernel
theorem dJ2_getChar_3b067_57 : decode cJ2_getChar_3b067 57 = .ok (.ior, 1) := by decide +kernel
theorem dJ2_getChar_3b067_58 : decode cJ2_getChar_3b067 58 = .ok (.i2c, 1) := by decide +kernel
theorem dJ2_getChar_3b067_59 : decode cJ2_getChar_3b067 59 = .ok (.ireturn, 1) := by decide +kernel
theorem dJ2_length_9d52b_0 : decode cJ2_length_9d52b 0 = .ok (.aload_n 0, 1) := by decide +kernel
theorem dJ2_length_9d52b_1 : decode cJ2_length_9d52b 1 = .ok (.arraylength, 1) := by decide +kernel
theorem dJ2_length_9d52b_2 : decode cJ2_length_9d52b 2 = .ok (.iconst 1, 1) := by decide +kernel
theorem dJ2_length_9d52b_3 : decode cJ2_length_9d52b 3 = .ok (.ishr, 1) := by decide +kernel
theorem dJ2_length_9d52b_4 : decode cJ2_length_9d52b 4 = .ok (.ireturn, 1) := by decide +kernel
set_option maxRecDepth 20000 in
theorem ggJ2_fillNull_b72d1_J7_fill_eb02e : GoodIn wsJ2_fillNull_b72d1 wsJ7_fill_eb02e := goodIn_r _ [4, 5, 6, 3, 7] (by decide +kernel) (by decide +kernel)
set_option maxRecDepth 20000 in
theorem gJ2_fillNull_b72d1_J7_fill_eb02e : GoodIn wsJ2_fillNull_b72d1 (va_wsS RJ2 380 yJ7_fill_eb02e wsJ7_fill_eb02e) := goodIn_app (goodIn_of _ (by decide +kernel)) ggJ2_fillNull_b72d1_J7_fill_eb02e
theorem dJ2_fillNull_b72d1_0 : decode cJ2_fillNull_b72d1 0 = .ok (.aload_n 0, 1) := by decide +kernel
theorem dJ2_fillNull_b72d1_1 : decode cJ2_fillNull_b72d1 1 = .ok (.iload_n 1, 1) := by decide +kernel
theorem dJ2_fillNull_b72d1_2 : decode cJ2_fillNull_b72d1 2 = .ok (.iconst 1, 1) := by decide +kernel
theorem dJ2_fillNull_b72d1_3 : decode cJ2_fillNull_b72d1 3 = .ok (.ishl, 1) := by decide +kernel
theorem dJ2_fillNull_b72d1_4 : decode cJ2_fillNull_b72d1 4 = .ok (.iload_n 2, 1) := by decide +kernel
theorem dJ2_fillNull_b72d1_5 : decode cJ2_fillNull_b72d1 5 = .ok (.iconst 1, 1) := by decide +kernel
theorem dJ2_fillNull_b72d1_6 : decode cJ2_fillNull_b72d1 6 = .ok (.ishl, 1) := by decide +kernel
theorem dJ2_fillNull_b72d1_7 : decode cJ2_fillNull_b72d1 7 = .ok (.iconst 0, 1) := by decide +kernel
theorem dJ2_fillNull_b72d1_8 : decode cJ2_fillNull_b72d1 8 = .ok (.invokestatic 380, 3) := by decide +kernel
theorem dJ2_fillNull_b72d1_11 : decode cJ2_fillNull_b72d1 11 = .ok (.return_, 1) := by decide +kernel
set_option maxRecDepth 20000 in
theorem ggJ2_putCharSB_b72d1_J2_checkIndex_2214a : GoodIn wsJ2_putCharSB_b72d1 wsJ2_checkIndex_2214a := goodIn_r _ [4, 5, 6, 3, 7, 8, 9, 10, 11, 12, 13, 14, 15, 16] (by decide +kernel) (by decide +kernel)
set_option maxRecDepth 20000 in
theorem gJ2_putCharSB_b72d1_J2_checkIndex_2214a : GoodIn wsJ2_putCharSB_b72d1 (va_wsS RJ2 67 yJ2_checkIndex_2214a wsJ2_checkIndex_2214a) := goodIn_app (goodIn_of _ (by decide +kernel)) ggJ2_putCharSB_b72d1_J2_checkIndex_2214a
set_option maxRecDepth 20000 in
theorem ggJ2_putCharSB_b72d1_J2_putChar_b72d1 : GoodIn wsJ2_putCharSB_b72d1 wsJ2_putChar_b72d1 := goodIn_r _ [19, 20, 21, 22, 5, 6, 3, 7] (by decide +kernel) (by decide +kernel)
set_option maxRecDepth 20000 in
theorem gJ2_putCharSB_b72d1_J2_putChar_b72d1 : GoodIn wsJ2_putCharSB_b72d1 (va_wsS RJ2 111 yJ2_putChar_b72d1 wsJ2_putChar_b72d1) := goodIn_app (goodIn_of _ (by decide +kernel)) ggJ2_putCharSB_b72d1_J2_putChar_b72d1
theorem dJ2_putCharSB_b72d1_0 : decode cJ2_putCharSB_b72d1 0 = .ok (.iload_n 1, 1) := by decide +kernel
theorem dJ2_putCharSB_b72d1_1 : decode cJ2_putCharSB_b72d1 1 = .ok (.aload_n 0, 1) := by decide +kernel
theorem dJ2_putCharSB_b72d1_2 : decode cJ2_putCharSB_b72d1 2 = .ok (.invokestatic 67, 3) := by decide +kernel
theorem dJ2_putCharSB_b72d1_5 : decode cJ2_putCharSB_b72d1 5 = .ok (.aload_n 0, 1) := by decide +kernel
theorem dJ2_putCharSB_b72d1_6 : decode cJ2_putCharSB_b72d1 6 = .ok (.iload_n 1, 1) := by decide +kernel
theorem dJ2_putCharSB_b72d1_7 : decode cJ2_putCharSB_b72d1 7 = .ok (.iload_n 2, 1) := by decide +kernel
theorem dJ2_putCharSB_b72d1_8 : decode cJ2_putCharSB_b72d1 8 = .ok (.invokestatic 111, 3) := by decide +kernel
theorem dJ2_putCharSB_b72d1_11 : decode cJ2_putCharSB_b72d1 11 = .ok (.return_, 1) := by decide +kernel
set_option maxRecDepth 20000 in
theorem ggJ2_getChars_46870_J2_checkBoundsBeginEnd_d044e : GoodIn wsJ2_getChars_46870 wsJ2_checkBoundsBeginEnd_d044e := goodIn_r _ [5, 6, 7, 4, 8, 9, 10, 11, 12, 13, 14, 15, 16, 17] (by decide +kernel) (by decide +kernel)
set_option maxRecDepth 20000 in
theorem gJ2_getChars_46870_J2_checkBoundsBeginEnd_d044e : GoodIn wsJ2_getChars_46870 (va_wsS RJ2 96 yJ2_checkBoundsBeginEnd_d044e wsJ2_checkBoundsBeginEnd_d044e) := goodIn_app (goodIn_of _ (by decide +kernel)) ggJ2_getChars_46870_J2_checkBoundsBeginEnd_d044e
set_option maxRecDepth 20000 in
theorem ggJ2_getChars_46870_J2_getChars_ba4f3 : GoodIn wsJ2_getChars_46870 wsJ2_getChars_ba4f3 := goodIn_r _ [20, 21, 22, 23, 24, 4, 25, 1, 26, 27, 6, 7, 8] (by decide +kernel) (by decide +kernel)
set_option maxRecDepth 20000 in
theorem gJ2_getChars_46870_J2_getChars_ba4f3 : GoodIn wsJ2_getChars_46870 (va_wsS RJ2 393 yJ2_getChars_ba4f3 wsJ2_getChars_ba4f3) := goodIn_app (goodIn_of _ (by decide +kernel)) ggJ2_getChars_46870_J2_getChars_ba4f3
theorem dJ2_getChars_46870_0 : decode cJ2_getChars_46870 0 = .ok (.iload_n 1, 1) := by decide +kernel
theorem dJ2_getChars_46870_1 : decode cJ2_getChars_46870 1 = .ok (.iload_n 2, 1) := by decide +kernel
theorem dJ2_getChars_46870_2 : decode cJ2_getChars_46870 2 = .ok (.aload_n 3, 1) := by decide +kernel
theorem dJ2_getChars_46870_3 : decode cJ2_getChars_46870 3 = .ok (.invokestatic 96, 3) := by decide +kernel
theorem dJ2_getChars_46870_6 : decode cJ2_getChars_46870 6 = .ok (.iload_n 0, 1) := by decide +kernel
theorem dJ2_getChars_46870_7 : decode cJ2_getChars_46870 7 = .ok (.iload_n 2, 1) := by decide +kernel
theorem dJ2_getChars_46870_8 : decode cJ2_getChars_46870 8 = .ok (.aload_n 3, 1) := by decide +kernel
theorem dJ2_getChars_46870_9 : decode cJ2_getChars_46870 9 = .ok (.invokestatic 393, 3) := by decide +kernel
theorem dJ2_getChars_46870_12 : decode cJ2_getChars_46870 12 = .ok (.istore 4, 2) := by decide +kernel
theorem dJ2_getChars_46870_14 : decode cJ2_getChars_46870 14 = .ok (.getstatic 44, 3) := by decide +kernel
theorem dJ2_getChars_46870_17 : decode cJ2_getChars_46870 17 = .ok (.ifCond .ne 17, 3) := by decide +kernel
theorem dJ2_getChars_46870_20 : decode cJ2_getChars_46870 20 = .ok (.iload_n 1, 1) := by decide +kernel
theorem dJ2_getChars_46870_21 : decode cJ2_getChars_46870 21 = .ok (.iload 4, 2) := by decide +kernel
theorem dJ2_getChars_46870_23 : decode cJ2_getChars_46870 23 = .ok (.if_icmp .eq 11, 3) := by decide +kernel
theorem dJ2_getChars_46870_26 : decode cJ2_getChars_46870 26 = .ok (.new 52, 3) := by decide +kernel
theorem dJ2_getChars_46870_29 : decode cJ2_getChars_46870 29 = .ok (.dup, 1) := by decide +kernel
theorem dJ2_getChars_46870_30 : decode cJ2_getChars_46870 30 = .ok (.invokespecial 66, 3) := by decide +kernel
theorem dJ2_getChars_46870_33 : decode cJ2_getChars_46870 33 = .ok (.athrow, 1) := by decide +kernel
theorem dJ2_getChars_46870_34 : decode cJ2_getChars_46870 34 = .ok (.iload 4, 2) := by decide +kernel
theorem dJ2_getChars_46870_36 : decode cJ2_getChars_46870 36 = .ok (.ireturn, 1) := by decide +kernel
set_option maxRecDepth 20000 in
theorem ggJ2_putCharsAt_cd4e5_J2_checkBoundsBeginEnd_d044e : GoodIn wsJ2_putCharsAt_cd4e5 wsJ2_checkBoundsBeginEnd_d044e := goodIn_r _ [5, 6, 7, 4, 8, 9, 10, 11, 12, 13, 14, 15, 16, 17] (by decide +kernel) (by decide +kernel)
set_option maxRecDepth 20000 in
theorem gJ2_putCharsAt_cd4e5_J2_checkBoundsBeginEnd_d044e : GoodIn wsJ2_putCharsAt_cd4e5 (va_wsS RJ2 96 yJ2_checkBoundsBeginEnd_d044e wsJ2_checkBoundsBeginEnd_d044e) := goodIn_app (goodIn_of _ (by decide +kernel)) ggJ2_putCharsAt_cd4e5_J2_checkBoundsBeginEnd_d044e
set_option maxRecDepth 20000 in
theorem ggJ2_putCharsAt_cd4e5_J2_putChar_b72d1 : GoodIn wsJ2_putCharsAt_cd4e5 wsJ2_putChar_b72d1 := goodIn_r _ [20, 1, 21, 22, 6, 7, 4, 8] (by decide +kernel) (by decide +kernel)
set_option maxRecDepth 20000 in
theorem gJ2_putCharsAt_cd4e5_J2_putChar_b72d1 : GoodIn wsJ2_putCharsAt_cd4e5 (va_wsS RJ2 111 yJ2_putChar_b72d1 wsJ2_putChar_b72d1) := goodIn_app (goodIn_of _ (by decide +kernel)) ggJ2_putCharsAt_cd4e5_J2_putChar_b72d1
theorem dJ2_putCharsAt_cd4e5_0 : decode cJ2_putCharsAt_cd4e5 0 = .ok (.iload_n 1, 1) := by decide +kernel
theorem dJ2_putCharsAt_cd4e5_1 : decode cJ2_putCharsAt_cd4e5 1 = .ok (.iconst 4, 1) := by decide +kernel
theorem dJ2_putCharsAt_cd4e5_2 : decode cJ2_putCharsAt_cd4e5 2 = .ok (.iadd, 1) := by decide +kernel
theorem dJ2_putCharsAt_cd4e5_3 : decode cJ2_putCharsAt_cd4e5 3 = .ok (.istore 6, 2) := by decide +kernel
theorem dJ2_putCharsAt_cd4e5_5 : decode cJ2_putCharsAt_cd4e5 5 = .ok (.iload_n 1, 1) := by decide +kernel
theorem dJ2_putCharsAt_cd4e5_6 : decode cJ2_putCharsAt_cd4e5 6 = .ok (.iload 6, 2) := by decide +kernel
theorem dJ2_putCharsAt_cd4e5_8 : decode cJ2_putCharsAt_cd4e5 8 = .ok (.aload_n 0, 1) := by decide +kernel
theorem dJ2_putCharsAt_cd4e5_9 : decode cJ2_putCharsAt_cd4e5 9 = .ok (.invokestatic 96, 3) := by decide +kernel
theorem dJ2_putCharsAt_cd4e5_12 : decode cJ2_putCharsAt_cd4e5 12 = .ok (.aload_n 0, 1) := by decide +kernel
theorem dJ2_putCharsAt_cd4e5_13 : decode cJ2_putCharsAt_cd4e5 13 = .ok (.iload_n 1, 1) := by decide +kernel
theorem dJ2_putCharsAt_cd4e5_14 : decode cJ2_putCharsAt_cd4e5 14 = .ok (.iinc 1 1, 3) := by decide +kernel
theorem dJ2_putCharsAt_cd4e5_17 : decode cJ2_putCharsAt_cd4e5 17 = .ok (.iload_n 2, 1) := by decide +kernel
theorem dJ2_putCharsAt_cd4e5_18 : decode cJ2_putCharsAt_cd4e5 18 = .ok (.invokestatic 111, 3) := by decide +kernel
theorem dJ2_putCharsAt_cd4e5_21 : decode cJ2_putCharsAt_cd4e5 21 = .ok (.aload_n 0, 1) := by decide +kernel
theorem dJ2_putCharsAt_cd4e5_22 : decode cJ2_putCharsAt_cd4e5 22 = .ok (.iload_n 1, 1) := by decide +kernel
theorem dJ2_putCharsAt_cd4e5_23 : decode cJ2_putCharsAt_cd4e5 23 = .ok (.iinc 1 1, 3) := by decide +kernel
theorem dJ2_putCharsAt_cd4e5_26 : decode cJ2_putCharsAt_cd4e5 26 = .ok (.iload_n 3, 1) := by decide +kernel
theorem dJ2_putCharsAt_cd4e5_27 : decode cJ2_putCharsAt_cd4e5 27 = .ok (.invokestatic 111, 3) := by decide +kernel
theorem dJ2_putCharsAt_cd4e5_30 : decode cJ2_putCharsAt_cd4e5 30 = .ok (.aload_n 0, 1) := by decide +kernel
theorem dJ2_putCharsAt_cd4e5_31 : decode cJ2_putCharsAt_cd4e5 31 = .ok (.iload_n 1, 1) := by decide +kernel
theorem dJ2_putCharsAt_cd4e5_32 : decode cJ2_putCharsAt_cd4e5 32 = .ok (.iinc 1 1, 3) := by decide +kernel
theorem dJ2_putCharsAt_cd4e5_35 : decode cJ2_putCharsAt_cd4e5 35 = .ok (.iload 4, 2) := by decide +kernel
theorem dJ2_putCharsAt_cd4e5_37 : decode cJ2_putCharsAt_cd4e5 37 = .ok (.invokestatic 111, 3) := by decide +kernel
theorem dJ2_putCharsAt_cd4e5_40 : decode cJ2_putCharsAt_cd4e5 40 = .ok (.aload_n 0, 1) := by decide +kernel
theorem dJ2_putCharsAt_cd4e5_41 : decode cJ2_putCharsAt_cd4e5 41 = .ok (.iload_n 1, 1) := by decide +kernel
theorem dJ2_putCharsAt_cd4e5_42 : decode cJ2_putCharsAt_cd4e5 42 = .ok (.iinc 1 1, 3) := by decide +kernel
theorem dJ2_putCharsAt_cd4e5_45 : decode cJ2_putCharsAt_cd4e5 45 = .ok (.iload 5, 2) := by decide +kernel
theorem dJ2_putCharsAt_cd4e5_47 : decode cJ2_putCharsAt_cd4e5 47 = .ok (.invokestatic 111, 3) := by decide +kernel
theorem dJ2_putCharsAt_cd4e5_50 : decode cJ2_putCharsAt_cd4e5 50 = .ok (.getstatic 44, 3) := by decide +kernel
theorem dJ2_putCharsAt_cd4e5_53 : decode cJ2_putCharsAt_cd4e5 53 = .ok (.ifCond .ne 17, 3) := by decide +kernel
theorem dJ2_putCharsAt_cd4e5_56 : decode cJ2_putCharsAt_cd4e5 56 = .ok (.iload_n 1, 1) := by decide +kernel
theorem dJ2_putCharsAt_cd4e5_57 : decode cJ2_putCharsAt_cd4e5 57 = .ok (.iload 6, 2) := by decide +kernel
theorem dJ2_putCharsAt_cd4e5_59 : decode cJ2_putCharsAt_cd4e5 59 = .ok (.if_icmp .eq 11, 3) := by decide +kernel
theorem dJ2_putCharsAt_cd4e5_62 : decode cJ2_putCharsAt_cd4e5 62 = .ok (.new 52, 3) := by decide +kernel
theorem dJ2_putCharsAt_cd4e5_65 : decode cJ2_putCharsAt_cd4e5 65 = .ok (.dup, 1) := by decide +kernel
theorem dJ2_putCharsAt_cd4e5_66 : decode cJ2_putCharsAt_cd4e5 66 = .ok (.invokespecial 66, 3) := by decide +kernel
theorem dJ2_putCharsAt_cd4e5_69 : decode cJ2_putCharsAt_cd4e5 69 = .ok (.athrow, 1) := by decide +kernel
theorem dJ2_putCharsAt_cd4e5_70 : decode cJ2_putCharsAt_cd4e5 70 = .ok (.iload 6, 2) := by decide +kernel
theorem dJ2_putCharsAt_cd4e5_72 : decode cJ2_putCharsAt_cd4e5 72 = .ok (.ireturn, 1) := by decide +kernel
set_option maxRecDepth 20000 in
theorem ggJ2_charAt_3b067_J2_checkIndex_2214a : GoodIn wsJ2_charAt_3b067 wsJ2_checkIndex_2214a := goodIn_r _ [4, 5, 6, 3, 7, 8, 9, 10, 11, 12, 13, 14, 15, 16] (by decide +kernel) (by decide +kernel)
set_option maxRecDepth 20000 in
theorem gJ2_charAt_3b067_J2_checkIndex_2214a : GoodIn wsJ2_charAt_3b067 (va_wsS RJ2 67 yJ2_checkIndex_2214a wsJ2_checkIndex_2214a) := goodIn_app (goodIn_of _ (by decide +kernel)) ggJ2_charAt_3b067_J2_checkIndex_2214a
set_option maxRecDepth 20000 in
theorem ggJ2_charAt_3b067_J2_getChar_3b067 : GoodIn wsJ2_charAt_3b067 wsJ2_getChar_3b067 := goodIn_r _ [19, 20, 21, 22, 5, 6, 3, 7] (by decide +kernel) (by decide +kernel)
set_option maxRecDepth 20000 in
theorem gJ2_charAt_3b067_J2_getChar_3b067 : GoodIn wsJ2_charAt_3b067 (va_wsS RJ2 71 yJ2_getChar_3b067 wsJ2_getChar_3b067) := goodIn_app (goodIn_of _ (by decide +kernel)) ggJ2_charAt_3b067_J2_getChar_3b067
theorem dJ2_charAt_3b067_0 : decode cJ2_charAt_3b067 0 = .ok (.iload_n 1, 1) := by decide +kernel
theorem dJ2_charAt_3b067_1 : decode cJ2_charAt_3b067 1 = .ok (.aload_n 0, 1) := by decide +kernel
theorem dJ2_charAt_3b067_2 : decode cJ2_charAt_3b067 2 = .ok (.invokestatic 67, 3) := by decide +kernel
theorem dJ2_charAt_3b067_5 : decode cJ2_charAt_3b067 5 = .ok (.aload_n 0, 1) := by decide +kernel
theorem dJ2_charAt_3b067_6 : decode cJ2_charAt_3b067 6 = .ok (.iload_n 1, 1) := by decide +kernel
theorem dJ2_charAt_3b067_7 : decode cJ2_charAt_3b067 7 = .ok (.invokestatic 71, 3) := by decide +kernel
theorem dJ2_charAt_3b067_10 : decode cJ2_charAt_3b067 10 = .ok (.ireturn, 1) := by decide +kernel
set_option maxRecDepth 20000 in
theorem ggJ2_inflate_0e8fd_J2_checkBoundsOffCount_d044e : GoodIn wsJ2_inflate_0e8fd wsJ2_checkBoundsOffCount_d044e := goodIn_r _ [4, 5, 6, 3, 7, 8, 9, 10, 11, 12, 13, 14, 15, 16] (by decide +kernel) (by decide +kernel)
set_option maxRecDepth 20000 in
theorem gJ2_inflate_0e8fd_J2_checkBoundsOffCount_d044e : GoodIn wsJ2_inflate_0e8fd (va_wsS RJ2 173 yJ2_checkBoundsOffCount_d044e wsJ2_checkBoundsOffCount_d044e) := goodIn_app (goodIn_of _ (by decide +kernel)) ggJ2_inflate_0e8fd_J2_checkBoundsOffCount_d044e
set_option maxRecDepth 20000 in
theorem ggJ2_inflate_0e8fd_J2_putChar_b72d1 : GoodIn wsJ2_inflate_0e8fd wsJ2_putChar_b72d1 := goodIn_r _ [19, 20, 21, 22, 5, 6, 3, 7] (by decide +kernel) (by decide +kernel)
set_option maxRecDepth 20000 in
theorem gJ2_inflate_0e8fd_J2_putChar_b72d1 : GoodIn wsJ2_inflate_0e8fd (va_wsS RJ2 111 yJ2_putChar_b72d1 wsJ2_putChar_b72d1) := goodIn_app (goodIn_of _ (by decide +kernel)) ggJ2_inflate_0e8fd_J2_putChar_b72d1
theorem dJ2_inflate_0e8fd_0 : decode cJ2_inflate_0e8fd 0 = .ok (.iload_n 3, 1) := by decide +kernel
theorem dJ2_inflate_0e8fd_1 : decode cJ2_inflate_0e8fd 1 = .ok (.iload 4, 2) := by decide +kernel
theorem dJ2_inflate_0e8fd_3 : decode cJ2_inflate_0e8fd 3 = .ok (.aload_n 2, 1) := by decide +kernel
theorem dJ2_inflate_0e8fd_4 : decode cJ2_inflate_0e8fd 4 = .ok (.invokestatic 173, 3) := by decide +kernel
theorem dJ2_inflate_0e8fd_7 : decode cJ2_inflate_0e8fd 7 = .ok (.iconst 0, 1) := by decide +kernel
theorem dJ2_inflate_0e8fd_8 : decode cJ2_inflate_0e8fd 8 = .ok (.istore 5, 2) := by decide +kernel
theorem dJ2_inflate_0e8fd_10 : decode cJ2_inflate_0e8fd 10 = .ok (.iload 5, 2) := by decide +kernel
theorem dJ2_inflate_0e8fd_12 : decode cJ2_inflate_0e8fd 12 = .ok (.iload 4, 2) := by decide +kernel
theorem dJ2_inflate_0e8fd_14 : decode cJ2_inflate_0e8fd 14 = .ok (.if_icmp .ge 27, 3) := by decide +kernel
theorem dJ2_inflate_0e8fd_17 : decode cJ2_inflate_0e8fd 17 = .ok (.aload_n 2, 1) := by decide +kernel
theorem dJ2_inflate_0e8fd_18 : decode cJ2_inflate_0e8fd 18 = .ok (.iload_n 3, 1) := by decide +kernel
theorem dJ2_inflate_0e8fd_19 : decode cJ2_inflate_0e8fd 19 = .ok (.iinc 3 1, 3) := by decide +kernel
theorem dJ2_inflate_0e8fd_22 : decode cJ2_inflate_0e8fd 22 = .ok (.aload_n 0, 1) := by decide +kernel
theorem dJ2_inflate_0e8fd_23 : decode cJ2_inflate_0e8fd 23 = .ok (.iload_n 1, 1) := by decide +kernel
theorem dJ2_inflate_0e8fd_24 : decode cJ2_inflate_0e8fd 24 = .ok (.iinc 1 1, 3) := by decide +kernel
theorem dJ2_inflate_0e8fd_27 : decode cJ2_inflate_0e8fd 27 = .ok (.baload, 1) := by decide +kernel
theorem dJ2_inflate_0e8fd_28 : decode cJ2_inflate_0e8fd 28 = .ok (.sipush 255, 3) := by decide +kernel
theorem dJ2_inflate_0e8fd_31 : decode cJ2_inflate_0e8fd 31 = .ok (.iand, 1) := by decide +kernel
theorem dJ2_inflate_0e8fd_32 : decode cJ2_inflate_0e8fd 32 = .ok (.invokestatic 111, 3) := by decide +kernel
theorem dJ2_inflate_0e8fd_35 : decode cJ2_inflate_0e8fd 35 = .ok (.iinc 5 1, 3) := by decide +kernel
theorem dJ2_inflate_0e8fd_38 : decode cJ2_inflate_0e8fd 38 = .ok (.goto (-28), 3) := by decide +kernel
theorem dJ2_inflate_0e8fd_41 : decode cJ2_inflate_0e8fd 41 = .ok (.return_, 1) := by decide +kernel
set_option maxRecDepth 20000 in
theorem ggJ2_getChars_ba4f3_J2_putChar_b72d1 : GoodIn wsJ2_getChars_ba4f3 wsJ2_putChar_b72d1 := goodIn_r _ [6, 7, 8, 9, 10, 11, 5, 12] (by decide +kernel) (by decide +kernel)
set_option maxRecDepth 20000 in
theorem gJ2_getChars_ba4f3_J2_putChar_b72d1 : GoodIn wsJ2_getChars_ba4f3 (va_wsS RJ2 111 yJ2_putChar_b72d1 wsJ2_putChar_b72d1) := goodIn_app (goodIn_of _ (by decide +kernel)) ggJ2_getChars_ba4f3_J2_putChar_b72d1
theorem dJ2_getChars_ba4f3_0 : decode cJ2_getChars_ba4f3 0 = .ok (.iload_n 1, 1) := by decide +kernel
theorem dJ2_getChars_ba4f3_1 : decode cJ2_getChars_ba4f3 1 = .ok (.istore 5, 2) := by decide +kernel
theorem dJ2_getChars_ba4f3_3 : decode cJ2_getChars_ba4f3 3 = .ok (.iload_n 0, 1) := by decide +kernel
theorem dJ2_getChars_ba4f3_4 : decode cJ2_getChars_ba4f3 4 = .ok (.ifCond .ge 7, 3) := by decide +kernel
theorem dJ2_getChars_ba4f3_7 : decode cJ2_getChars_ba4f3 7 = .ok (.iconst 1, 1) := by decide +kernel
theorem dJ2_getChars_ba4f3_8 : decode cJ2_getChars_ba4f3 8 = .ok (.goto 4, 3) := by decide +kernel
theorem dJ2_getChars_ba4f3_11 : decode cJ2_getChars_ba4f3 11 = .ok (.iconst 0, 1) := by decide +kernel
theorem dJ2_getChars_ba4f3_12 : decode cJ2_getChars_ba4f3 12 = .ok (.istore 6, 2) := by decide +kernel
theorem dJ2_getChars_ba4f3_14 : decode cJ2_getChars_ba4f3 14 = .ok (.iload 6, 2) := by decide +kernel
theorem dJ2_getChars_ba4f3_16 : decode cJ2_getChars_ba4f3 16 = .ok (.ifCond .ne 6, 3) := by decide +kernel
theorem dJ2_getChars_ba4f3_19 : decode cJ2_getChars_ba4f3 19 = .ok (.iload_n 0, 1) := by decide +kernel
theorem dJ2_getChars_ba4f3_20 : decode cJ2_getChars_ba4f3 20 = .ok (.ineg, 1) := by decide +kernel
theorem dJ2_getChars_ba4f3_21 : decode cJ2_getChars_ba4f3 21 = .ok (.istore_n 0, 1) := by decide +kernel
theorem dJ2_getChars_ba4f3_22 : decode cJ2_getChars_ba4f3 22 = .ok (.iload_n 0, 1) := by decide +kernel
theorem dJ2_getChars_ba4f3_23 : decode cJ2_getChars_ba4f3 23 = .ok (.bipush (-100), 2) := by decide +kernel
theorem dJ2_getChars_ba4f3_25 : decode cJ2_getChars_ba4f3 25 = .ok (.if_icmp .gt 51, 3) := by decide +kernel
theorem dJ2_getChars_ba4f3_28 : decode cJ2_getChars_ba4f3 28 = .ok (.iload_n 0, 1) := by decide +kernel
theorem dJ2_getChars_ba4f3_29 : decode cJ2_getChars_ba4f3 29 = .ok (.bipush 100, 2) := by decide +kernel
theorem dJ2_getChars_ba4f3_31 : decode cJ2_getChars_ba4f3 31 = .ok (.idiv, 1) := by decide +kernel
theorem dJ2_getChars_ba4f3_32 : decode cJ2_getChars_ba4f3 32 = .ok (.istore_n 3, 1) := by decide +kernel
theorem dJ2_getChars_ba4f3_33 : decode cJ2_getChars_ba4f3 33 = .ok (.iload_n 3, 1) := by decide +kernel
theorem dJ2_getChars_ba4f3_34 : decode cJ2_getChars_ba4f3 34 = .ok (.bipush 100, 2) := by decide +kernel
theorem dJ2_getChars_ba4f3_36 : decode cJ2_getChars_ba4f3 36 = .ok (.imul, 1) := by decide +kernel
theorem dJ2_getChars_ba4f3_37 : decode cJ2_getChars_ba4f3 37 = .ok (.iload_n 0, 1) := by decide +kernel
theorem dJ2_getChars_ba4f3_38 : decode cJ2_getChars_ba4f3 38 = .ok (.isub, 1) := by decide +kernel
theorem dJ2_getChars_ba4f3_39 : decode cJ2_getChars_ba4f3 39 = .ok (.istore 4, 2) := by decide +kernel
theorem dJ2_getChars_ba4f3_41 : decode cJ2_getChars_ba4f3 41 = .ok (.iload_n 3, 1) := by decide +kernel
theorem dJ2_getChars_ba4f3_42 : decode cJ2_getChars_ba4f3 42 = .ok (.istore_n 0, 1) := by decide +kernel
theorem dJ2_getChars_ba4f3_43 : decode cJ2_getChars_ba4f3 43 = .ok (.aload_n 2, 1) := by decide +kernel
theorem dJ2_getChars_ba4f3_44 : decode cJ2_getChars_ba4f3 44 = .ok (.iinc 5 (-1), 3) := by decide +kernel
theorem dJ2_getChars_ba4f3_47 : decode cJ2_getChars_ba4f3 47 = .ok (.iload 5, 2) := by decide +kernel
theorem dJ2_getChars_ba4f3_49 : decode cJ2_getChars_ba4f3 49 = .ok (.getstatic 403, 3) := by decide +kernel
theorem dJ2_getChars_ba4f3_52 : decode cJ2_getChars_ba4f3 52 = .ok (.iload 4, 2) := by decide +kernel
theorem dJ2_getChars_ba4f3_54 : decode cJ2_getChars_ba4f3 54 = .ok (.baload, 1) := by decide +kernel
theorem dJ2_getChars_ba4f3_55 : decode cJ2_getChars_ba4f3 55 = .ok (.invokestatic 111, 3) := by decide +kernel
theorem dJ2_getChars_ba4f3_58 : decode cJ2_getChars_ba4f3 58 = .ok (.aload_n 2, 1) := by decide +kernel
theorem dJ2_getChars_ba4f3_59 : decode cJ2_getChars_ba4f3 59 = .ok (.iinc 5 (-1), 3) := by decide +kernel
theorem dJ2_getChars_ba4f3_62 : decode cJ2_getChars_ba4f3 62 = .ok (.iload 5, 2) := by decide +kernel
theorem dJ2_getChars_ba4f3_64 : decode cJ2_getChars_ba4f3 64 = .ok (.getstatic 407, 3) := by decide +kernel
theorem dJ2_getChars_ba4f3_67 : decode cJ2_getChars_ba4f3 67 = .ok (.iload 4, 2) := by decide +kernel
theorem dJ2_getChars_ba4f3_69 : decode cJ2_getChars_ba4f3 69 = .ok (.baload, 1) := by decide +kernel
theorem dJ2_getChars_ba4f3_70 : decode cJ2_getChars_ba4f3 70 = .ok (.invokestatic 111, 3) := by decide +kernel
theorem dJ2_getChars_ba4f3_73 : decode cJ2_getChars_ba4f3 73 = .ok (.goto (-51), 3) := by decide +kernel
theorem dJ2_getChars_ba4f3_76 : decode cJ2_getChars_ba4f3 76 = .ok (.aload_n 2, 1) := by decide +kernel
theorem dJ2_getChars_ba4f3_77 : decode cJ2_getChars_ba4f3 77 = .ok (.iinc 5 (-1), 3) := by decide +kernel
theorem dJ2_getChars_ba4f3_80 : decode cJ2_getChars_ba4f3 80 = .ok (.iload 5, 2) := by decide +kernel
theorem dJ2_getChars_ba4f3_82 : decode cJ2_getChars_ba4f3 82 = .ok (.getstatic 403, 3) := by decide +kernel
theorem dJ2_getChars_ba4f3_85 : decode cJ2_getChars_ba4f3 85 = .ok (.iload_n 0, 1) := by decide +kernel
theorem dJ2_getChars_ba4f3_86 : decode cJ2_getChars_ba4f3 86 = .ok (.ineg, 1) := by decide +kernel
theorem dJ2_getChars_ba4f3_87 : decode cJ2_getChars_ba4f3 87 = .ok (.baload, 1) := by decide +kernel
theorem dJ2_getChars_ba4f3_88 : decode cJ2_getChars_ba4f3 88 = .ok (.invokestatic 111, 3) := by decide +kernel
theorem dJ2_getChars_ba4f3_91 : decode cJ2_getChars_ba4f3 91 = .ok (.iload_n 0, 1) := by decide +kernel
theorem dJ2_getChars_ba4f3_92 : decode cJ2_getChars_ba4f3 92 = .ok (.bipush (-9), 2) := by decide +kernel
theorem dJ2_getChars_ba4f3_94 : decode cJ2_getChars_ba4f3 94 = .ok (.if_icmp .ge 18, 3) := by decide +kernel
theorem dJ2_getChars_ba4f3_97 : decode cJ2_getChars_ba4f3 97 = .ok (.aload_n 2, 1) := by decide +kernel
theorem dJ2_getChars_ba4f3_98 : decode cJ2_getChars_ba4f3 98 = .ok (.iinc 5 (-1), 3) := by decide +kernel
theorem dJ2_getChars_ba4f3_101 : decode cJ2_getChars_ba4f3 101 = .ok (.iload 5, 2) := by decide +kernel
theorem dJ2_getChars_ba4f3_103 : decode cJ2_getChars_ba4f3 103 = .ok (.getstatic 407, 3) := by decide +kernel
theorem dJ2_getChars_ba4f3_106 : decode cJ2_getChars_ba4f3 106 = .ok (.iload_n 0, 1) := by decide +kernel
theorem dJ2_getChars_ba4f3_107 : decode cJ2_getChars_ba4f3 107 = .ok (.ineg, 1) := by decide +kernel
theorem dJ2_getChars_ba4f3_108 : decode cJ2_getChars_ba4f3 108 = .ok (.baload, 1) := by decide +kernel
theorem dJ2_getChars_ba4f3_109 : decode cJ2_getChars_ba4f3 109 = .ok (.invokestatic 111, 3) := by decide +kernel
theorem dJ2_getChars_ba4f3_112 : decode cJ2_getChars_ba4f3 112 = .ok (.iload 6, 2) := by decide +kernel
theorem dJ2_getChars_ba4f3_114 : decode cJ2_getChars_ba4f3 114 = .ok (.ifCond .eq 14, 3) := by decide +kernel
theorem dJ2_getChars_ba4f3_117 : decode cJ2_getChars_ba4f3 117 = .ok (.aload_n 2, 1) := by decide +kernel
theorem dJ2_getChars_ba4f3_118 : decode cJ2_getChars_ba4f3 118 = .ok (.iinc 5 (-1), 3) := by decide +kernel
theorem dJ2_getChars_ba4f3_121 : decode cJ2_getChars_ba4f3 121 = .ok (.iload 5, 2) := by decide +kernel
theorem dJ2_getChars_ba4f3_123 : decode cJ2_getChars_ba4f3 123 = .ok (.bipush 45, 2) := by decide +kernel
theorem dJ2_getChars_ba4f3_125 : decode cJ2_getChars_ba4f3 125 = .ok (.invokestatic 111, 3) := by decide +kernel
theorem dJ2_getChars_ba4f3_128 : decode cJ2_getChars_ba4f3 128 = .ok (.iload 5, 2) := by decide +kernel
theorem dJ2_getChars_ba4f3_130 : decode cJ2_getChars_ba4f3 130 = .ok (.ireturn, 1) := by decide +kernel
set_option maxRecDepth 20000 in
theorem ggJ2_checkIndex_2214a_J2_length_9d52b : GoodIn wsJ2_checkIndex_2214a wsJ2_length_9d52b := goodIn_r _ [4] (by decide +kernel) (by decide +kernel)
set_option maxRecDepth 20000 in
theorem gJ2_checkIndex_2214a_J2_length_9d52b : GoodIn wsJ2_checkIndex_2214a (va_wsS RJ2 48 yJ2_length_9d52b wsJ2_length_9d52b) := goodIn_app (goodIn_of _ (by decide +kernel)) ggJ2_checkIndex_2214a_J2_length_9d52b
set_option maxRecDepth 20000 in
theorem ggJ2_checkIndex_2214a_J0_checkIndex_df160 : GoodIn wsJ2_checkIndex_2214a wsJ0_checkIndex_df160 := goodIn_r _ [8, 9, 10, 11, 12, 13] (by decide +kernel) (by decide +kernel)
set_option maxRecDepth 20000 in
theorem gJ2_checkIndex_2214a_J0_checkIndex_df160 : GoodIn wsJ2_checkIndex_2214a (va_wsS RJ2 414 yJ0_checkIndex_df160 wsJ0_checkIndex_df160) := goodIn_app (goodIn_of _ (by decide +kernel)) ggJ2_checkIndex_2214a_J0_checkIndex_df160
theorem dJ2_checkIndex_2214a_0 : decode cJ2_checkIndex_2214a 0 = .ok (.iload_n 0, 1) := by decide +kernel
theorem dJ2_checkIndex_2214a_1 : decode cJ2_checkIndex_2214a 1 = .ok (.aload_n 1, 1) := by decide +kernel
theorem dJ2_checkIndex_2214a_2 : decode cJ2_checkIndex_2214a 2 = .ok (.invokestatic 48, 3) := by decide +kernel
theorem dJ2_checkIndex_2214a_5 : decode cJ2_checkIndex_2214a 5 = .ok (.invokestatic 414, 3) := by decide +kernel
theorem dJ2_checkIndex_2214a_8 : decode cJ2_checkIndex_2214a 8 = .ok (.return_, 1) := by decide +kernel
set_option maxRecDepth 20000 in
theorem ggJ2_checkBoundsBeginEnd_d044e_J2_length_9d52b : GoodIn wsJ2_checkBoundsBeginEnd_d044e wsJ2_length_9d52b := goodIn_r _ [4] (by decide +kernel) (by decide +kernel)
set_option maxRecDepth 20000 in
theorem gJ2_checkBoundsBeginEnd_d044e_J2_length_9d52b : GoodIn wsJ2_checkBoundsBeginEnd_d044e (va_wsS RJ2 48 yJ2_length_9d52b wsJ2_length_9d52b) := goodIn_app (goodIn_of _ (by decide +kernel)) ggJ2_checkBoundsBeginEnd_d044e_J2_length_9d52b
set_option maxRecDepth 20000 in
theorem ggJ2_checkBoundsBeginEnd_d044e_J0_checkBoundsBeginEnd_23922 : GoodIn wsJ2_checkBoundsBeginEnd_d044e wsJ0_checkBoundsBeginEnd_23922 := goodIn_r _ [8, 9, 10, 11, 12, 13] (by decide +kernel) (by decide +kernel)
set_option maxRecDepth 20000 in
theorem gJ2_checkBoundsBeginEnd_d044e_J0_checkBoundsBeginEnd_23922 : GoodIn wsJ2_checkBoundsBeginEnd_d044e (va_wsS RJ2 241 yJ0_checkBoundsBeginEnd_23922 wsJ0_checkBoundsBeginEnd_23922) := goodIn_app (goodIn_of _ (by decide +kernel)) ggJ2_checkBoundsBeginEnd_d044e_J0_checkBoundsBeginEnd_23922
theorem dJ2_checkBoundsBeginEnd_d044e_0 : decode cJ2_checkBoundsBeginEnd_d044e 0 = .ok (.iload_n 0, 1) := by decide +kernel
theorem dJ2_checkBoundsBeginEnd_d044e_1 : decode cJ2_checkBoundsBeginEnd_d044e 1 = .ok (.iload_n 1, 1) := by decide +kernel
theorem dJ2_checkBoundsBeginEnd_d044e_2 : decode cJ2_checkBoundsBeginEnd_d044e 2 = .ok (.aload_n 2, 1) := by decide +kernel
theorem dJ2_checkBoundsBeginEnd_d044e_3 : decode cJ2_checkBoundsBeginEnd_d044e 3 = .ok (.invokestatic 48, 3) := by decide +kernel
theorem dJ2_checkBoundsBeginEnd_d044e_6 : decode cJ2_checkBoundsBeginEnd_d044e 6 = .ok (.invokestatic 241, 3) := by decide +kernel
theorem dJ2_checkBoundsBeginEnd_d044e_9 : decode cJ2_checkBoundsBeginEnd_d044e 9 = .ok (.return_, 1) := by decide +kernel
set_option maxRecDepth 20000 in
theorem ggJ2_checkBoundsOffCount_d044e_J2_length_9d52b : GoodIn wsJ2_checkBoundsOffCount_d044e wsJ2_length_9d52b := goodIn_r _ [4] (by decide +kernel) (by decide +kernel)
set_option maxRecDepth 20000 in
theorem gJ2_checkBoundsOffCount_d044e_J2_length_9d52b : GoodIn wsJ2_checkBoundsOffCount_d044e (va_wsS RJ2 48 yJ2_length_9d52b wsJ2_length_9d52b) := goodIn_app (goodIn_of _ (by decide +kernel)) ggJ2_checkBoundsOffCount_d044e_J2_length_9d52b
set_option maxRecDepth 20000 in
theorem ggJ2_checkBoundsOffCount_d044e_J0_checkBoundsOffCount_cabcc : GoodIn wsJ2_checkBoundsOffCount_d044e wsJ0_checkBoundsOffCount_cabcc := goodIn_r _ [8, 9, 10, 11, 12, 13] (by decide +kernel) (by decide +kernel)
set_option maxRecDepth 20000 in
theorem gJ2_checkBoundsOffCount_d044e_J0_checkBoundsOffCount_cabcc : GoodIn wsJ2_checkBoundsOffCount_d044e (va_wsS RJ2 419 yJ0_checkBoundsOffCount_cabcc wsJ0_checkBoundsOffCount_cabcc) := goodIn_app (goodIn_of _ (by decide +kernel)) ggJ2_checkBoundsOffCount_d044e_J0_checkBoundsOffCount_cabcc
theorem dJ2_checkBoundsOffCount_d044e_0 : decode cJ2_checkBoundsOffCount_d044e 0 = .ok (.iload_n 0, 1) := by decide +kernel
theorem dJ2_checkBoundsOffCount_d044e_1 : decode cJ2_checkBoundsOffCount_d044e 1 = .ok (.iload_n 1, 1) := by decide +kernel
theorem dJ2_checkBoundsOffCount_d044e_2 : decode cJ2_checkBoundsOffCount_d044e 2 = .ok (.aload_n 2, 1) := by decide +kernel
theorem dJ2_checkBoundsOffCount_d044e_3 : decode cJ2_checkBoundsOffCount_d044e 3 = .ok (.invokestatic 48, 3) := by decide +kernel
theorem dJ2_checkBoundsOffCount_d044e_6 : decode cJ2_checkBoundsOffCount_d044e 6 = .ok (.invokestatic 419, 3) := by decide +kernel
theorem dJ2_checkBoundsOffCount_d044e_9 : decode cJ2_checkBoundsOffCount_d044e 9 = .ok (.pop, 1) := by decide +kernel
theorem dJ2_checkBoundsOffCount_d044e_10 : decode cJ2_checkBoundsOffCount_d044e 10 = .ok (.return_, 1) := by decide +kernel
theorem dJ7_rangeCheck_23922_0 : decode cJ7_rangeCheck_23922 0 = .ok (.iload_n 1, 1) := by decide +kernel
theorem dJ7_rangeCheck_23922_1 : decode cJ7_rangeCheck_23922 1 = .ok (.iload_n 2, 1) := by decide +kernel
theorem dJ7_rangeCheck_23922_2 : decode cJ7_rangeCheck_23922 2 = .ok (.if_icmp .le 44, 3) := by decide +kernel
theorem dJ7_rangeCheck_23922_5 : decode cJ7_rangeCheck_23922 5 = .ok (.new 43, 3) := by decide +kernel
theorem dJ7_rangeCheck_23922_8 : decode cJ7_rangeCheck_23922 8 = .ok (.dup, 1) := by decide +kernel
theorem dJ7_rangeCheck_23922_9 : decode cJ7_rangeCheck_23922 9 = .ok (.new 45, 3) := by decide +kernel
theorem dJ7_rangeCheck_23922_12 : decode cJ7_rangeCheck_23922 12 = .ok (.dup, 1) := by decide +kernel
theorem dJ7_rangeCheck_23922_13 : decode cJ7_rangeCheck_23922 13 = .ok (.invokespecial 47, 3) := by decide +kernel
theorem dJ7_rangeCheck_23922_16 : decode cJ7_rangeCheck_23922 16 = .ok (.ldc 48, 2) := by decide +kernel
theorem dJ7_rangeCheck_23922_18 : decode cJ7_rangeCheck_23922 18 = .ok (.invokevirtual 50, 3) := by decide +kernel
theorem dJ7_rangeCheck_23922_21 : decode cJ7_rangeCheck_23922 21 = .ok (.iload_n 1, 1) := by decide +kernel
theorem dJ7_rangeCheck_23922_22 : decode cJ7_rangeCheck_23922 22 = .ok (.invokevirtual 54, 3) := by decide +kernel
theorem dJ7_rangeCheck_23922_25 : decode cJ7_rangeCheck_23922 25 = .ok (.ldc 57, 2) := by decide +kernel
theorem dJ7_rangeCheck_23922_27 : decode cJ7_rangeCheck_23922 27 = .ok (.invokevirtual 50, 3) := by decide +kernel
theorem dJ7_rangeCheck_23922_30 : decode cJ7_rangeCheck_23922 30 = .ok (.iload_n 2, 1) := by decide +kernel
theorem dJ7_rangeCheck_23922_31 : decode cJ7_rangeCheck_23922 31 = .ok (.invokevirtual 54, 3) := by decide +kernel
theorem dJ7_rangeCheck_23922_34 : decode cJ7_rangeCheck_23922 34 = .ok (.ldc 59, 2) := by decide +kernel
theorem dJ7_rangeCheck_23922_36 : decode cJ7_rangeCheck_23922 36 = .ok (.invokevirtual 50, 3) := by decide +kernel
theorem dJ7_rangeCheck_23922_39 : decode cJ7_rangeCheck_23922 39 = .ok (.invokevirtual 61, 3) := by decide +kernel
theorem dJ7_rangeCheck_23922_42 : decode cJ7_rangeCheck_23922 42 = .ok (.invokespecial 65, 3) := by decide +kernel
theorem dJ7_rangeCheck_23922_45 : decode cJ7_rangeCheck_23922 45 = .ok (.athrow, 1) := by decide +kernel
theorem dJ7_rangeCheck_23922_46 : decode cJ7_rangeCheck_23922 46 = .ok (.iload_n 1, 1) := by decide +kernel
theorem dJ7_rangeCheck_23922_47 : decode cJ7_rangeCheck_23922 47 = .ok (.ifCond .ge 12, 3) := by decide +kernel
theorem dJ7_rangeCheck_23922_50 : decode cJ7_rangeCheck_23922 50 = .ok (.new 68, 3) := by decide +kernel
theorem dJ7_rangeCheck_23922_53 : decode cJ7_rangeCheck_23922 53 = .ok (.dup, 1) := by decide +kernel
theorem dJ7_rangeCheck_23922_54 : decode cJ7_rangeCheck_23922 54 = .ok (.iload_n 1, 1) := by decide +kernel
theorem dJ7_rangeCheck_23922_55 : decode cJ7_rangeCheck_23922 55 = .ok (.invokespecial 70, 3) := by decide +kernel
theorem dJ7_rangeCheck_23922_58 : decode cJ7_rangeCheck_23922 58 = .ok (.athrow, 1) := by decide +kernel
theorem dJ7_rangeCheck_23922_59 : decode cJ7_rangeCheck_23922 59 = .ok (.iload_n 2, 1) := by decide +kernel
theorem dJ7_rangeCheck_23922_60 : decode cJ7_rangeCheck_23922 60 = .ok (.iload_n 0, 1) := by decide +kernel
theorem dJ7_rangeCheck_23922_61 : decode cJ7_rangeCheck_23922 61 = .ok (.if_icmp .le 12, 3) := by decide +kernel
theorem dJ7_rangeCheck_23922_64 : decode cJ7_rangeCheck_23922 64 = .ok (.new 68, 3) := by decide +kernel
theorem dJ7_rangeCheck_23922_67 : decode cJ7_rangeCheck_23922 67 = .ok (.dup, 1) := by decide +kernel
theorem dJ7_rangeCheck_23922_68 : decode cJ7_rangeCheck_23922 68 = .ok (.iload_n 2, 1) := by decide +kernel
theorem dJ7_rangeCheck_23922_69 : decode cJ7_rangeCheck_23922 69 = .ok (.invokespecial 70, 3) := by decide +kernel
theorem dJ7_rangeCheck_23922_72 : decode cJ7_rangeCheck_23922 72 = .ok (.athrow, 1) := by decide +kernel
theorem dJ7_rangeCheck_23922_73 : decode cJ7_rangeCheck_23922 73 = .ok (.return_, 1) := by decide +kernel
theorem dJ7_fill_53178_0 : decode cJ7_fill_53178 0 = .ok (.iconst 0, 1) := by decide +kernel
theorem dJ7_fill_53178_1 : decode cJ7_fill_53178 1 = .ok (.istore_n 2, 1) := by decide +kernel
theorem dJ7_fill_53178_2 : decode cJ7_fill_53178 2 = .ok (.aload_n 0, 1) := by decide +kernel
theorem dJ7_fill_53178_3 : decode cJ7_fill_53178 3 = .ok (.arraylength, 1) := by decide +kernel
theorem dJ7_fill_53178_4 : decode cJ7_fill_53178 4 = .ok (.istore_n 3, 1) := by decide +kernel
theorem dJ7_fill_53178_5 : decode cJ7_fill_53178 5 = .ok (.iload_n 2, 1) := by decide +kernel
theorem dJ7_fill_53178_6 : decode cJ7_fill_53178 6 = .ok (.iload_n 3, 1) := by decide +kernel
theorem dJ7_fill_53178_7 : decode cJ7_fill_53178 7 = .ok (.if_icmp .ge 13, 3) := by decide +kernel
theorem dJ7_fill_53178_10 : decode cJ7_fill_53178 10 = .ok (.aload_n 0, 1) := by decide +kernel
theorem dJ7_fill_53178_11 : decode cJ7_fill_53178 11 = .ok (.iload_n 2, 1) := by decide +kernel
theorem dJ7_fill_53178_12 : decode cJ7_fill_53178 12 = .ok (.iload_n 1, 1) := by decide +kernel
theorem dJ7_fill_53178_13 : decode cJ7_fill_53178 13 = .ok (.iastore, 1) := by decide +kernel
theorem dJ7_fill_53178_14 : decode cJ7_fill_53178 14 = .ok (.iinc 2 1, 3) := by decide +kernel
theorem dJ7_fill_53178_17 : decode cJ7_fill_53178 17 = .ok (.goto (-12), 3) := by decide +kernel
theorem dJ7_fill_53178_20 : decode cJ7_fill_53178 20 = .ok (.return_, 1) := by decide +kernel
set_option maxRecDepth 20000 in
theorem ggJ7_fill_eb02e_J7_rangeCheck_23922 : GoodIn wsJ7_fill_eb02e wsJ7_rangeCheck_23922 := goodIn_r _ [4] (by decide +kernel) (by decide +kernel)
set_option maxRecDepth 20000 in
theorem gJ7_fill_eb02e_J7_rangeCheck_23922 : GoodIn wsJ7_fill_eb02e (va_wsS RJ7 13 yJ7_rangeCheck_23922 wsJ7_rangeCheck_23922) := goodIn_app (goodIn_of _ (by decide +kernel)) ggJ7_fill_eb02e_J7_rangeCheck_23922
theorem dJ7_fill_eb02e_0 : decode cJ7_fill_eb02e 0 = .ok (.aload_n 0, 1) := by decide +kernel
theorem dJ7_fill_eb02e_1 : decode cJ7_fill_eb02e 1 = .ok (.arraylength, 1) := by decide +kernel
theorem dJ7_fill_eb02e_2 : decode cJ7_fill_eb02e 2 = .ok (.iload_n 1, 1) := by decide +kernel
theorem dJ7_fill_eb02e_3 : decode cJ7_fill_eb02e 3 = .ok (.iload_n 2, 1) := by decide +kernel
theorem dJ7_fill_eb02e_4 : decode cJ7_fill_eb02e 4 = .ok (.invokestatic 13, 3) := by decide +kernel
theorem dJ7_fill_eb02e_7 : decode cJ7_fill_eb02e 7 = .ok (.iload_n 1, 1) := by decide +kernel
theorem dJ7_fill_eb02e_8 : decode cJ7_fill_eb02e 8 = .ok (.istore 4, 2) := by decide +kernel
theorem dJ7_fill_eb02e_10 : decode cJ7_fill_eb02e 10 = .ok (.iload 4, 2) := by decide +kernel
theorem dJ7_fill_eb02e_12 : decode cJ7_fill_eb02e 12 = .ok (.iload_n 2, 1) := by decide +kernel
theorem dJ7_fill_eb02e_13 : decode cJ7_fill_eb02e 13 = .ok (.if_icmp .ge 14, 3) := by decide +kernel
theorem dJ7_fill_eb02e_16 : decode cJ7_fill_eb02e 16 = .ok (.aload_n 0, 1) := by decide +kernel
theorem dJ7_fill_eb02e_17 : decode cJ7_fill_eb02e 17 = .ok (.iload 4, 2) := by decide +kernel
theorem dJ7_fill_eb02e_19 : decode cJ7_fill_eb02e 19 = .ok (.iload_n 3, 1) := by decide +kernel
theorem dJ7_fill_eb02e_20 : decode cJ7_fill_eb02e 20 = .ok (.bastore, 1) := by decide +kernel
theorem dJ7_fill_eb02e_21 : decode cJ7_fill_eb02e 21 = .ok (.iinc 4 1, 3) := by decide +kernel
theorem dJ7_fill_eb02e_24 : decode cJ7_fill_eb02e 24 = .ok (.goto (-14), 3) := by decide +kernel
theorem dJ7_fill_eb02e_27 : decode cJ7_fill_eb02e 27 = .ok (.return_, 1) := by decide +kernel
theorem dJ7_copyOf_9075b_0 : decode cJ7_copyOf_9075b 0 = .ok (.iload_n 1, 1) := by decide +kernel
theorem dJ7_copyOf_9075b_1 : decode cJ7_copyOf_9075b 1 = .ok (.aload_n 0, 1) := by decide +kernel
theorem dJ7_copyOf_9075b_2 : decode cJ7_copyOf_9075b 2 = .ok (.arraylength, 1) := by decide +kernel
theorem dJ7_copyOf_9075b_3 : decode cJ7_copyOf_9075b 3 = .ok (.if_icmp .ne 11, 3) := by decide +kernel
theorem dJ7_copyOf_9075b_6 : decode cJ7_copyOf_9075b 6 = .ok (.aload_n 0, 1) := by decide +kernel
theorem dJ7_copyOf_9075b_7 : decode cJ7_copyOf_9075b 7 = .ok (.invokevirtual 310, 3) := by decide +kernel
theorem dJ7_copyOf_9075b_10 : decode cJ7_copyOf_9075b 10 = .ok (.checkcast 311, 3) := by decide +kernel
theorem dJ7_copyOf_9075b_13 : decode cJ7_copyOf_9075b 13 = .ok (.areturn, 1) := by decide +kernel
theorem dJ7_copyOf_9075b_14 : decode cJ7_copyOf_9075b 14 = .ok (.iload_n 1, 1) := by decide +kernel
theorem dJ7_copyOf_9075b_15 : decode cJ7_copyOf_9075b 15 = .ok (.newarray .byte, 2) := by decide +kernel
theorem dJ7_copyOf_9075b_17 : decode cJ7_copyOf_9075b 17 = .ok (.astore_n 2, 1) := by decide +kernel
theorem dJ7_copyOf_9075b_18 : decode cJ7_copyOf_9075b 18 = .ok (.aload_n 0, 1) := by decide +kernel
theorem dJ7_copyOf_9075b_19 : decode cJ7_copyOf_9075b 19 = .ok (.iconst 0, 1) := by decide +kernel
theorem dJ7_copyOf_9075b_20 : decode cJ7_copyOf_9075b 20 = .ok (.aload_n 2, 1) := by decide +kernel
theorem dJ7_copyOf_9075b_21 : decode cJ7_copyOf_9075b 21 = .ok (.iconst 0, 1) := by decide +kernel
theorem dJ7_copyOf_9075b_22 : decode cJ7_copyOf_9075b 22 = .ok (.aload_n 0, 1) := by decide +kernel
theorem dJ7_copyOf_9075b_23 : decode cJ7_copyOf_9075b 23 = .ok (.arraylength, 1) := by decide +kernel
theorem dJ7_copyOf_9075b_24 : decode cJ7_copyOf_9075b 24 = .ok (.iload_n 1, 1) := by decide +kernel
theorem dJ7_copyOf_9075b_25 : decode cJ7_copyOf_9075b 25 = .ok (.invokestatic 304, 3) := by decide +kernel
theorem dJ7_copyOf_9075b_28 : decode cJ7_copyOf_9075b 28 = .ok (.invokestatic 150, 3) := by decide +kernel
theorem dJ7_copyOf_9075b_31 : decode cJ7_copyOf_9075b 31 = .ok (.aload_n 2, 1) := by decide +kernel
theorem dJ7_copyOf_9075b_32 : decode cJ7_copyOf_9075b 32 = .ok (.areturn, 1) := by decide +kernel
set_option maxRecDepth 20000 in
theorem ggJ8_newLength_cabcc_J8_hugeLength_7cf53 : GoodIn wsJ8_newLength_cabcc wsJ8_hugeLength_7cf53 := goodIn_r _ [9, 5] (by decide +kernel) (by decide +kernel)
set_option maxRecDepth 20000 in
theorem gJ8_newLength_cabcc_J8_hugeLength_7cf53 : GoodIn wsJ8_newLength_cabcc (va_wsS RJ8 201 yJ8_hugeLength_7cf53 wsJ8_hugeLength_7cf53) := goodIn_app (goodIn_of _ (by decide +kernel)) ggJ8_newLength_cabcc_J8_hugeLength_7cf53
theorem dJ8_newLength_cabcc_0 : decode cJ8_newLength_cabcc 0 = .ok (.iload_n 0, 1) := by decide +kernel
theorem dJ8_newLength_cabcc_1 : decode cJ8_newLength_cabcc 1 = .ok (.iload_n 1, 1) := by decide +kernel
theorem dJ8_newLength_cabcc_2 : decode cJ8_newLength_cabcc 2 = .ok (.iload_n 2, 1) := by decide +kernel
theorem dJ8_newLength_cabcc_3 : decode cJ8_newLength_cabcc 3 = .ok (.invokestatic 194, 3) := by decide +kernel
theorem dJ8_newLength_cabcc_6 : decode cJ8_newLength_cabcc 6 = .ok (.iadd, 1) := by decide +kernel
theorem dJ8_newLength_cabcc_7 : decode cJ8_newLength_cabcc 7 = .ok (.istore_n 3, 1) := by decide +kernel
theorem dJ8_newLength_cabcc_8 : decode cJ8_newLength_cabcc 8 = .ok (.iconst 0, 1) := by decide +kernel
theorem dJ8_newLength_cabcc_9 : decode cJ8_newLength_cabcc 9 = .ok (.iload_n 3, 1) := by decide +kernel
theorem dJ8_newLength_cabcc_10 : decode cJ8_newLength_cabcc 10 = .ok (.if_icmp .ge 11, 3) := by decide +kernel
theorem dJ8_newLength_cabcc_13 : decode cJ8_newLength_cabcc 13 = .ok (.iload_n 3, 1) := by decide +kernel
theorem dJ8_newLength_cabcc_14 : decode cJ8_newLength_cabcc 14 = .ok (.ldc 200, 2) := by decide +kernel
theorem dJ8_newLength_cabcc_16 : decode cJ8_newLength_cabcc 16 = .ok (.if_icmp .gt 5, 3) := by decide +kernel
theorem dJ8_newLength_cabcc_19 : decode cJ8_newLength_cabcc 19 = .ok (.iload_n 3, 1) := by decide +kernel
theorem dJ8_newLength_cabcc_20 : decode cJ8_newLength_cabcc 20 = .ok (.ireturn, 1) := by decide +kernel
theorem dJ8_newLength_cabcc_21 : decode cJ8_newLength_cabcc 21 = .ok (.iload_n 0, 1) := by decide +kernel
theorem dJ8_newLength_cabcc_22 : decode cJ8_newLength_cabcc 22 = .ok (.iload_n 1, 1) := by decide +kernel
theorem dJ8_newLength_cabcc_23 : decode cJ8_newLength_cabcc 23 = .ok (.invokestatic 201, 3) := by decide +kernel
theorem dJ8_newLength_cabcc_26 : decode cJ8_newLength_cabcc 26 = .ok (.ireturn, 1) := by decide +kernel
theorem dJ8_hugeLength_7cf53_0 : decode cJ8_hugeLength_7cf53 0 = .ok (.iload_n 0, 1) := by decide +kernel
theorem dJ8_hugeLength_7cf53_1 : decode cJ8_hugeLength_7cf53 1 = .ok (.iload_n 1, 1) := by decide +kernel
theorem dJ8_hugeLength_7cf53_2 : decode cJ8_hugeLength_7cf53 2 = .ok (.iadd, 1) := by decide +kernel
theorem dJ8_hugeLength_7cf53_3 : decode cJ8_hugeLength_7cf53 3 = .ok (.istore_n 2, 1) := by decide +kernel
theorem dJ8_hugeLength_7cf53_4 : decode cJ8_hugeLength_7cf53 4 = .ok (.iload_n 2, 1) := by decide +kernel
theorem dJ8_hugeLength_7cf53_5 : decode cJ8_hugeLength_7cf53 5 = .ok (.ifCond .ge 44, 3) := by decide +kernel
theorem dJ8_hugeLength_7cf53_8 : decode cJ8_hugeLength_7cf53 8 = .ok (.new 204, 3) := by decide +kernel
theorem dJ8_hugeLength_7cf53_11 : decode cJ8_hugeLength_7cf53 11 = .ok (.dup, 1) := by decide +kernel
theorem dJ8_hugeLength_7cf53_12 : decode cJ8_hugeLength_7cf53 12 = .ok (.new 89, 3) := by decide +kernel
theorem dJ8_hugeLength_7cf53_15 : decode cJ8_hugeLength_7cf53 15 = .ok (.dup, 1) := by decide +kernel
theorem dJ8_hugeLength_7cf53_16 : decode cJ8_hugeLength_7cf53 16 = .ok (.invokespecial 91, 3) := by decide +kernel
theorem dJ8_hugeLength_7cf53_19 : decode cJ8_hugeLength_7cf53 19 = .ok (.ldc 206, 2) := by decide +kernel
theorem dJ8_hugeLength_7cf53_21 : decode cJ8_hugeLength_7cf53 21 = .ok (.invokevirtual 94, 3) := by decide +kernel
theorem dJ8_hugeLength_7cf53_24 : decode cJ8_hugeLength_7cf53 24 = .ok (.iload_n 0, 1) := by decide +kernel
theorem dJ8_hugeLength_7cf53_25 : decode cJ8_hugeLength_7cf53 25 = .ok (.invokevirtual 98, 3) := by decide +kernel
theorem dJ8_hugeLength_7cf53_28 : decode cJ8_hugeLength_7cf53 28 = .ok (.ldc 208, 2) := by decide +kernel
theorem dJ8_hugeLength_7cf53_30 : decode cJ8_hugeLength_7cf53 30 = .ok (.invokevirtual 94, 3) := by decide +kernel
theorem dJ8_hugeLength_7cf53_33 : decode cJ8_hugeLength_7cf53 33 = .ok (.iload_n 1, 1) := by decide +kernel
theorem dJ8_hugeLength_7cf53_34 : decode cJ8_hugeLength_7cf53 34 = .ok (.invokevirtual 98, 3) := by decide +kernel
theorem dJ8_hugeLength_7cf53_37 : decode cJ8_hugeLength_7cf53 37 = .ok (.ldc 210, 2) := by decide +kernel
theorem dJ8_hugeLength_7cf53_39 : decode cJ8_hugeLength_7cf53 39 = .ok (.invokevirtual 94, 3) := by decide +kernel
theorem dJ8_hugeLength_7cf53_42 : decode cJ8_hugeLength_7cf53 42 = .ok (.invokevirtual 101, 3) := by decide +kernel
theorem dJ8_hugeLength_7cf53_45 : decode cJ8_hugeLength_7cf53 45 = .ok (.invokespecial 212, 3) := by decide +kernel
theorem dJ8_hugeLength_7cf53_48 : decode cJ8_hugeLength_7cf53 48 = .ok (.athrow, 1) := by decide +kernel
theorem dJ8_hugeLength_7cf53_49 : decode cJ8_hugeLength_7cf53 49 = .ok (.iload_n 2, 1) := by decide +kernel
theorem dJ8_hugeLength_7cf53_50 : decode cJ8_hugeLength_7cf53 50 = .ok (.ldc 200, 2) := by decide +kernel
theorem dJ8_hugeLength_7cf53_52 : decode cJ8_hugeLength_7cf53 52 = .ok (.if_icmp .gt 6, 3) := by decide +kernel
theorem dJ8_hugeLength_7cf53_55 : decode cJ8_hugeLength_7cf53 55 = .ok (.ldc 200, 2) := by decide +kernel
theorem dJ8_hugeLength_7cf53_57 : decode cJ8_hugeLength_7cf53 57 = .ok (.ireturn, 1) := by decide +kernel
theorem dJ8_hugeLength_7cf53_58 : decode cJ8_hugeLength_7cf53 58 = .ok (.iload_n 2, 1) := by decide +kernel
theorem dJ8_hugeLength_7cf53_59 : decode cJ8_hugeLength_7cf53 59 = .ok (.ireturn, 1) := by decide +kernel
theorem dJ3_checkIndex_8e157_0 : decode cJ3_checkIndex_8e157 0 = .ok (.iload_n 0, 1) := by decide +kernel
theorem dJ3_checkIndex_8e157_1 : decode cJ3_checkIndex_8e157 1 = .ok (.ifCond .lt 8, 3) := by decide +kernel
theorem dJ3_checkIndex_8e157_4 : decode cJ3_checkIndex_8e157 4 = .ok (.iload_n 0, 1) := by decide +kernel
theorem dJ3_checkIndex_8e157_5 : decode cJ3_checkIndex_8e157 5 = .ok (.iload_n 1, 1) := by decide +kernel
theorem dJ3_checkIndex_8e157_6 : decode cJ3_checkIndex_8e157 6 = .ok (.if_icmp .lt 10, 3) := by decide +kernel
theorem dJ3_checkIndex_8e157_9 : decode cJ3_checkIndex_8e157 9 = .ok (.aload_n 2, 1) := by decide +kernel
theorem dJ3_checkIndex_8e157_10 : decode cJ3_checkIndex_8e157 10 = .ok (.iload_n 0, 1) := by decide +kernel
theorem dJ3_checkIndex_8e157_11 : decode cJ3_checkIndex_8e157 11 = .ok (.iload_n 1, 1) := by decide +kernel
theorem dJ3_checkIndex_8e157_12 : decode cJ3_checkIndex_8e157 12 = .ok (.invokestatic 95, 3) := by decide +kernel
theorem dJ3_checkIndex_8e157_15 : decode cJ3_checkIndex_8e157 15 = .ok (.athrow, 1) := by decide +kernel
theorem dJ3_checkIndex_8e157_16 : decode cJ3_checkIndex_8e157 16 = .ok (.iload_n 0, 1) := by decide +kernel
theorem dJ3_checkIndex_8e157_17 : decode cJ3_checkIndex_8e157 17 = .ok (.ireturn, 1) := by decide +kernel
theorem dJ3_checkFromToIndex_8c36e_0 : decode cJ3_checkFromToIndex_8c36e 0 = .ok (.iload_n 0, 1) := by decide +kernel
theorem dJ3_checkFromToIndex_8c36e_1 : decode cJ3_checkFromToIndex_8c36e 1 = .ok (.ifCond .lt 13, 3) := by decide +kernel
theorem dJ3_checkFromToIndex_8c36e_4 : decode cJ3_checkFromToIndex_8c36e 4 = .ok (.iload_n 0, 1) := by decide +kernel
theorem dJ3_checkFromToIndex_8c36e_5 : decode cJ3_checkFromToIndex_8c36e 5 = .ok (.iload_n 1, 1) := by decide +kernel
theorem dJ3_checkFromToIndex_8c36e_6 : decode cJ3_checkFromToIndex_8c36e 6 = .ok (.if_icmp .gt 8, 3) := by decide +kernel
theorem dJ3_checkFromToIndex_8c36e_9 : decode cJ3_checkFromToIndex_8c36e 9 = .ok (.iload_n 1, 1) := by decide +kernel
theorem dJ3_checkFromToIndex_8c36e_10 : decode cJ3_checkFromToIndex_8c36e 10 = .ok (.iload_n 2, 1) := by decide +kernel
theorem dJ3_checkFromToIndex_8c36e_11 : decode cJ3_checkFromToIndex_8c36e 11 = .ok (.if_icmp .le 11, 3) := by decide +kernel
theorem dJ3_checkFromToIndex_8c36e_14 : decode cJ3_checkFromToIndex_8c36e 14 = .ok (.aload_n 3, 1) := by decide +kernel
theorem dJ3_checkFromToIndex_8c36e_15 : decode cJ3_checkFromToIndex_8c36e 15 = .ok (.iload_n 0, 1) := by decide +kernel
theorem dJ3_checkFromToIndex_8c36e_16 : decode cJ3_checkFromToIndex_8c36e 16 = .ok (.iload_n 1, 1) := by decide +kernel
theorem dJ3_checkFromToIndex_8c36e_17 : decode cJ3_checkFromToIndex_8c36e 17 = .ok (.iload_n 2, 1) := by decide +kernel
theorem dJ3_checkFromToIndex_8c36e_18 : decode cJ3_checkFromToIndex_8c36e 18 = .ok (.invokestatic 99, 3) := by decide +kernel
theorem dJ3_checkFromToIndex_8c36e_21 : decode cJ3_checkFromToIndex_8c36e 21 = .ok (.athrow, 1) := by decide +kernel
theorem dJ3_checkFromToIndex_8c36e_22 : decode cJ3_checkFromToIndex_8c36e 22 = .ok (.iload_n 0, 1) := by decide +kernel
theorem dJ3_checkFromToIndex_8c36e_23 : decode cJ3_checkFromToIndex_8c36e 23 = .ok (.ireturn, 1) := by decide +kernel
theorem dJ3_checkFromIndexSize_8c36e_0 : decode cJ3_checkFromIndexSize_8c36e 0 = .ok (.iload_n 2, 1) := by decide +kernel
theorem dJ3_checkFromIndexSize_8c36e_1 : decode cJ3_checkFromIndexSize_8c36e 1 = .ok (.iload_n 0, 1) := by decide +kernel
theorem dJ3_checkFromIndexSize_8c36e_2 : decode cJ3_checkFromIndexSize_8c36e 2 = .ok (.ior, 1) := by decide +kernel
theorem dJ3_checkFromIndexSize_8c36e_3 : decode cJ3_checkFromIndexSize_8c36e 3 = .ok (.iload_n 1, 1) := by decide +kernel
theorem dJ3_checkFromIndexSize_8c36e_4 : decode cJ3_checkFromIndexSize_8c36e 4 = .ok (.ior, 1) := by decide +kernel
theorem dJ3_checkFromIndexSize_8c36e_5 : decode cJ3_checkFromIndexSize_8c36e 5 = .ok (.ifCond .lt 10, 3) := by decide +kernel
theorem dJ3_checkFromIndexSize_8c36e_8 : decode cJ3_checkFromIndexSize_8c36e 8 = .ok (.iload_n 1, 1) := by decide +kernel
theorem dJ3_checkFromIndexSize_8c36e_9 : decode cJ3_checkFromIndexSize_8c36e 9 = .ok (.iload_n 2, 1) := by decide +kernel
theorem dJ3_checkFromIndexSize_8c36e_10 : decode cJ3_checkFromIndexSize_8c36e 10 = .ok (.iload_n 0, 1) := by decide +kernel
theorem dJ3_checkFromIndexSize_8c36e_11 : decode cJ3_checkFromIndexSize_8c36e 11 = .ok (.isub, 1) := by decide +kernel
theorem dJ3_checkFromIndexSize_8c36e_12 : decode cJ3_checkFromIndexSize_8c36e 12 = .ok (.if_icmp .le 11, 3) := by decide +kernel
theorem dJ3_checkFromIndexSize_8c36e_15 : decode cJ3_checkFromIndexSize_8c36e 15 = .ok (.aload_n 3, 1) := by decide +kernel
theorem dJ3_checkFromIndexSize_8c36e_16 : decode cJ3_checkFromIndexSize_8c36e 16 = .ok (.iload_n 0, 1) := by decide +kernel
theorem dJ3_checkFromIndexSize_8c36e_17 : decode cJ3_checkFromIndexSize_8c36e 17 = .ok (.iload_n 1, 1) := by decide +kernel
theorem dJ3_checkFromIndexSize_8c36e_18 : decode cJ3_checkFromIndexSize_8c36e 18 = .ok (.iload_n 2, 1) := by decide +kernel
theorem dJ3_checkFromIndexSize_8c36e_19 : decode cJ3_checkFromIndexSize_8c36e 19 = .ok (.invokestatic 103, 3) := by decide +kernel
theorem dJ3_checkFromIndexSize_8c36e_22 : decode cJ3_checkFromIndexSize_8c36e 22 = .ok (.athrow, 1) := by decide +kernel
theorem dJ3_checkFromIndexSize_8c36e_23 : decode cJ3_checkFromIndexSize_8c36e 23 = .ok (.iload_n 0, 1) := by decide +kernel
theorem dJ3_checkFromIndexSize_8c36e_24 : decode cJ3_checkFromIndexSize_8c36e 24 = .ok (.ireturn, 1) := by decide +kernel
set_option maxRecDepth 20000 in
theorem ggL_law_X5_init : GoodIn wsL_law wsX5_init := goodIn_r _ [8, 9, 10, 11, 12, 13, 14, 15, 16, 17, 18, 19, 20, 21, 22, 23, 24, 25, 26, 27, 28, 29, 30, 31, 32, 33, 34, 35, 36, 37, 38, 39, 40, 41, 42, 43, 44, 45, 46, 47, 48, 49, 50, 51, 52, 53, 54, 55, 56, 57, 58, 59, 60, 61, 62, 63, 64, 65, 66, 67, 68, 69, 70, 71, 72, 73, 74, 75, 76, 77, 787, 788, 789, 761, 762, 763, 764, 765, 766, 767, 768, 769, 790, 791, 792, 793, 794, 795, 796, 797, 798, 799] (by decide +kernel) (by decide +kernel)
set_option maxRecDepth 20000 in
theorem gL_law_X5_init : GoodIn wsL_law (wsX5_init) := ggL_law_X5_init
set_option maxRecDepth 20000 in
theorem ggL_law_X6_init : GoodIn wsL_law wsX6_init := goodIn_r _ [80, 81, 10, 11, 82, 83, 84, 85, 86, 87, 88, 89, 90, 91, 92, 93, 94, 95, 96, 97, 98, 99, 100, 101, 102, 103, 104, 105, 106, 107, 108, 109, 110, 111, 112, 113, 114, 115, 116, 117, 118, 119, 120, 121, 122, 123, 124, 125, 126, 127, 128, 129, 130, 131, 132, 133, 134, 135, 136, 137, 32, 138, 139, 140, 141, 142, 143, 144, 30, 145, 146, 147, 148, 770, 771, 772, 773, 774, 775, 776, 777, 778, 779, 780, 781, 782, 783, 784, 785, 786] (by decide +kernel) (by decide +kernel)
set_option maxRecDepth 20000 in
theorem gL_law_X6_init : GoodIn wsL_law (wsX6_init) := ggL_law_X6_init
set_option maxRecDepth 20000 in
theorem ggL_law_X5_axiom : GoodIn wsL_law wsX5_axiom := goodIn_r _ [152, 153, 15, 154, 155, 2, 156, 157, 158, 159, 14, 160, 45, 43, 161, 162, 163, 164, 44, 761, 762, 763, 764, 765, 766, 767, 768, 769, 787, 788, 789] (by decide +kernel) (by decide +kernel)
set_option maxRecDepth 20000 in
theorem gL_law_X5_axiom : GoodIn wsL_law (wsV RL 13 RX5 yX5_axiom wsX5_axiom) := goodIn_app (goodIn_of _ (by decide +kernel)) ggL_law_X5_axiom
set_option maxRecDepth 20000 in
theorem ggL_law_X6_axiom : GoodIn wsL_law wsX6_axiom := goodIn_r _ [168, 169, 138, 170, 171, 5, 172, 770, 771, 772, 773, 774, 775, 776, 777, 778, 779, 780, 781, 782, 783, 784, 785, 786] (by decide +kernel) (by decide +kernel)
set_option maxRecDepth 20000 in
theorem gL_law_X6_axiom : GoodIn wsL_law (wsV RL 17 RX6 yX6_axiom wsX6_axiom) := goodIn_app (goodIn_of _ (by decide +kernel)) ggL_law_X6_axiom
set_option maxRecDepth 20000 in
theorem ggL_law_X5_triple : GoodIn wsL_law wsX5_triple := goodIn_r _ [176, 16, 154, 155, 2, 156, 177, 178, 179, 14, 180, 45, 181, 182, 183, 184, 185, 186, 187, 188, 43, 189, 190, 191, 192, 44, 157, 158, 159, 160, 161, 162, 163, 164, 761, 762, 763, 764, 765, 766, 767, 768, 769, 787, 788, 789] (by decide +kernel) (by decide +kernel)
set_option maxRecDepth 20000 in
theorem gL_law_X5_triple : GoodIn wsL_law (wsV RL 18 RX5 yX5_triple wsX5_triple) := goodIn_app (goodIn_of _ (by decide +kernel)) ggL_law_X5_triple
set_option maxRecDepth 20000 in
theorem ggL_law_X6_triple : GoodIn wsL_law wsX6_triple := goodIn_r _ [196, 197, 139, 170, 171, 5, 172, 770, 771, 772, 773, 774, 775, 776, 777, 778, 779, 780, 781, 782, 783, 784, 785, 786] (by decide +kernel) (by decide +kernel)
set_option maxRecDepth 20000 in
theorem gL_law_X6_triple : GoodIn wsL_law (wsV RL 21 RX6 yX6_triple wsX6_triple) := goodIn_app (goodIn_of _ (by decide +kernel)) ggL_law_X6_triple
set_option maxRecDepth 20000 in
theorem ggL_law_X5_row : GoodIn wsL_law wsX5_row := goodIn_r _ [201, 20, 202, 203, 2, 204, 205, 206, 207, 208, 209, 210, 15, 211, 212, 16, 213, 214, 215, 216, 14, 217, 185, 186, 187, 188, 43, 154, 155, 156, 218, 219, 220, 19, 221, 53, 222, 223, 224, 225, 226, 227, 228, 229, 230, 231, 232, 233, 234, 235, 236, 237, 238, 239, 240, 241, 242, 243, 49, 50, 51, 244, 245, 246, 247, 52, 248, 249, 250, 251, 252, 253, 254, 255, 256, 21, 257, 258, 259, 260, 161, 162, 163, 164, 44, 261, 262, 263, 264, 265, 266, 267, 268, 269, 270, 271, 272, 25, 273, 274, 275, 276, 24, 277, 57, 278, 279, 280, 281, 282, 283, 284, 285, 286, 287, 288, 289, 290, 291, 292, 293, 294, 295, 296, 297, 298, 299, 300, 301, 302, 303, 304, 305, 306, 307, 308, 309, 310, 311, 312, 313, 314, 315, 316, 72, 317, 318, 319, 320, 321, 322, 323, 324, 325, 326, 327, 328, 329, 330, 331, 332, 333, 334, 190, 191, 192, 335, 336, 337, 338, 339, 340, 341, 342, 343, 344, 345, 346, 347, 348, 349, 350, 351, 352, 353, 354, 189, 355, 356, 761, 762, 763, 764, 765, 766, 767, 768, 769, 787, 788, 789, 790, 791, 792, 793, 794, 795] (by decide +kernel) (by decide +kernel)
set_option maxRecDepth 20000 in
theorem gL_law_X5_row : GoodIn wsL_law (wsV RL 22 RX5 yX5_row wsX5_row) := goodIn_app (goodIn_of _ (by decide +kernel)) ggL_law_X5_row
set_option maxRecDepth 20000 in
theorem ggL_law_X6_row : GoodIn wsL_law wsX6_row := goodIn_r _ [360, 361, 140, 141, 142, 362, 363, 364, 5, 365, 169, 197, 170, 171, 172, 366, 367, 368, 369, 370, 371, 372, 373, 374, 375, 376, 143, 770, 771, 772, 773, 774, 775, 776, 777, 778, 779, 780, 781, 782, 783, 784, 785, 786] (by decide +kernel) (by decide +kernel)
set_option maxRecDepth 20000 in
theorem gL_law_X6_row : GoodIn wsL_law (wsV RL 25 RX6 yX6_row wsX6_row) := goodIn_app (goodIn_of _ (by decide +kernel)) ggL_law_X6_row
set_option maxRecDepth 20000 in
theorem ggL_law_X5_premise : GoodIn wsL_law wsX5_premise := goodIn_r _ [380, 20, 261, 262, 263, 2, 264, 218, 219, 220, 19, 221, 53, 265, 266, 267, 268, 49, 252, 202, 203, 204, 205, 273, 249, 250, 251, 51, 222, 223, 224, 225, 226, 227, 228, 229, 230, 231, 232, 233, 234, 235, 236, 237, 238, 239, 244, 245, 246, 247, 52, 248, 381, 382, 383, 384, 253, 254, 255, 256, 21, 257, 258, 259, 14, 260, 161, 162, 163, 164, 43, 44, 269, 270, 271, 272, 25, 274, 275, 276, 24, 277, 57, 278, 279, 280, 281, 282, 283, 284, 285, 286, 287, 288, 289, 290, 186, 187, 188, 291, 292, 293, 294, 295, 296, 297, 298, 299, 300, 301, 302, 303, 304, 305, 306, 307, 308, 309, 310, 311, 312, 313, 314, 315, 316, 72, 317, 318, 319, 320, 321, 322, 323, 324, 325, 326, 327, 328, 329, 330, 331, 332, 333, 334, 190, 191, 192, 335, 336, 337, 338, 339, 340, 341, 342, 343, 344, 345, 346, 210, 15, 211, 212, 16, 213, 347, 348, 349, 350, 50, 351, 352, 353, 354, 185, 189, 355, 356, 761, 762, 763, 764, 765, 766, 767, 768, 769, 790, 791, 792, 793, 794, 787, 788, 789, 795] (by decide +kernel) (by decide +kernel)
set_option maxRecDepth 20000 in
theorem gL_law_X5_premise : GoodIn wsL_law (wsV RL 26 RX5 yX5_premise wsX5_premise) := goodIn_app (goodIn_of _ (by decide +kernel)) ggL_law_X5_premise
set_option maxRecDepth 20000 in
theorem ggL_law_X6_premise : GoodIn wsL_law wsX6_premise := goodIn_r _ [388, 142, 140, 366, 367, 368, 5, 369, 361, 370, 371, 372, 373, 374, 375, 376, 143, 770, 771, 772, 773, 774, 775, 776, 777, 778, 779, 780, 781, 782, 783, 784, 785, 786] (by decide +kernel) (by decide +kernel)
set_option maxRecDepth 20000 in
theorem gL_law_X6_premise : GoodIn wsL_law (wsV RL 30 RX6 yX6_premise wsX6_premise) := goodIn_app (goodIn_of _ (by decide +kernel)) ggL_law_X6_premise
set_option maxRecDepth 20000 in
theorem ggL_law_X5_check : GoodIn wsL_law wsX5_check := goodIn_r _ [392, 20, 34, 21, 218, 219, 220, 19, 221, 53, 393, 394, 395, 2, 396, 31, 273, 249, 250, 251, 51, 252, 282, 283, 284, 285, 52, 248, 397, 398, 399, 400, 214, 215, 216, 14, 217, 185, 186, 187, 188, 43, 761, 762, 763, 764, 765, 766, 767, 768, 769, 790, 791, 792, 793, 794, 787, 788, 789] (by decide +kernel) (by decide +kernel)
set_option maxRecDepth 20000 in
theorem gL_law_X5_check : GoodIn wsL_law (wsV RL 31 RX5 yX5_check wsX5_check) := goodIn_app (goodIn_of _ (by decide +kernel)) ggL_law_X5_check
set_option maxRecDepth 20000 in
theorem ggL_law_X6_check : GoodIn wsL_law wsX6_check := goodIn_r _ [404, 405, 145, 142, 366, 367, 368, 5, 369, 361, 406, 407, 408, 409, 143, 410, 411, 412, 413, 140, 414, 415, 416, 417, 144, 370, 371, 372, 418, 419, 420, 421, 422, 423, 424, 425, 141, 138, 139, 426, 427, 428, 429, 430, 431, 432, 433, 434, 435, 436, 437, 438, 439, 440, 441, 442, 443, 444, 445, 770, 771, 772, 773, 774, 775, 776, 777, 778, 779, 780, 781, 782, 783, 784, 785, 786] (by decide +kernel) (by decide +kernel)
set_option maxRecDepth 20000 in
theorem gL_law_X6_check : GoodIn wsL_law (wsV RL 35 RX6 yX6_check wsX6_check) := goodIn_app (goodIn_of _ (by decide +kernel)) ggL_law_X6_check
set_option maxRecDepth 20000 in
theorem ggL_law_X5_broken : GoodIn wsL_law wsX5_broken := goodIn_r _ [449, 34, 761, 762, 763, 764, 765, 766, 767, 768, 769] (by decide +kernel) (by decide +kernel)
set_option maxRecDepth 20000 in
theorem gL_law_X5_broken : GoodIn wsL_law (wsV RL 36 RX5 yX5_broken wsX5_broken) := goodIn_app (goodIn_of _ (by decide +kernel)) ggL_law_X5_broken
set_option maxRecDepth 20000 in
theorem ggL_law_X6_broken : GoodIn wsL_law wsX6_broken := goodIn_r _ [453, 405, 770, 771, 772, 773, 774, 775, 776, 777, 778, 779, 780, 781, 782, 783, 784, 785, 786] (by decide +kernel) (by decide +kernel)
set_option maxRecDepth 20000 in
theorem gL_law_X6_broken : GoodIn wsL_law (wsV RL 40 RX6 yX6_broken wsX6_broken) := goodIn_app (goodIn_of _ (by decide +kernel)) ggL_law_X6_broken
set_option maxRecDepth 20000 in
theorem ggL_law_X5_rows : GoodIn wsL_law wsX5_rows := goodIn_r _ [457, 20, 31, 218, 219, 220, 19, 221, 53, 393, 394, 395, 2, 396, 273, 249, 250, 251, 51, 252, 282, 283, 284, 285, 52, 248, 761, 762, 763, 764, 765, 766, 767, 768, 769, 790, 791, 792, 793, 794] (by decide +kernel) (by decide +kernel)
set_option maxRecDepth 20000 in
theorem gL_law_X5_rows : GoodIn wsL_law (wsV RL 41 RX5 yX5_rows wsX5_rows) := goodIn_app (goodIn_of _ (by decide +kernel)) ggL_law_X5_rows
set_option maxRecDepth 20000 in
theorem ggL_law_X6_rows : GoodIn wsL_law wsX6_rows := goodIn_r _ [461, 366, 367, 368, 5, 369, 361, 406, 407, 408, 409, 145, 142, 143, 770, 771, 772, 773, 774, 775, 776, 777, 778, 779, 780, 781, 782, 783, 784, 785, 786] (by decide +kernel) (by decide +kernel)
set_option maxRecDepth 20000 in
theorem gL_law_X6_rows : GoodIn wsL_law (wsV RL 44 RX6 yX6_rows wsX6_rows) := goodIn_app (goodIn_of _ (by decide +kernel)) ggL_law_X6_rows
set_option maxRecDepth 20000 in
theorem ggL_law_X5_size : GoodIn wsL_law wsX5_size := goodIn_r _ [465, 20, 33, 218, 219, 220, 19, 221, 53, 466, 467, 468, 2, 469, 470, 471, 472, 41, 473, 273, 249, 250, 251, 51, 252, 282, 283, 284, 285, 52, 248, 761, 762, 763, 764, 765, 766, 767, 768, 769, 790, 791, 792, 793, 794] (by decide +kernel) (by decide +kernel)
set_option maxRecDepth 20000 in
theorem gL_law_X5_size : GoodIn wsL_law (wsV RL 45 RX5 yX5_size wsX5_size) := goodIn_app (goodIn_of _ (by decide +kernel)) ggL_law_X5_size
set_option maxRecDepth 20000 in
theorem ggL_law_X6_size : GoodIn wsL_law wsX6_size := goodIn_r _ [477, 142, 147, 143, 478, 479, 366, 367, 368, 5, 369, 361, 770, 771, 772, 773, 774, 775, 776, 777, 778, 779, 780, 781, 782, 783, 784, 785, 786] (by decide +kernel) (by decide +kernel)
set_option maxRecDepth 20000 in
theorem gL_law_X6_size : GoodIn wsL_law (wsV RL 48 RX6 yX6_size wsX6_size) := goodIn_app (goodIn_of _ (by decide +kernel)) ggL_law_X6_size
set_option maxRecDepth 20000 in
theorem ggL_law_X5_drop : GoodIn wsL_law wsX5_drop := goodIn_r _ [483, 20, 31, 33, 21, 34, 218, 219, 220, 19, 221, 53, 393, 394, 395, 2, 396, 273, 249, 250, 251, 51, 252, 282, 283, 284, 285, 52, 248, 484, 485, 486, 487, 49, 50, 351, 352, 353, 14, 354, 185, 186, 187, 188, 43, 189, 190, 191, 192, 44, 161, 162, 163, 164, 488, 489, 490, 491, 492, 493, 41, 494, 495, 40, 42, 761, 762, 763, 764, 765, 766, 767, 768, 769, 790, 791, 792, 793, 794, 787, 788, 789] (by decide +kernel) (by decide +kernel)
set_option maxRecDepth 20000 in
theorem gL_law_X5_drop : GoodIn wsL_law (wsV RL 49 RX5 yX5_drop wsX5_drop) := goodIn_app (goodIn_of _ (by decide +kernel)) ggL_law_X5_drop
set_option maxRecDepth 20000 in
theorem ggL_law_X6_drop : GoodIn wsL_law wsX6_drop := goodIn_r _ [499, 361, 145, 148, 140, 141, 142, 143, 405, 366, 367, 368, 5, 369, 406, 407, 408, 409, 770, 771, 772, 773, 774, 775, 776, 777, 778, 779, 780, 781, 782, 783, 784, 785, 786] (by decide +kernel) (by decide +kernel)
set_option maxRecDepth 20000 in
theorem gL_law_X6_drop : GoodIn wsL_law (wsV RL 52 RX6 yX6_drop wsX6_drop) := goodIn_app (goodIn_of _ (by decide +kernel)) ggL_law_X6_drop
set_option maxRecDepth 20000 in
theorem ggL_law_X5_name : GoodIn wsL_law wsX5_name := goodIn_r _ [503, 20, 218, 219, 220, 19, 221, 53, 265, 266, 267, 268, 49, 252, 761, 762, 763, 764, 765, 766, 767, 768, 769, 790, 791, 792, 793, 794] (by decide +kernel) (by decide +kernel)
set_option maxRecDepth 20000 in
theorem gL_law_X5_name : GoodIn wsL_law (wsV RL 53 RX5 yX5_name wsX5_name) := goodIn_app (goodIn_of _ (by decide +kernel)) ggL_law_X5_name
set_option maxRecDepth 20000 in
theorem ggL_law_X6_name : GoodIn wsL_law wsX6_name := goodIn_r _ [507, 140, 366, 367, 368, 5, 369, 361, 770, 771, 772, 773, 774, 775, 776, 777, 778, 779, 780, 781, 782, 783, 784, 785, 786] (by decide +kernel) (by decide +kernel)
set_option maxRecDepth 20000 in
theorem gL_law_X6_name : GoodIn wsL_law (wsV RL 56 RX6 yX6_name wsX6_name) := goodIn_app (goodIn_of _ (by decide +kernel)) ggL_law_X6_name
set_option maxRecDepth 20000 in
theorem ggL_law_X5_states : GoodIn wsL_law wsX5_states := goodIn_r _ [511, 20, 21, 218, 219, 220, 19, 221, 53, 290, 186, 187, 14, 188, 43, 334, 190, 191, 192, 44, 761, 762, 763, 764, 765, 766, 767, 768, 769, 790, 791, 792, 793, 794, 787, 788, 789] (by decide +kernel) (by decide +kernel)
set_option maxRecDepth 20000 in
theorem gL_law_X5_states : GoodIn wsL_law (wsV RL 57 RX5 yX5_states wsX5_states) := goodIn_app (goodIn_of _ (by decide +kernel)) ggL_law_X5_states
set_option maxRecDepth 20000 in
theorem ggL_law_X6_states : GoodIn wsL_law wsX6_states := goodIn_r _ [515, 144, 366, 367, 368, 5, 369, 361, 410, 411, 412, 413, 142, 140, 414, 415, 416, 417, 370, 371, 372, 418, 419, 420, 421, 143, 422, 423, 424, 425, 141, 138, 139, 426, 427, 428, 429, 430, 431, 432, 433, 434, 435, 436, 437, 438, 439, 440, 441, 770, 771, 772, 773, 774, 775, 776, 777, 778, 779, 780, 781, 782, 783, 784, 785, 786] (by decide +kernel) (by decide +kernel)
set_option maxRecDepth 20000 in
theorem gL_law_X6_states : GoodIn wsL_law (wsV RL 60 RX6 yX6_states wsX6_states) := goodIn_app (goodIn_of _ (by decide +kernel)) ggL_law_X6_states
set_option maxRecDepth 20000 in
theorem ggL_law_X5_sentence : GoodIn wsL_law wsX5_sentence := goodIn_r _ [519, 29, 261, 262, 263, 2, 264, 20, 218, 219, 220, 19, 221, 53, 265, 266, 267, 268, 49, 252, 202, 203, 204, 205, 520, 521, 522, 28, 523, 524, 525, 526, 527, 63, 528, 529, 68, 530, 531, 532, 533, 534, 535, 69, 536, 537, 538, 539, 540, 541, 542, 543, 544, 545, 546, 40, 41, 42, 547, 548, 549, 550, 551, 552, 280, 553, 554, 555, 556, 557, 558, 559, 67, 560, 493, 494, 561, 562, 563, 564, 565, 566, 567, 568, 569, 66, 570, 571, 305, 572, 573, 574, 575, 576, 577, 578, 579, 580, 72, 581, 582, 583, 584, 585, 586, 587, 588, 589, 590, 591, 592, 593, 594, 595, 596, 597, 598, 599, 600, 601, 602, 328, 603, 604, 605, 321, 322, 323, 606, 607, 231, 608, 310, 609, 610, 313, 611, 612, 613, 614, 615, 616, 617, 618, 619, 329, 330, 620, 621, 622, 623, 624, 625, 626, 627, 628, 629, 630, 631, 632, 633, 634, 635, 636, 229, 230, 232, 233, 234, 235, 236, 237, 238, 239, 637, 638, 639, 640, 641, 642, 643, 644, 645, 646, 647, 648, 649, 650, 651, 652, 70, 71, 73, 74, 75, 76, 77, 653, 654, 655, 656, 657, 658, 659, 660, 661, 662, 663, 664, 665, 666, 667, 668, 669, 670, 671, 672, 673, 674, 675, 676, 677, 21, 678, 679, 680, 681, 153, 682, 290, 186, 187, 14, 188, 43, 334, 190, 191, 192, 44, 294, 295, 296, 297, 298, 299, 300, 301, 302, 303, 304, 306, 307, 308, 309, 311, 312, 314, 315, 316, 317, 318, 319, 320, 324, 325, 326, 327, 683, 684, 685, 686, 687, 688, 689, 690, 691, 692, 693, 694, 695, 696, 697, 698, 699, 700, 273, 249, 250, 251, 51, 282, 283, 284, 285, 52, 248, 701, 702, 703, 704, 705, 706, 707, 708, 761, 762, 763, 764, 765, 766, 767, 768, 769, 790, 791, 792, 793, 794, 796, 797, 798, 799, 787, 788, 789] (by decide +kernel) (by decide +kernel)
set_option maxRecDepth 20000 in
theorem gL_law_X5_sentence : GoodIn wsL_law (wsV RL 61 RX5 yX5_sentence wsX5_sentence) := goodIn_app (goodIn_of _ (by decide +kernel)) ggL_law_X5_sentence
set_option maxRecDepth 20000 in
theorem ggL_law_X6_sentence : GoodIn wsL_law wsX6_sentence := goodIn_r _ [712, 713, 144, 140, 142, 143, 366, 367, 368, 5, 369, 361, 410, 411, 412, 413, 414, 415, 416, 417, 370, 371, 372, 418, 419, 420, 421, 422, 423, 424, 425, 141, 138, 139, 426, 427, 428, 429, 430, 431, 432, 433, 434, 435, 436, 437, 438, 439, 440, 441, 714, 715, 716, 717, 146, 718, 719, 720, 721, 137, 722, 723, 724, 725, 726, 727, 728, 729, 770, 771, 772, 773, 774, 775, 776, 777, 778, 779, 780, 781, 782, 783, 784, 785, 786] (by decide +kernel) (by decide +kernel)
set_option maxRecDepth 20000 in
theorem gL_law_X6_sentence : GoodIn wsL_law (wsV RL 64 RX6 yX6_sentence wsX6_sentence) := goodIn_app (goodIn_of _ (by decide +kernel)) ggL_law_X6_sentence
set_option maxRecDepth 20000 in
theorem ggL_law_X5_at : GoodIn wsL_law wsX5_at := goodIn_r _ [733, 29, 701, 702, 703, 28, 704, 705, 706, 526, 707, 63, 708, 529, 734, 735, 736, 737, 738, 739, 740, 741, 69, 68, 742, 493, 41, 494, 743, 308, 231, 309, 310, 311, 312, 313, 314, 744, 326, 72, 327, 328, 329, 330, 321, 322, 323, 761, 762, 763, 764, 765, 766, 767, 768, 769, 796, 797, 798, 799] (by decide +kernel) (by decide +kernel)
set_option maxRecDepth 20000 in
theorem gL_law_X5_at : GoodIn wsL_law (wsV RL 65 RX5 yX5_at wsX5_at) := goodIn_app (goodIn_of _ (by decide +kernel)) ggL_law_X5_at
set_option maxRecDepth 20000 in
theorem ggL_law_X6_at : GoodIn wsL_law wsX6_at := goodIn_r _ [748, 713, 146, 770, 771, 772, 773, 774, 775, 776, 777, 778, 779, 780, 781, 782, 783, 784, 785, 786] (by decide +kernel) (by decide +kernel)
set_option maxRecDepth 20000 in
theorem gL_law_X6_at : GoodIn wsL_law (wsV RL 68 RX6 yX6_at wsX6_at) := goodIn_app (goodIn_of _ (by decide +kernel)) ggL_law_X6_at
set_option maxRecDepth 20000 in
theorem ggL_law_X5_concludes : GoodIn wsL_law wsX5_concludes := goodIn_r _ [752, 20, 16, 21, 218, 219, 220, 19, 221, 53, 214, 215, 216, 14, 217, 185, 186, 187, 188, 43, 753, 754, 755, 756, 189, 190, 191, 192, 44, 181, 182, 183, 184, 761, 762, 763, 764, 765, 766, 767, 768, 769, 790, 791, 792, 793, 794, 787, 788, 789] (by decide +kernel) (by decide +kernel)
set_option maxRecDepth 20000 in
theorem gL_law_X5_concludes : GoodIn wsL_law (wsV RL 69 RX5 yX5_concludes wsX5_concludes) := goodIn_app (goodIn_of _ (by decide +kernel)) ggL_law_X5_concludes
set_option maxRecDepth 20000 in
theorem ggL_law_X6_concludes : GoodIn wsL_law wsX6_concludes := goodIn_r _ [760, 197, 144, 139, 366, 367, 368, 5, 369, 361, 410, 411, 412, 413, 142, 140, 414, 415, 416, 417, 370, 371, 372, 418, 419, 420, 421, 143, 422, 423, 424, 425, 141, 138, 426, 427, 428, 429, 430, 431, 432, 433, 434, 435, 436, 437, 438, 439, 440, 441, 770, 771, 772, 773, 774, 775, 776, 777, 778, 779, 780, 781, 782, 783, 784, 785, 786] (by decide +kernel) (by decide +kernel)
set_option maxRecDepth 20000 in
theorem gL_law_X6_concludes : GoodIn wsL_law (wsV RL 73 RX6 yX6_concludes wsX6_concludes) := goodIn_app (goodIn_of _ (by decide +kernel)) ggL_law_X6_concludes
theorem dL_law_0 : decode cL_law 0 = .ok (.new 7, 3) := by decide +kernel
theorem dL_law_3 : decode cL_law 3 = .ok (.dup, 1) := by decide +kernel
theorem dL_law_4 : decode cL_law 4 = .ok (.invokespecial 9, 3) := by decide +kernel
theorem dL_law_7 : decode cL_law 7 = .ok (.astore_n 1, 1) := by decide +kernel
theorem dL_law_8 : decode cL_law 8 = .ok (.new 10, 3) := by decide +kernel
theorem dL_law_11 : decode cL_law 11 = .ok (.dup, 1) := by decide +kernel
theorem dL_law_12 : decode cL_law 12 = .ok (.invokespecial 12, 3) := by decide +kernel
theorem dL_law_15 : decode cL_law 15 = .ok (.astore_n 2, 1) := by decide +kernel
theorem dL_law_16 : decode cL_law 16 = .ok (.iconst 0, 1) := by decide +kernel
theorem dL_law_17 : decode cL_law 17 = .ok (.istore_n 3, 1) := by decide +kernel
theorem dL_law_18 : decode cL_law 18 = .ok (.iload_n 3, 1) := by decide +kernel
theorem dL_law_19 : decode cL_law 19 = .ok (.aload_n 0, 1) := by decide +kernel
theorem dL_law_20 : decode cL_law 20 = .ok (.arraylength, 1) := by decide +kernel
theorem dL_law_21 : decode cL_law 21 = .ok (.iconst 4, 1) := by decide +kernel
theorem dL_law_22 : decode cL_law 22 = .ok (.isub, 1) := by decide +kernel
theorem dL_law_23 : decode cL_law 23 = .ok (.if_icmp .gt 489, 3) := by decide +kernel
theorem dL_law_26 : decode cL_law 26 = .ok (.aload_n 0, 1) := by decide +kernel
theorem dL_law_27 : decode cL_law 27 = .ok (.iload_n 3, 1) := by decide +kernel
theorem dL_law_28 : decode cL_law 28 = .ok (.iaload, 1) := by decide +kernel
theorem dL_law_29 : decode cL_law 29 = .ok (.bipush 15, 2) := by decide +kernel
theorem dL_law_31 : decode cL_law 31 = .ok (.iand, 1) := by decide +kernel
theorem dL_law_32 : decode cL_law 32 = .ok (.tableswitch 474 0 13 #[72, 115, 158, 201, 234, 257, 270, 293, 316, 339, 362, 395, 418, 441], 72) := by decide +kernel
theorem dL_law_104 : decode cL_law 104 = .ok (.aload_n 1, 1) := by decide +kernel
theorem dL_law_105 : decode cL_law 105 = .ok (.aload_n 0, 1) := by decide +kernel
theorem dL_law_106 : decode cL_law 106 = .ok (.iload_n 3, 1) := by decide +kernel
theorem dL_law_107 : decode cL_law 107 = .ok (.iconst 1, 1) := by decide +kernel
theorem dL_law_108 : decode cL_law 108 = .ok (.iadd, 1) := by decide +kernel
theorem dL_law_109 : decode cL_law 109 = .ok (.iaload, 1) := by decide +kernel
theorem dL_law_110 : decode cL_law 110 = .ok (.aload_n 0, 1) := by decide +kernel
theorem dL_law_111 : decode cL_law 111 = .ok (.iload_n 3, 1) := by decide +kernel
theorem dL_law_112 : decode cL_law 112 = .ok (.iconst 2, 1) := by decide +kernel
theorem dL_law_113 : decode cL_law 113 = .ok (.iadd, 1) := by decide +kernel
theorem dL_law_114 : decode cL_law 114 = .ok (.iaload, 1) := by decide +kernel
theorem dL_law_115 : decode cL_law 115 = .ok (.aload_n 0, 1) := by decide +kernel
theorem dL_law_116 : decode cL_law 116 = .ok (.iload_n 3, 1) := by decide +kernel
theorem dL_law_117 : decode cL_law 117 = .ok (.iconst 3, 1) := by decide +kernel
theorem dL_law_118 : decode cL_law 118 = .ok (.iadd, 1) := by decide +kernel
theorem dL_law_119 : decode cL_law 119 = .ok (.iaload, 1) := by decide +kernel
theorem dL_law_120 : decode cL_law 120 = .ok (.invokevirtual 13, 3) := by decide +kernel
theorem dL_law_123 : decode cL_law 123 = .ok (.aload_n 2, 1) := by decide +kernel
theorem dL_law_124 : decode cL_law 124 = .ok (.aload_n 0, 1) := by decide +kernel
theorem dL_law_125 : decode cL_law 125 = .ok (.iload_n 3, 1) := by decide +kernel
theorem dL_law_126 : decode cL_law 126 = .ok (.iconst 1, 1) := by decide +kernel
theorem dL_law_127 : decode cL_law 127 = .ok (.iadd, 1) := by decide +kernel
theorem dL_law_128 : decode cL_law 128 = .ok (.iaload, 1) := by decide +kernel
theorem dL_law_129 : decode cL_law 129 = .ok (.aload_n 0, 1) := by decide +kernel
theorem dL_law_130 : decode cL_law 130 = .ok (.iload_n 3, 1) := by decide +kernel
theorem dL_law_131 : decode cL_law 131 = .ok (.iconst 2, 1) := by decide +kernel
theorem dL_law_132 : decode cL_law 132 = .ok (.iadd, 1) := by decide +kernel
theorem dL_law_133 : decode cL_law 133 = .ok (.iaload, 1) := by decide +kernel
theorem dL_law_134 : decode cL_law 134 = .ok (.aload_n 0, 1) := by decide +kernel
theorem dL_law_135 : decode cL_law 135 = .ok (.iload_n 3, 1) := by decide +kernel
theorem dL_law_136 : decode cL_law 136 = .ok (.iconst 3, 1) := by decide +kernel
theorem dL_law_137 : decode cL_law 137 = .ok (.iadd, 1) := by decide +kernel
theorem dL_law_138 : decode cL_law 138 = .ok (.iaload, 1) := by decide +kernel
theorem dL_law_139 : decode cL_law 139 = .ok (.invokevirtual 17, 3) := by decide +kernel
theorem dL_law_142 : decode cL_law 142 = .ok (.if_icmp .eq 364, 3) := by decide +kernel
theorem dL_law_145 : decode cL_law 145 = .ok (.iconst 0, 1) := by decide +kernel
theorem dL_law_146 : decode cL_law 146 = .ok (.ireturn, 1) := by decide +kernel
theorem dL_law_147 : decode cL_law 147 = .ok (.aload_n 1, 1) := by decide +kernel
theorem dL_law_148 : decode cL_law 148 = .ok (.aload_n 0, 1) := by decide +kernel
theorem dL_law_149 : decode cL_law 149 = .ok (.iload_n 3, 1) := by decide +kernel
theorem dL_law_150 : decode cL_law 150 = .ok (.iconst 1, 1) := by decide +kernel
theorem dL_law_151 : decode cL_law 151 = .ok (.iadd, 1) := by decide +kernel
theorem dL_law_152 : decode cL_law 152 = .ok (.iaload, 1) := by decide +kernel
theorem dL_law_153 : decode cL_law 153 = .ok (.aload_n 0, 1) := by decide +kernel
theorem dL_law_154 : decode cL_law 154 = .ok (.iload_n 3, 1) := by decide +kernel
theorem dL_law_155 : decode cL_law 155 = .ok (.iconst 2, 1) := by decide +kernel
theorem dL_law_156 : decode cL_law 156 = .ok (.iadd, 1) := by decide +kernel
theorem dL_law_157 : decode cL_law 157 = .ok (.iaload, 1) := by decide +kernel
theorem dL_law_158 : decode cL_law 158 = .ok (.aload_n 0, 1) := by decide +kernel
theorem dL_law_159 : decode cL_law 159 = .ok (.iload_n 3, 1) := by decide +kernel
theorem dL_law_160 : decode cL_law 160 = .ok (.iconst 3, 1) := by decide +kernel
theorem dL_law_161 : decode cL_law 161 = .ok (.iadd, 1) := by decide +kernel
theorem dL_law_162 : decode cL_law 162 = .ok (.iaload, 1) := by decide +kernel
theorem dL_law_163 : decode cL_law 163 = .ok (.invokevirtual 18, 3) := by decide +kernel
theorem dL_law_166 : decode cL_law 166 = .ok (.aload_n 2, 1) := by decide +kernel
theorem dL_law_167 : decode cL_law 167 = .ok (.aload_n 0, 1) := by decide +kernel
theorem dL_law_168 : decode cL_law 168 = .ok (.iload_n 3, 1) := by decide +kernel
theorem dL_law_169 : decode cL_law 169 = .ok (.iconst 1, 1) := by decide +kernel
theorem dL_law_170 : decode cL_law 170 = .ok (.iadd, 1) := by decide +kernel
theorem dL_law_171 : decode cL_law 171 = .ok (.iaload, 1) := by decide +kernel
theorem dL_law_172 : decode cL_law 172 = .ok (.aload_n 0, 1) := by decide +kernel
theorem dL_law_173 : decode cL_law 173 = .ok (.iload_n 3, 1) := by decide +kernel
theorem dL_law_174 : decode cL_law 174 = .ok (.iconst 2, 1) := by decide +kernel
theorem dL_law_175 : decode cL_law 175 = .ok (.iadd, 1) := by decide +kernel
theorem dL_law_176 : decode cL_law 176 = .ok (.iaload, 1) := by decide +kernel
theorem dL_law_177 : decode cL_law 177 = .ok (.aload_n 0, 1) := by decide +kernel
theorem dL_law_178 : decode cL_law 178 = .ok (.iload_n 3, 1) := by decide +kernel
theorem dL_law_179 : decode cL_law 179 = .ok (.iconst 3, 1) := by decide +kernel
theorem dL_law_180 : decode cL_law 180 = .ok (.iadd, 1) := by decide +kernel
theorem dL_law_181 : decode cL_law 181 = .ok (.iaload, 1) := by decide +kernel
theorem dL_law_182 : decode cL_law 182 = .ok (.invokevirtual 21, 3) := by decide +kernel
theorem dL_law_185 : decode cL_law 185 = .ok (.if_icmp .eq 321, 3) := by decide +kernel
theorem dL_law_188 : decode cL_law 188 = .ok (.iconst 0, 1) := by decide +kernel
theorem dL_law_189 : decode cL_law 189 = .ok (.ireturn, 1) := by decide +kernel
theorem dL_law_190 : decode cL_law 190 = .ok (.aload_n 1, 1) := by decide +kernel
theorem dL_law_191 : decode cL_law 191 = .ok (.aload_n 0, 1) := by decide +kernel
theorem dL_law_192 : decode cL_law 192 = .ok (.iload_n 3, 1) := by decide +kernel
theorem dL_law_193 : decode cL_law 193 = .ok (.iconst 1, 1) := by decide +kernel
theorem dL_law_194 : decode cL_law 194 = .ok (.iadd, 1) := by decide +kernel
theorem dL_law_195 : decode cL_law 195 = .ok (.iaload, 1) := by decide +kernel
theorem dL_law_196 : decode cL_law 196 = .ok (.aload_n 0, 1) := by decide +kernel
theorem dL_law_197 : decode cL_law 197 = .ok (.iload_n 3, 1) := by decide +kernel
theorem dL_law_198 : decode cL_law 198 = .ok (.iconst 2, 1) := by decide +kernel
theorem dL_law_199 : decode cL_law 199 = .ok (.iadd, 1) := by decide +kernel
theorem dL_law_200 : decode cL_law 200 = .ok (.iaload, 1) := by decide +kernel
theorem dL_law_201 : decode cL_law 201 = .ok (.aload_n 0, 1) := by decide +kernel
theorem dL_law_202 : decode cL_law 202 = .ok (.iload_n 3, 1) := by decide +kernel
theorem dL_law_203 : decode cL_law 203 = .ok (.iconst 3, 1) := by decide +kernel
theorem dL_law_204 : decode cL_law 204 = .ok (.iadd, 1) := by decide +kernel
theorem dL_law_205 : decode cL_law 205 = .ok (.iaload, 1) := by decide +kernel
theorem dL_law_206 : decode cL_law 206 = .ok (.invokevirtual 22, 3) := by decide +kernel
theorem dL_law_209 : decode cL_law 209 = .ok (.aload_n 2, 1) := by decide +kernel
theorem dL_law_210 : decode cL_law 210 = .ok (.aload_n 0, 1) := by decide +kernel
theorem dL_law_211 : decode cL_law 211 = .ok (.iload_n 3, 1) := by decide +kernel
theorem dL_law_212 : decode cL_law 212 = .ok (.iconst 1, 1) := by decide +kernel
theorem dL_law_213 : decode cL_law 213 = .ok (.iadd, 1) := by decide +kernel
theorem dL_law_214 : decode cL_law 214 = .ok (.iaload, 1) := by decide +kernel
theorem dL_law_215 : decode cL_law 215 = .ok (.aload_n 0, 1) := by decide +kernel
theorem dL_law_216 : decode cL_law 216 = .ok (.iload_n 3, 1) := by decide +kernel
theorem dL_law_217 : decode cL_law 217 = .ok (.iconst 2, 1) := by decide +kernel
theorem dL_law_218 : decode cL_law 218 = .ok (.iadd, 1) := by decide +kernel
theorem dL_law_219 : decode cL_law 219 = .ok (.iaload, 1) := by decide +kernel
theorem dL_law_220 : decode cL_law 220 = .ok (.aload_n 0, 1) := by decide +kernel
theorem dL_law_221 : decode cL_law 221 = .ok (.iload_n 3, 1) := by decide +kernel
theorem dL_law_222 : decode cL_law 222 = .ok (.iconst 3, 1) := by decide +kernel
theorem dL_law_223 : decode cL_law 223 = .ok (.iadd, 1) := by decide +kernel
theorem dL_law_224 : decode cL_law 224 = .ok (.iaload, 1) := by decide +kernel
theorem dL_law_225 : decode cL_law 225 = .ok (.invokevirtual 25, 3) := by decide +kernel
theorem dL_law_228 : decode cL_law 228 = .ok (.if_icmp .eq 278, 3) := by decide +kernel
theorem dL_law_231 : decode cL_law 231 = .ok (.iconst 0, 1) := by decide +kernel
theorem dL_law_232 : decode cL_law 232 = .ok (.ireturn, 1) := by decide +kernel
theorem dL_law_233 : decode cL_law 233 = .ok (.aload_n 1, 1) := by decide +kernel
theorem dL_law_234 : decode cL_law 234 = .ok (.aload_n 0, 1) := by decide +kernel
theorem dL_law_235 : decode cL_law 235 = .ok (.iload_n 3, 1) := by decide +kernel
theorem dL_law_236 : decode cL_law 236 = .ok (.iconst 1, 1) := by decide +kernel
theorem dL_law_237 : decode cL_law 237 = .ok (.iadd, 1) := by decide +kernel
theorem dL_law_238 : decode cL_law 238 = .ok (.iaload, 1) := by decide +kernel
theorem dL_law_239 : decode cL_law 239 = .ok (.aload_n 0, 1) := by decide +kernel
theorem dL_law_240 : decode cL_law 240 = .ok (.iload_n 3, 1) := by decide +kernel
theorem dL_law_241 : decode cL_law 241 = .ok (.iconst 2, 1) := by decide +kernel
theorem dL_law_242 : decode cL_law 242 = .ok (.iadd, 1) := by decide +kernel
theorem dL_law_243 : decode cL_law 243 = .ok (.iaload, 1) := by decide +kernel
theorem dL_law_244 : decode cL_law 244 = .ok (.invokevirtual 26, 3) := by decide +kernel
theorem dL_law_247 : decode cL_law 247 = .ok (.aload_n 2, 1) := by decide +kernel
theorem dL_law_248 : decode cL_law 248 = .ok (.aload_n 0, 1) := by decide +kernel
theorem dL_law_249 : decode cL_law 249 = .ok (.iload_n 3, 1) := by decide +kernel
theorem dL_law_250 : decode cL_law 250 = .ok (.iconst 1, 1) := by decide +kernel
theorem dL_law_251 : decode cL_law 251 = .ok (.iadd, 1) := by decide +kernel
theorem dL_law_252 : decode cL_law 252 = .ok (.iaload, 1) := by decide +kernel
theorem dL_law_253 : decode cL_law 253 = .ok (.aload_n 0, 1) := by decide +kernel
theorem dL_law_254 : decode cL_law 254 = .ok (.iload_n 3, 1) := by decide +kernel
theorem dL_law_255 : decode cL_law 255 = .ok (.iconst 2, 1) := by decide +kernel
theorem dL_law_256 : decode cL_law 256 = .ok (.iadd, 1) := by decide +kernel
theorem dL_law_257 : decode cL_law 257 = .ok (.iaload, 1) := by decide +kernel
theorem dL_law_258 : decode cL_law 258 = .ok (.invokevirtual 30, 3) := by decide +kernel
theorem dL_law_261 : decode cL_law 261 = .ok (.if_icmp .eq 245, 3) := by decide +kernel
theorem dL_law_264 : decode cL_law 264 = .ok (.iconst 0, 1) := by decide +kernel
theorem dL_law_265 : decode cL_law 265 = .ok (.ireturn, 1) := by decide +kernel
theorem dL_law_266 : decode cL_law 266 = .ok (.aload_n 1, 1) := by decide +kernel
theorem dL_law_267 : decode cL_law 267 = .ok (.aload_n 0, 1) := by decide +kernel
theorem dL_law_268 : decode cL_law 268 = .ok (.iload_n 3, 1) := by decide +kernel
theorem dL_law_269 : decode cL_law 269 = .ok (.iconst 1, 1) := by decide +kernel
theorem dL_law_270 : decode cL_law 270 = .ok (.iadd, 1) := by decide +kernel
theorem dL_law_271 : decode cL_law 271 = .ok (.iaload, 1) := by decide +kernel
theorem dL_law_272 : decode cL_law 272 = .ok (.invokevirtual 31, 3) := by decide +kernel
theorem dL_law_275 : decode cL_law 275 = .ok (.aload_n 2, 1) := by decide +kernel
theorem dL_law_276 : decode cL_law 276 = .ok (.aload_n 0, 1) := by decide +kernel
theorem dL_law_277 : decode cL_law 277 = .ok (.iload_n 3, 1) := by decide +kernel
theorem dL_law_278 : decode cL_law 278 = .ok (.iconst 1, 1) := by decide +kernel
theorem dL_law_279 : decode cL_law 279 = .ok (.iadd, 1) := by decide +kernel
theorem dL_law_280 : decode cL_law 280 = .ok (.iaload, 1) := by decide +kernel
theorem dL_law_281 : decode cL_law 281 = .ok (.invokevirtual 35, 3) := by decide +kernel
theorem dL_law_284 : decode cL_law 284 = .ok (.if_icmp .eq 222, 3) := by decide +kernel
theorem dL_law_287 : decode cL_law 287 = .ok (.iconst 0, 1) := by decide +kernel
theorem dL_law_288 : decode cL_law 288 = .ok (.ireturn, 1) := by decide +kernel
theorem dL_law_289 : decode cL_law 289 = .ok (.aload_n 1, 1) := by decide +kernel
theorem dL_law_290 : decode cL_law 290 = .ok (.invokevirtual 36, 3) := by decide +kernel
theorem dL_law_293 : decode cL_law 293 = .ok (.aload_n 2, 1) := by decide +kernel
theorem dL_law_294 : decode cL_law 294 = .ok (.invokevirtual 40, 3) := by decide +kernel
theorem dL_law_297 : decode cL_law 297 = .ok (.if_icmp .eq 209, 3) := by decide +kernel
theorem dL_law_300 : decode cL_law 300 = .ok (.iconst 0, 1) := by decide +kernel
theorem dL_law_301 : decode cL_law 301 = .ok (.ireturn, 1) := by decide +kernel
theorem dL_law_302 : decode cL_law 302 = .ok (.aload_n 1, 1) := by decide +kernel
theorem dL_law_303 : decode cL_law 303 = .ok (.aload_n 0, 1) := by decide +kernel
theorem dL_law_304 : decode cL_law 304 = .ok (.iload_n 3, 1) := by decide +kernel
theorem dL_law_305 : decode cL_law 305 = .ok (.iconst 1, 1) := by decide +kernel
theorem dL_law_306 : decode cL_law 306 = .ok (.iadd, 1) := by decide +kernel
theorem dL_law_307 : decode cL_law 307 = .ok (.iaload, 1) := by decide +kernel
theorem dL_law_308 : decode cL_law 308 = .ok (.invokevirtual 41, 3) := by decide +kernel
theorem dL_law_311 : decode cL_law 311 = .ok (.aload_n 2, 1) := by decide +kernel
theorem dL_law_312 : decode cL_law 312 = .ok (.aload_n 0, 1) := by decide +kernel
theorem dL_law_313 : decode cL_law 313 = .ok (.iload_n 3, 1) := by decide +kernel
theorem dL_law_314 : decode cL_law 314 = .ok (.iconst 1, 1) := by decide +kernel
theorem dL_law_315 : decode cL_law 315 = .ok (.iadd, 1) := by decide +kernel
theorem dL_law_316 : decode cL_law 316 = .ok (.iaload, 1) := by decide +kernel
theorem dL_law_317 : decode cL_law 317 = .ok (.invokevirtual 44, 3) := by decide +kernel
theorem dL_law_320 : decode cL_law 320 = .ok (.if_icmp .eq 186, 3) := by decide +kernel
theorem dL_law_323 : decode cL_law 323 = .ok (.iconst 0, 1) := by decide +kernel
theorem dL_law_324 : decode cL_law 324 = .ok (.ireturn, 1) := by decide +kernel
theorem dL_law_325 : decode cL_law 325 = .ok (.aload_n 1, 1) := by decide +kernel
theorem dL_law_326 : decode cL_law 326 = .ok (.aload_n 0, 1) := by decide +kernel
theorem dL_law_327 : decode cL_law 327 = .ok (.iload_n 3, 1) := by decide +kernel
theorem dL_law_328 : decode cL_law 328 = .ok (.iconst 1, 1) := by decide +kernel
theorem dL_law_329 : decode cL_law 329 = .ok (.iadd, 1) := by decide +kernel
theorem dL_law_330 : decode cL_law 330 = .ok (.iaload, 1) := by decide +kernel
theorem dL_law_331 : decode cL_law 331 = .ok (.invokevirtual 45, 3) := by decide +kernel
theorem dL_law_334 : decode cL_law 334 = .ok (.aload_n 2, 1) := by decide +kernel
theorem dL_law_335 : decode cL_law 335 = .ok (.aload_n 0, 1) := by decide +kernel
theorem dL_law_336 : decode cL_law 336 = .ok (.iload_n 3, 1) := by decide +kernel
theorem dL_law_337 : decode cL_law 337 = .ok (.iconst 1, 1) := by decide +kernel
theorem dL_law_338 : decode cL_law 338 = .ok (.iadd, 1) := by decide +kernel
theorem dL_law_339 : decode cL_law 339 = .ok (.iaload, 1) := by decide +kernel
theorem dL_law_340 : decode cL_law 340 = .ok (.invokevirtual 48, 3) := by decide +kernel
theorem dL_law_343 : decode cL_law 343 = .ok (.if_icmp .eq 163, 3) := by decide +kernel
theorem dL_law_346 : decode cL_law 346 = .ok (.iconst 0, 1) := by decide +kernel
theorem dL_law_347 : decode cL_law 347 = .ok (.ireturn, 1) := by decide +kernel
theorem dL_law_348 : decode cL_law 348 = .ok (.aload_n 1, 1) := by decide +kernel
theorem dL_law_349 : decode cL_law 349 = .ok (.aload_n 0, 1) := by decide +kernel
theorem dL_law_350 : decode cL_law 350 = .ok (.iload_n 3, 1) := by decide +kernel
theorem dL_law_351 : decode cL_law 351 = .ok (.iconst 1, 1) := by decide +kernel
theorem dL_law_352 : decode cL_law 352 = .ok (.iadd, 1) := by decide +kernel
theorem dL_law_353 : decode cL_law 353 = .ok (.iaload, 1) := by decide +kernel
theorem dL_law_354 : decode cL_law 354 = .ok (.invokevirtual 49, 3) := by decide +kernel
theorem dL_law_357 : decode cL_law 357 = .ok (.aload_n 2, 1) := by decide +kernel
theorem dL_law_358 : decode cL_law 358 = .ok (.aload_n 0, 1) := by decide +kernel
theorem dL_law_359 : decode cL_law 359 = .ok (.iload_n 3, 1) := by decide +kernel
theorem dL_law_360 : decode cL_law 360 = .ok (.iconst 1, 1) := by decide +kernel
theorem dL_law_361 : decode cL_law 361 = .ok (.iadd, 1) := by decide +kernel
theorem dL_law_362 : decode cL_law 362 = .ok (.iaload, 1) := by decide +kernel
theorem dL_law_363 : decode cL_law 363 = .ok (.invokevirtual 52, 3) := by decide +kernel
theorem dL_law_366 : decode cL_law 366 = .ok (.if_icmp .eq 140, 3) := by decide +kernel
theorem dL_law_369 : decode cL_law 369 = .ok (.iconst 0, 1) := by decide +kernel
theorem dL_law_370 : decode cL_law 370 = .ok (.ireturn, 1) := by decide +kernel
theorem dL_law_371 : decode cL_law 371 = .ok (.aload_n 1, 1) := by decide +kernel
theorem dL_law_372 : decode cL_law 372 = .ok (.aload_n 0, 1) := by decide +kernel
theorem dL_law_373 : decode cL_law 373 = .ok (.iload_n 3, 1) := by decide +kernel
theorem dL_law_374 : decode cL_law 374 = .ok (.iconst 1, 1) := by decide +kernel
theorem dL_law_375 : decode cL_law 375 = .ok (.iadd, 1) := by decide +kernel
theorem dL_law_376 : decode cL_law 376 = .ok (.iaload, 1) := by decide +kernel
theorem dL_law_377 : decode cL_law 377 = .ok (.invokevirtual 53, 3) := by decide +kernel
theorem dL_law_380 : decode cL_law 380 = .ok (.aload_n 2, 1) := by decide +kernel
theorem dL_law_381 : decode cL_law 381 = .ok (.aload_n 0, 1) := by decide +kernel
theorem dL_law_382 : decode cL_law 382 = .ok (.iload_n 3, 1) := by decide +kernel
theorem dL_law_383 : decode cL_law 383 = .ok (.iconst 1, 1) := by decide +kernel
theorem dL_law_384 : decode cL_law 384 = .ok (.iadd, 1) := by decide +kernel
theorem dL_law_385 : decode cL_law 385 = .ok (.iaload, 1) := by decide +kernel
theorem dL_law_386 : decode cL_law 386 = .ok (.invokevirtual 56, 3) := by decide +kernel
theorem dL_law_389 : decode cL_law 389 = .ok (.if_icmp .eq 117, 3) := by decide +kernel
theorem dL_law_392 : decode cL_law 392 = .ok (.iconst 0, 1) := by decide +kernel
theorem dL_law_393 : decode cL_law 393 = .ok (.ireturn, 1) := by decide +kernel
theorem dL_law_394 : decode cL_law 394 = .ok (.aload_n 1, 1) := by decide +kernel
theorem dL_law_395 : decode cL_law 395 = .ok (.aload_n 0, 1) := by decide +kernel
theorem dL_law_396 : decode cL_law 396 = .ok (.iload_n 3, 1) := by decide +kernel
theorem dL_law_397 : decode cL_law 397 = .ok (.iconst 1, 1) := by decide +kernel
theorem dL_law_398 : decode cL_law 398 = .ok (.iadd, 1) := by decide +kernel
theorem dL_law_399 : decode cL_law 399 = .ok (.iaload, 1) := by decide +kernel
theorem dL_law_400 : decode cL_law 400 = .ok (.aload_n 0, 1) := by decide +kernel
theorem dL_law_401 : decode cL_law 401 = .ok (.iload_n 3, 1) := by decide +kernel
theorem dL_law_402 : decode cL_law 402 = .ok (.iconst 2, 1) := by decide +kernel
theorem dL_law_403 : decode cL_law 403 = .ok (.iadd, 1) := by decide +kernel
theorem dL_law_404 : decode cL_law 404 = .ok (.iaload, 1) := by decide +kernel
theorem dL_law_405 : decode cL_law 405 = .ok (.invokevirtual 57, 3) := by decide +kernel
theorem dL_law_408 : decode cL_law 408 = .ok (.aload_n 2, 1) := by decide +kernel
theorem dL_law_409 : decode cL_law 409 = .ok (.aload_n 0, 1) := by decide +kernel
theorem dL_law_410 : decode cL_law 410 = .ok (.iload_n 3, 1) := by decide +kernel
theorem dL_law_411 : decode cL_law 411 = .ok (.iconst 1, 1) := by decide +kernel
theorem dL_law_412 : decode cL_law 412 = .ok (.iadd, 1) := by decide +kernel
theorem dL_law_413 : decode cL_law 413 = .ok (.iaload, 1) := by decide +kernel
theorem dL_law_414 : decode cL_law 414 = .ok (.aload_n 0, 1) := by decide +kernel
theorem dL_law_415 : decode cL_law 415 = .ok (.iload_n 3, 1) := by decide +kernel
theorem dL_law_416 : decode cL_law 416 = .ok (.iconst 2, 1) := by decide +kernel
theorem dL_law_417 : decode cL_law 417 = .ok (.iadd, 1) := by decide +kernel
theorem dL_law_418 : decode cL_law 418 = .ok (.iaload, 1) := by decide +kernel
theorem dL_law_419 : decode cL_law 419 = .ok (.invokevirtual 60, 3) := by decide +kernel
theorem dL_law_422 : decode cL_law 422 = .ok (.if_icmp .eq 84, 3) := by decide +kernel
theorem dL_law_425 : decode cL_law 425 = .ok (.iconst 0, 1) := by decide +kernel
theorem dL_law_426 : decode cL_law 426 = .ok (.ireturn, 1) := by decide +kernel
theorem dL_law_427 : decode cL_law 427 = .ok (.aload_n 1, 1) := by decide +kernel
theorem dL_law_428 : decode cL_law 428 = .ok (.aload_n 0, 1) := by decide +kernel
theorem dL_law_429 : decode cL_law 429 = .ok (.iload_n 3, 1) := by decide +kernel
theorem dL_law_430 : decode cL_law 430 = .ok (.iconst 1, 1) := by decide +kernel
theorem dL_law_431 : decode cL_law 431 = .ok (.iadd, 1) := by decide +kernel
theorem dL_law_432 : decode cL_law 432 = .ok (.iaload, 1) := by decide +kernel
theorem dL_law_433 : decode cL_law 433 = .ok (.invokevirtual 61, 3) := by decide +kernel
theorem dL_law_436 : decode cL_law 436 = .ok (.aload_n 2, 1) := by decide +kernel
theorem dL_law_437 : decode cL_law 437 = .ok (.aload_n 0, 1) := by decide +kernel
theorem dL_law_438 : decode cL_law 438 = .ok (.iload_n 3, 1) := by decide +kernel
theorem dL_law_439 : decode cL_law 439 = .ok (.iconst 1, 1) := by decide +kernel
theorem dL_law_440 : decode cL_law 440 = .ok (.iadd, 1) := by decide +kernel
theorem dL_law_441 : decode cL_law 441 = .ok (.iaload, 1) := by decide +kernel
theorem dL_law_442 : decode cL_law 442 = .ok (.invokevirtual 64, 3) := by decide +kernel
theorem dL_law_445 : decode cL_law 445 = .ok (.if_icmp .eq 61, 3) := by decide +kernel
theorem dL_law_448 : decode cL_law 448 = .ok (.iconst 0, 1) := by decide +kernel
theorem dL_law_449 : decode cL_law 449 = .ok (.ireturn, 1) := by decide +kernel
theorem dL_law_450 : decode cL_law 450 = .ok (.aload_n 1, 1) := by decide +kernel
theorem dL_law_451 : decode cL_law 451 = .ok (.aload_n 0, 1) := by decide +kernel
theorem dL_law_452 : decode cL_law 452 = .ok (.iload_n 3, 1) := by decide +kernel
theorem dL_law_453 : decode cL_law 453 = .ok (.iconst 1, 1) := by decide +kernel
theorem dL_law_454 : decode cL_law 454 = .ok (.iadd, 1) := by decide +kernel
theorem dL_law_455 : decode cL_law 455 = .ok (.iaload, 1) := by decide +kernel
theorem dL_law_456 : decode cL_law 456 = .ok (.invokevirtual 65, 3) := by decide +kernel
theorem dL_law_459 : decode cL_law 459 = .ok (.aload_n 2, 1) := by decide +kernel
theorem dL_law_460 : decode cL_law 460 = .ok (.aload_n 0, 1) := by decide +kernel
theorem dL_law_461 : decode cL_law 461 = .ok (.iload_n 3, 1) := by decide +kernel
theorem dL_law_462 : decode cL_law 462 = .ok (.iconst 1, 1) := by decide +kernel
theorem dL_law_463 : decode cL_law 463 = .ok (.iadd, 1) := by decide +kernel
theorem dL_law_464 : decode cL_law 464 = .ok (.iaload, 1) := by decide +kernel
theorem dL_law_465 : decode cL_law 465 = .ok (.invokevirtual 68, 3) := by decide +kernel
theorem dL_law_468 : decode cL_law 468 = .ok (.if_icmp .eq 38, 3) := by decide +kernel
theorem dL_law_471 : decode cL_law 471 = .ok (.iconst 0, 1) := by decide +kernel
theorem dL_law_472 : decode cL_law 472 = .ok (.ireturn, 1) := by decide +kernel
theorem dL_law_473 : decode cL_law 473 = .ok (.aload_n 1, 1) := by decide +kernel
theorem dL_law_474 : decode cL_law 474 = .ok (.aload_n 0, 1) := by decide +kernel
theorem dL_law_475 : decode cL_law 475 = .ok (.iload_n 3, 1) := by decide +kernel
theorem dL_law_476 : decode cL_law 476 = .ok (.iconst 1, 1) := by decide +kernel
theorem dL_law_477 : decode cL_law 477 = .ok (.iadd, 1) := by decide +kernel
theorem dL_law_478 : decode cL_law 478 = .ok (.iaload, 1) := by decide +kernel
theorem dL_law_479 : decode cL_law 479 = .ok (.aload_n 0, 1) := by decide +kernel
theorem dL_law_480 : decode cL_law 480 = .ok (.iload_n 3, 1) := by decide +kernel
theorem dL_law_481 : decode cL_law 481 = .ok (.iconst 2, 1) := by decide +kernel
theorem dL_law_482 : decode cL_law 482 = .ok (.iadd, 1) := by decide +kernel
theorem dL_law_483 : decode cL_law 483 = .ok (.iaload, 1) := by decide +kernel
theorem dL_law_484 : decode cL_law 484 = .ok (.invokevirtual 69, 3) := by decide +kernel
theorem dL_law_487 : decode cL_law 487 = .ok (.aload_n 2, 1) := by decide +kernel
theorem dL_law_488 : decode cL_law 488 = .ok (.aload_n 0, 1) := by decide +kernel
theorem dL_law_489 : decode cL_law 489 = .ok (.iload_n 3, 1) := by decide +kernel
theorem dL_law_490 : decode cL_law 490 = .ok (.iconst 1, 1) := by decide +kernel
theorem dL_law_491 : decode cL_law 491 = .ok (.iadd, 1) := by decide +kernel
theorem dL_law_492 : decode cL_law 492 = .ok (.iaload, 1) := by decide +kernel
theorem dL_law_493 : decode cL_law 493 = .ok (.aload_n 0, 1) := by decide +kernel
theorem dL_law_494 : decode cL_law 494 = .ok (.iload_n 3, 1) := by decide +kernel
theorem dL_law_495 : decode cL_law 495 = .ok (.iconst 2, 1) := by decide +kernel
theorem dL_law_496 : decode cL_law 496 = .ok (.iadd, 1) := by decide +kernel
theorem dL_law_497 : decode cL_law 497 = .ok (.iaload, 1) := by decide +kernel
theorem dL_law_498 : decode cL_law 498 = .ok (.invokevirtual 73, 3) := by decide +kernel
theorem dL_law_501 : decode cL_law 501 = .ok (.if_icmp .eq 5, 3) := by decide +kernel
theorem dL_law_504 : decode cL_law 504 = .ok (.iconst 0, 1) := by decide +kernel
theorem dL_law_505 : decode cL_law 505 = .ok (.ireturn, 1) := by decide +kernel
theorem dL_law_506 : decode cL_law 506 = .ok (.iinc 3 4, 3) := by decide +kernel
theorem dL_law_509 : decode cL_law 509 = .ok (.goto (-491), 3) := by decide +kernel
theorem dL_law_512 : decode cL_law 512 = .ok (.iconst 1, 1) := by decide +kernel
theorem dL_law_513 : decode cL_law 513 = .ok (.ireturn, 1) := by decide +kernel
abbrev vwCl : List vw_C := [(RJ4, TJ4, 4), (RX1, TX1, 1), (RX2, TX2, 5), (RX4, TX4, 3), (RX5, TX5, 9), (RX6, TX6, 17)]

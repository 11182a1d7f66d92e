/-! LOGIC: what holds between two calls -/
def iT (na nt n : Nat) (A T S : Nat → Q4) (ru cn : Nat → Nat) (ins : Nat → Int32) (pr : Nat → Nat → Nat) : Prop := na ≤ 100 ∧ nt ≤ 100 ∧ n ≤ 300 ∧ tb A na ∧ tk1 A na ∧ tb T nt ∧ (∀ i, 1 ≤ i → i ≤ nt → (T i).1 = 11) ∧ wf na nt ru ins cn pr n ∧ stt A T S ru ins cn pr n
def iX (na nt n : Nat) (A T S : Nat → Q4) (ru cn : Nat → Nat) (ins : Nat → Int32) (pr : Nat → Nat → Nat) (AK AN TK TN R I C P K N : Nat → Int32) : Prop := a3 AK AN A na ∧ z3 AK na ∧ a3 TK TN T nt ∧ z3 TK nt ∧ rr R I C P ru ins cn pr n ∧ a3 K N S n
def iM (na nt n : Nat) (A T : Nat → Q4) (ru cn : Nat → Nat) (ins : Nat → Int32) (pr : Nat → Nat → Nat) (FA FT R6 I6 C6 P6 : Nat → Int32) : Prop := a4 FA A na ∧ a4 FT T nt ∧ rr R6 I6 C6 P6 ru ins cn pr n
def iW (q : Nat) (f X : Nat → Int32) (l : List Nat) (ce sl : Nat) : Prop := 16 ≤ q ∧ q ≤ 600 ∧ l.length ≤ 300 ∧ tv f q l ∧ tx X l ∧ ce + 64 ≤ 34 + 4 * q ∧ sl + 80000 ≤ 9726 + 5000 * q ∧ ch7 l
abbrev ST := Int32 × Int32 × Int32 × (Nat → Int32) × (Nat → Int32) × Int32 × (Nat → Int32) × (Nat → Int32) × Int32 × (Nat → Int32) × (Nat → Int32) × (Nat → Int32) × (Nat → Int32) × (Nat → Int32) × (Nat → Int32) × (Nat → Int32) × Int32 × Int32 × Nat × (Nat → Int32) × (Nat → Int32) × (Nat → Int32) × Int32 × Int32 × Int32 × Int32 × Int32 × (Nat → Int32) × (Nat → Int32) × (Nat → Int32) × (Nat → Int32) × (Nat → Int32) × (Nat → Int32) × (Nat → Int32) × (Nat → Int32) × (Nat → Int32) × (Nat → Int32) × (Nat → Int32) × Nat × Nat
def IV (j : Nat) (st : ST) : Prop := ∃ (na nt n bk q ce sl : Nat) (A T S : Nat → Q4) (ru cn : Nat → Nat) (ins : Nat → Int32) (pr : Nat → Nat → Nat) (l : List Nat) (lt : Int32) (AK AN TK TN R I C P K N M f Y Z FA FT R6 I6 C6 P6 F Y6 X Z6 L6 : Nat → Int32), st = ((nI j), (nI bk), (nI na), AK, AN, (nI nt), TK, TN, (nI n), R, I, C, P, K, N, M, lt, (nI l.length), q, f, Y, Z, (nI na), (nI nt), (nI n), (nI bk), (nI l.length), FA, FT, R6, I6, C6, P6, F, Y6, X, Z6, L6, ce, sl) ∧ iT na nt n A T S ru cn ins pr ∧ iX na nt n A T S ru cn ins pr AK AN TK TN R I C P K N ∧ iM na nt n A T ru cn ins pr FA FT R6 I6 C6 P6 ∧ iW q f X l ce sl
theorem iv {j : Nat} {na nt n bk q ce sl : Nat} {A T S : Nat → Q4} {ru cn : Nat → Nat} {ins : Nat → Int32} {pr : Nat → Nat → Nat} {l : List Nat} {lt : Int32} {AK AN TK TN R I C P K N M f Y Z FA FT R6 I6 C6 P6 F Y6 X Z6 L6 : Nat → Int32} (h1 : iT na nt n A T S ru cn ins pr) (h2 : iX na nt n A T S ru cn ins pr AK AN TK TN R I C P K N) (h3 : iM na nt n A T ru cn ins pr FA FT R6 I6 C6 P6) (h4 : iW q f X l ce sl) : IV j ((nI j), (nI bk), (nI na), AK, AN, (nI nt), TK, TN, (nI n), R, I, C, P, K, N, M, lt, (nI l.length), q, f, Y, Z, (nI na), (nI nt), (nI n), (nI bk), (nI l.length), FA, FT, R6, I6, C6, P6, F, Y6, X, Z6, L6, ce, sl) := ⟨na, nt, n, bk, q, ce, sl, A, T, S, ru, cn, ins, pr, l, lt, AK, AN, TK, TN, R, I, C, P, K, N, M, f, Y, Z, FA, FT, R6, I6, C6, P6, F, Y6, X, Z6, L6, rfl, h1, h2, h3, h4⟩
theorem iT_k {na nt n : Nat} {A T S : Nat → Q4} {ru cn : Nat → Nat} {ins : Nat → Int32} {pr : Nat → Nat → Nat} (h : iT na nt n A T S ru cn ins pr) : tk1 T nt ∧ tb S n ∧ (∀ k, 1 ≤ k → k ≤ n → cn k ≤ 3) := by
  obtain ⟨t1, t2, t3, t4, t5, t6, t7, t8, t9⟩ := h
  exact ⟨fun i i1 i2 => by rw [t7 i i1 i2]; decide, tb_of t1 t2 t4 t6 t8 (Nat.le_refl n) t9, fun k k1 k2 => Nat.le_trans (t8 k k1 k2).2.1 (tk_3 _)⟩
theorem tb_up {A : Nat → Q4} {n : Nat} {q : Q4} (h : tb A n) (hq : q_b q) : tb (q_up A (n + 1) q) (n + 1) := by
  intro i i1 i2
  by_cases e : i = n + 1
  · rw [e, q_us]; exact hq
  · rw [q_un e]; exact h i i1 (by omega)
theorem iT_A {na nt n : Nat} {A T S : Nat → Q4} {ru cn : Nat → Nat} {ins : Nat → Int32} {pr : Nat → Nat → Nat} {q : Q4} (h : iT na nt n A T S ru cn ins pr) (hq : q_b q) (hk : 1 ≤ q.1) (hn : na < 100) : iT (na + 1) nt n (q_up A (na + 1) q) T S ru cn ins pr := by
  obtain ⟨t1, t2, t3, t4, t5, t6, t7, t8, t9⟩ := h
  refine ⟨by omega, t2, t3, tb_up t4 hq, fun i i1 i2 => ?_, t6, t7, fun k k1 k2 => ?_, fun k k1 k2 => ?_⟩
  · by_cases e : i = na + 1
    · rw [e, q_us]; exact ⟨hk, hq.1⟩
    · rw [q_un e]; exact t5 i i1 (by omega)
  · obtain ⟨w1, w2, w3, w4, w5, w6⟩ := t8 k k1 k2
    refine ⟨w1, w2, w3, fun z => ?_, w5, w6⟩
    obtain ⟨j, j1, j2, j3⟩ := w4 z
    exact ⟨j, j1, j2, by omega⟩
  · rw [t9 k k1 k2, so, so]
    refine sn_cg (fun z => ?_) (fun _ => rfl)
    obtain ⟨j, j1, j2, j3⟩ := (t8 k k1 k2).2.2.2.1 z
    rw [j1, nI_clamp (by omega), q_un (by omega)]
theorem iT_T {na nt n : Nat} {A T S : Nat → Q4} {ru cn : Nat → Nat} {ins : Nat → Int32} {pr : Nat → Nat → Nat} {q : Q4} (h : iT na nt n A T S ru cn ins pr) (hq : q_b q) (hk : q.1 = 11) (hn : nt < 100) : iT na (nt + 1) n A (q_up T (nt + 1) q) S ru cn ins pr := by
  obtain ⟨t1, t2, t3, t4, t5, t6, t7, t8, t9⟩ := h
  refine ⟨t1, by omega, t3, t4, t5, tb_up t6 hq, fun i i1 i2 => ?_, fun k k1 k2 => ?_, fun k k1 k2 => ?_⟩
  · by_cases e : i = nt + 1
    · rw [e, q_us]; exact hk
    · rw [q_un e]; exact t7 i i1 (by omega)
  · obtain ⟨w1, w2, w3, w4, w5, w6⟩ := t8 k k1 k2
    refine ⟨w1, w2, w3, w4, fun z => ?_, w6⟩
    obtain ⟨j, j1, j2, j3⟩ := w5 z
    exact ⟨j, j1, j2, by omega⟩
  · rw [t9 k k1 k2, so, so]
    refine sn_cg (fun _ => rfl) (fun z => ?_)
    obtain ⟨j, j1, j2, j3⟩ := (t8 k k1 k2).2.2.2.2.1 z
    rw [j1, nI_clamp (by omega), q_un (by omega)]
theorem nI_inj {a b : Nat} (ha : a ≤ 300) (hb : b ≤ 300) {x : Int32} (h1 : x = nI a) (h2 : x = nI b) : a = b := (nI_eq (by omega) (by omega)).mp (h1.symm.trans h2)

/-! LOGIC: how a formula is worked out over numbers that are Nats -/
theorem fx_nm_eq {α : Type} {e : α} {P : α → Prop} : fx_nm e P = P e := propext ⟨fun h => h _ rfl, fun h => fx_nm_i h⟩
theorem fx_nm_rd {f : Nat → Int32} {k : Nat} {P : Int32 → Prop} : fx_nm (f k) P = P (f k) := fx_nm_eq
theorem fx_nm_up {f : Nat → Int32} {k : Nat} {x : Int32} {P : (Nat → Int32) → Prop} : fx_nm (upd f k x) P = P (upd f k x) := fx_nm_eq
theorem fx_nm_add {a b : Nat} {P : Int32 → Prop} : fx_nm (nI a + nI b) P = P (nI (a + b)) := by rw [fx_nm_eq, nI_add]
theorem fx_nm_mul {a b : Nat} {P : Int32 → Prop} : fx_nm (nI a * nI b) P = P (nI (a * b)) := by rw [fx_nm_eq, pk_mul]
theorem fx_nm_sub {a b : Nat} {P : Int32 → Prop} (h : b ≤ a) : fx_nm (nI a - nI b) P = P (nI (a - b)) := by rw [fx_nm_eq, pk_sub h]
theorem fx_nm_m1 {a : Nat} {P : Int32 → Prop} (h : 1 ≤ a) : fx_nm (nI a + (-1)) P = P (nI (a - 1)) := by
  obtain ⟨b, rfl⟩ : ∃ b, a = b + 1 := ⟨a - 1, by omega⟩
  rw [fx_nm_eq, pk_m1, Nat.add_sub_cancel]
theorem fx_ix_n {k n : Nat} {P : Nat → Prop} (h : k < n) (hk : k < 2147483648) : fx_ix (nI k) n P = P k :=
  propext ⟨fun ⟨j, _, h2, h3, h4⟩ => by rw [(nI_eq hk h2).mp h3]; exact h4, fun q => fx_ix_i k rfl h hk q⟩
theorem fb_t {c A B : Prop} (h : c) : fx_br c A B = A := propext ⟨fun q => q.1 h, fun q => fx_br_t h q⟩
theorem fb_f {c A B : Prop} (h : ¬ c) : fx_br c A B = B := propext ⟨fun q => q.2 h, fun q => fx_br_f h q⟩
theorem fb_ltt {a b : Nat} {A B : Prop} (h : a < b) (hb : b < 2147483648) : fx_br (nI a < nI b) A B = A := fb_t (nI_lt h hb)
theorem fb_ltf {a b : Nat} {A B : Prop} (h : b ≤ a) (ha : a < 2147483648) : fx_br (nI a < nI b) A B = B := fb_f (nI_nlt h ha)
theorem fb_let {a b : Nat} {A B : Prop} (h : a ≤ b) (hb : b < 2147483648) : fx_br (nI a ≤ nI b) A B = A := fb_t (nI_le h hb)
theorem fb_lef {a b : Nat} {A B : Prop} (h : b < a) (ha : a < 2147483648) : fx_br (nI a ≤ nI b) A B = B := fb_f (nI_ge h ha)
theorem fb_eqt {a b : Nat} {A B : Prop} (h : a = b) : fx_br (nI a = nI b) A B = A := fb_t (by rw [h])
theorem fb_eqf {a b : Nat} {A B : Prop} (h : ¬ a = b) (ha : a < 2147483648) (hb : b < 2147483648) : fx_br (nI a = nI b) A B = B := fb_f (fun q => h ((nI_eq ha hb).mp q))
theorem fb_lt0 {a : Nat} {A B : Prop} (ha : a < 2147483648) : fx_br (nI a < 0) A B = B := fb_f (nI_pos ha)
theorem fb_0le {a : Nat} {A B : Prop} (ha : a < 2147483648) : fx_br (0 ≤ nI a) A B = A := fb_t (nI_pos' ha)
theorem fb_eq0t {a : Nat} {A B : Prop} (h : a = 0) : fx_br (nI a = 0) A B = A := fb_t (by rw [h, nI_0])
theorem fb_eq0f {a : Nat} {A B : Prop} (h : 0 < a) (ha : a < 2147483648) : fx_br (nI a = 0) A B = B := fb_f (nI_ne0 h ha)
theorem fb_le0t {a : Nat} {A B : Prop} (h : a = 0) : fx_br (nI a ≤ 0) A B = A := fb_t (by rw [h]; decide)
theorem fb_le0f {a : Nat} {A B : Prop} (h : 0 < a) (ha : a < 2147483648) : fx_br (nI a ≤ 0) A B = B := fb_f (nI_nle h ha)
theorem fb_m1 {a : Nat} {A B : Prop} (ha : a < 2147483648) : fx_br (nI a = -1) A B = B := fb_f (fun q => nI_pos ha (by rw [q]; decide))
theorem fj1 {T0 : Type} {K : T0 → Prop} {B : (T0 → Prop) → Prop} : fx_jn1 K B = B K := rfl
theorem fl_t {i n : Nat} {P : Prop} (h : i < n) : fx_lt i n P = P := propext ⟨fun q => q.2, fun q => ⟨h, q⟩⟩
/-- two ways of one branch, by numbers -/
theorem fb_lt {a b : Nat} {A B : Prop} (ha : a < 2147483648) (hb : b < 2147483648) (t : a < b → A) (f : b ≤ a → B) : fx_br (nI a < nI b) A B := fx_br_iff (nI_ltI ha hb) t (fun h => f (Nat.le_of_not_lt h))
theorem fb_le {a b : Nat} {A B : Prop} (ha : a < 2147483648) (hb : b < 2147483648) (t : a ≤ b → A) (f : b < a → B) : fx_br (nI a ≤ nI b) A B := fx_br_iff (nI_leI ha hb) t (fun h => f (Nat.lt_of_not_le h))
theorem fb_eq {a b : Nat} {A B : Prop} (ha : a < 2147483648) (hb : b < 2147483648) (t : a = b → A) (f : ¬ a = b → B) : fx_br (nI a = nI b) A B := fx_br_iff (nI_eq ha hb) t f
theorem fb_eq0 {a : Nat} {A B : Prop} (ha : a < 2147483648) (t : a = 0 → A) (f : 0 < a → B) : fx_br (nI a = 0) A B := fx_br_iff (by rw [← nI_0]; exact nI_eq ha (by decide)) t (fun h => f (Nat.pos_of_ne_zero h))
/-- four numbers of a statement: kind, and three -/
abbrev Q4 := Nat × Nat × Nat × Nat
def q_z : Q4 := (0, 0, 0, 0)
def q_b (q : Q4) : Prop := q.1 ≤ 12 ∧ q.2.1 < 1000 ∧ q.2.2.1 < 1000 ∧ q.2.2.2 < 1000
def q_up (A : Nat → Q4) (k : Nat) (q : Q4) : Nat → Q4 := fun i => if i = k then q else A i
theorem q_us {A : Nat → Q4} {k : Nat} {q : Q4} : q_up A k q k = q := by simp [q_up]
theorem q_un {A : Nat → Q4} {k j : Nat} {q : Q4} (h : j ≠ k) : q_up A k q j = A j := by simp [q_up, h]
/-- the reference's place of a statement -/
def r4 (F : Nat → Int32) (i : Nat) (q : Q4) : Prop := F (4 * i) = nI q.1 ∧ F (4 * i + 1) = nI q.2.1 ∧ F (4 * i + 2) = nI q.2.2.1 ∧ F (4 * i + 3) = nI q.2.2.2
def u4 (F : Nat → Int32) (k : Nat) (a b c d : Int32) : Nat → Int32 := upd (upd (upd (upd F (4 * k) a) (4 * k + 1) b) (4 * k + 2) c) (4 * k + 3) d
theorem r4_set {F : Nat → Int32} {k : Nat} {a b c d : Nat} : r4 (u4 F k (nI a) (nI b) (nI c) (nI d)) k (a, b, c, d) := by
  refine ⟨?_, ?_, ?_, ?_⟩ <;> simp (disch := omega) only [u4, pk_un, pk_us]
theorem u4_un {F : Nat → Int32} {k j : Nat} {a b c d : Int32} (h : j < 4 * k ∨ 4 * k + 3 < j) : u4 F k a b c d j = F j := by
  simp (disch := omega) only [u4, pk_un]
theorem r4_ne {F : Nat → Int32} {k j : Nat} {a b c d : Int32} {q : Q4} (h : j ≠ k) (hq : r4 F j q) : r4 (u4 F k a b c d) j q := by
  obtain ⟨h1, h2, h3, h4⟩ := hq
  refine ⟨?_, ?_, ?_, ?_⟩ <;> rw [u4_un (by omega)] <;> assumption
/-- the class's -/
def r3 (K N : Nat → Int32) (i : Nat) (q : Q4) : Prop := K i = nI q.1 ∧ N (i * 3) = nI q.2.1 ∧ N (i * 3 + 1) = nI q.2.2.1 ∧ N (i * 3 + 2) = nI q.2.2.2
def u3 (N : Nat → Int32) (k : Nat) (b c d : Int32) : Nat → Int32 := upd (upd (upd N (k * 3) b) (k * 3 + 1) c) (k * 3 + 2) d
theorem u3_un {F : Nat → Int32} {k j : Nat} {b c d : Int32} (h : j < k * 3 ∨ k * 3 + 2 < j) : u3 F k b c d j = F j := by
  simp (disch := omega) only [u3, pk_un]
theorem r3_set {K N : Nat → Int32} {k : Nat} {a b c d : Nat} : r3 (upd K k (nI a)) (u3 N k (nI b) (nI c) (nI d)) k (a, b, c, d) := by
  refine ⟨?_, ?_, ?_, ?_⟩ <;> simp (disch := omega) only [u3, pk_un, pk_us]
theorem r3_ne {K N : Nat → Int32} {k j : Nat} {a b c d : Int32} {q : Q4} (h : j ≠ k) (hq : r3 K N j q) : r3 (upd K k a) (u3 N k b c d) j q := by
  obtain ⟨h1, h2, h3, h4⟩ := hq
  refine ⟨?_, ?_, ?_, ?_⟩
  · rw [pk_un h, h1]
  all_goals rw [u3_un (by omega)]; assumption
/-- all the statements of a table, both sides -/
def a4 (F : Nat → Int32) (A : Nat → Q4) (n : Nat) : Prop := ∀ i, 1 ≤ i → i ≤ n → r4 F i (A i)
def a3 (K N : Nat → Int32) (A : Nat → Q4) (n : Nat) : Prop := ∀ i, 1 ≤ i → i ≤ n → r3 K N i (A i)
theorem a4_up {F : Nat → Int32} {A : Nat → Q4} {n a b c d : Nat} (h : a4 F A n) : a4 (u4 F (n + 1) (nI a) (nI b) (nI c) (nI d)) (q_up A (n + 1) (a, b, c, d)) (n + 1) := by
  intro i h1 h2
  by_cases e : i = n + 1
  · subst e
    rw [q_us]
    exact r4_set
  · rw [q_un e]
    exact r4_ne e (h i h1 (by omega))
theorem a3_up {K N : Nat → Int32} {A : Nat → Q4} {n a b c d : Nat} (h : a3 K N A n) : a3 (upd K (n + 1) (nI a)) (u3 N (n + 1) (nI b) (nI c) (nI d)) (q_up A (n + 1) (a, b, c, d)) (n + 1) := by
  intro i h1 h2
  by_cases e : i = n + 1
  · subst e
    rw [q_us]
    exact r3_set
  · rw [q_un e]
    exact r3_ne e (h i h1 (by omega))
/-- a term -/
def tm (x : Int32) : Prop := ∃ j : Nat, j < 1000 ∧ x = nI j
theorem sp_isTerm6 {post : Int32 → Prop} {x : Int32} (t : ∀ j, j < 1000 → x = nI j → post (nI 1)) (f : ¬ tm x → post (nI 0)) : wp_X6_isTerm post x := by
  unfold wp_X6_isTerm
  rcases pk_ix x (n := 1000) (by decide) with h | h | ⟨j, hj, rfl⟩
  · refine fx_br_t h (f ?_)
    rintro ⟨j, hj, rfl⟩
    exact nI_pos (by omega) h
  · have hf : ¬ tm x := by
      rintro ⟨j, hj, rfl⟩
      exact nI_ge hj (by decide) h
    exact fx_br_i (fun _ => f hf) (fun _ => fx_br_t h (f hf))
  · rw [fb_lt0 (by omega), fb_lef hj (by decide)]
    exact t j hj rfl
theorem sp_isTerm5 {post : Int32 → Prop} {x : Int32} (t : ∀ j, j < 1000 → x = nI j → post (nI 1)) (f : ¬ tm x → post (nI 0)) : wp_X5_isTerm post x := sp_isTerm6 t f
theorem fj1_i {T0 : Type} {K : T0 → Prop} {B : (T0 → Prop) → Prop} (I : T0 → Prop) (hK : ∀ x, I x → K x) (hB : ∀ K' : T0 → Prop, (∀ x, I x → K' x) → B K') : fx_jn1 K B := hB K hK
theorem i_rng {k : Int32} (a b : Nat) (hb : b < 2147483648) (ha : a < 2147483648) (h1 : ¬ k < nI a) (h2 : ¬ nI b < k) : ∃ j : Nat, a ≤ j ∧ j ≤ b ∧ k = nI j := by
  have ea := nI_toInt (n := a) ha
  have eb := nI_toInt (n := b) hb
  rw [Int32.lt_iff_toInt_lt] at h1 h2
  obtain ⟨j, hj, rfl⟩ := nI_of (x := k) (by
    rw [Int32.lt_iff_toInt_lt]
    have : (0 : Int32).toInt = 0 := by decide
    omega)
  have ej := nI_toInt (n := j) hj
  exact ⟨j, by omega, by omega, rfl⟩
theorem fb_ctr {c : Prop} (h : c) (n : ¬ c) {A : Prop} : A := absurd h n

/-! FORMULAS: what a method's walk comes to, as a plain proposition; and rows of the walk that eat such a formula -/
/-- a number gets a name -/
def fx_nm {α : Type} (e : α) (P : α → Prop) : Prop := ∀ x, x = e → P x
/-- an index is in its row -/
def fx_ix (i : Int32) (n : Nat) (P : Nat → Prop) : Prop := ∃ k : Nat, k < n ∧ k < 2147483648 ∧ i = nI k ∧ P k
/-- a branch -/
def fx_br (c : Prop) (A B : Prop) : Prop := (c → A) ∧ (¬ c → B)
/-- a divisor -/
def fx_dv (y : Int32) (P : Prop) : Prop := ¬ y = 0 ∧ P
/-- a number below another -/
def fx_lt (i n : Nat) (P : Prop) : Prop := i < n ∧ P
/-- a reference that may be null -/
def fx_on (t : Option Nat) (A : Prop) (B : Nat → Prop) : Prop := (t = none → A) ∧ (∀ i, t = some i → B i)
theorem fx_on_n {A : Prop} {B : Nat → Prop} (h : A) : fx_on none A B := ⟨fun _ => h, fun _ z => (nomatch z)⟩
theorem fx_on_s {i : Nat} {A : Prop} {B : Nat → Prop} (h : B i) : fx_on (some i) A B := ⟨fun z => (nomatch z), fun _ z => Option.some.inj z ▸ h⟩
theorem fx_nm_i {α : Type} {e : α} {P : α → Prop} (h : P e) : fx_nm e P := fun _ hx => hx ▸ h
theorem fx_nm_to {α : Type} {e : α} {P : α → Prop} (e' : α) (he : e = e') (h : P e') : fx_nm e P := fun _ hx => (hx.trans he) ▸ h
theorem fx_ix_i {i : Int32} {n : Nat} {P : Nat → Prop} (k : Nat) (hi : i = nI k) (hk : k < n) (hn : k < 2147483648) (h : P k) : fx_ix i n P := ⟨k, hk, hn, hi, h⟩
theorem fx_in {i : Int32} {k n : Nat} (h1 : k < n) (h2 : k < 2147483648) (h3 : i = nI k) : vp_in i n := by
  subst h3
  intro z
  rcases z with z | z
  · exact nI_pos h2 z
  · rw [nI_clamp h2] at z
    omega
theorem fx_br_i {c A B : Prop} (a : c → A) (b : ¬ c → B) : fx_br c A B := ⟨a, b⟩
theorem fx_br_t {c A B : Prop} (h : c) (a : A) : fx_br c A B := ⟨fun _ => a, fun n => absurd h n⟩
theorem fx_br_f {c A B : Prop} (h : ¬ c) (b : B) : fx_br c A B := ⟨fun n => absurd n h, fun _ => b⟩
theorem fx_br_iff {c d A B : Prop} (e : c ↔ d) (a : d → A) (b : ¬ d → B) : fx_br c A B := ⟨fun h => a (e.mp h), fun h => b (fun q => h (e.mpr q))⟩
def fx_lp1 {T0 : Type} (F : (T0 → Prop) → T0 → Prop) : Nat → T0 → Prop
  | 0 => fun _ => False
  | n + 1 => F (fx_lp1 F n)
def fx_wh1 {T0 : Type} (F : (T0 → Prop) → T0 → Prop) (x0 : T0) : Prop := ∃ n, fx_lp1 F n x0
theorem fx_loop1 {T0 : Type} {F : (T0 → Prop) → T0 → Prop} {G : T0 → Prop} (step : ∀ rec : T0 → Prop, (∀ x0, rec x0 → G x0) → ∀ x0, F rec x0 → G x0) {x0 : T0} (h : fx_wh1 F x0) : G x0 := by
  obtain ⟨k, h⟩ := h
  induction k generalizing x0 with
  | zero => exact h.elim
  | succ k ih => exact step (fx_lp1 F k) (fun x0 q => ih q) x0 h
theorem fx_wh1_i {T0 : Type} {F : (T0 → Prop) → T0 → Prop} (I : T0 → Prop) (μ : T0 → Nat) (step : ∀ rec : T0 → Prop, ∀ x0, I x0 → (∀ x0', I x0' → μ x0' < μ x0 → rec x0') → F rec x0) (x0 : T0) (h : I x0) : fx_wh1 F x0 := by
  suffices hs : ∀ k x0, I x0 → μ x0 < k → fx_lp1 F k x0 from ⟨μ x0 + 1, hs _ x0 h (Nat.lt_succ_self _)⟩
  intro k
  induction k with
  | zero => intro x0 _ h; exact absurd h (Nat.not_lt_zero _)
  | succ k ih => intro x0 hI hm; exact step (fx_lp1 F k) x0 hI (fun x0' hI' hlt => ih x0' hI' (Nat.lt_of_lt_of_le hlt (Nat.le_of_lt_succ hm)))
/-- a place where roads meet -/
def fx_jn1 {T0 : Type} (K : T0 → Prop) (B : (T0 → Prop) → Prop) : Prop := B K
def fx_lp2 {T0 T1 : Type} (F : (T0 → T1 → Prop) → T0 → T1 → Prop) : Nat → T0 → T1 → Prop
  | 0 => fun _ _ => False
  | n + 1 => F (fx_lp2 F n)
def fx_wh2 {T0 T1 : Type} (F : (T0 → T1 → Prop) → T0 → T1 → Prop) (x0 : T0) (x1 : T1) : Prop := ∃ n, fx_lp2 F n x0 x1
theorem fx_loop2 {T0 T1 : Type} {F : (T0 → T1 → Prop) → T0 → T1 → Prop} {G : T0 → T1 → Prop} (step : ∀ rec : T0 → T1 → Prop, (∀ x0 x1, rec x0 x1 → G x0 x1) → ∀ x0 x1, F rec x0 x1 → G x0 x1) {x0 : T0} {x1 : T1} (h : fx_wh2 F x0 x1) : G x0 x1 := by
  obtain ⟨k, h⟩ := h
  induction k generalizing x0 x1 with
  | zero => exact h.elim
  | succ k ih => exact step (fx_lp2 F k) (fun x0 x1 q => ih q) x0 x1 h
theorem fx_wh2_i {T0 T1 : Type} {F : (T0 → T1 → Prop) → T0 → T1 → Prop} (I : T0 → T1 → Prop) (μ : T0 → T1 → Nat) (step : ∀ rec : T0 → T1 → Prop, ∀ x0 x1, I x0 x1 → (∀ x0' x1', I x0' x1' → μ x0' x1' < μ x0 x1 → rec x0' x1') → F rec x0 x1) (x0 : T0) (x1 : T1) (h : I x0 x1) : fx_wh2 F x0 x1 := by
  suffices hs : ∀ k x0 x1, I x0 x1 → μ x0 x1 < k → fx_lp2 F k x0 x1 from ⟨μ x0 x1 + 1, hs _ x0 x1 h (Nat.lt_succ_self _)⟩
  intro k
  induction k with
  | zero => intro x0 x1 _ h; exact absurd h (Nat.not_lt_zero _)
  | succ k ih => intro x0 x1 hI hm; exact step (fx_lp2 F k) x0 x1 hI (fun x0' x1' hI' hlt => ih x0' x1' hI' (Nat.lt_of_lt_of_le hlt (Nat.le_of_lt_succ hm)))
/-- a place where roads meet -/
def fx_jn2 {T0 T1 : Type} (K : T0 → T1 → Prop) (B : (T0 → T1 → Prop) → Prop) : Prop := B K
def fx_lp3 {T0 T1 T2 : Type} (F : (T0 → T1 → T2 → Prop) → T0 → T1 → T2 → Prop) : Nat → T0 → T1 → T2 → Prop
  | 0 => fun _ _ _ => False
  | n + 1 => F (fx_lp3 F n)
def fx_wh3 {T0 T1 T2 : Type} (F : (T0 → T1 → T2 → Prop) → T0 → T1 → T2 → Prop) (x0 : T0) (x1 : T1) (x2 : T2) : Prop := ∃ n, fx_lp3 F n x0 x1 x2
theorem fx_loop3 {T0 T1 T2 : Type} {F : (T0 → T1 → T2 → Prop) → T0 → T1 → T2 → Prop} {G : T0 → T1 → T2 → Prop} (step : ∀ rec : T0 → T1 → T2 → Prop, (∀ x0 x1 x2, rec x0 x1 x2 → G x0 x1 x2) → ∀ x0 x1 x2, F rec x0 x1 x2 → G x0 x1 x2) {x0 : T0} {x1 : T1} {x2 : T2} (h : fx_wh3 F x0 x1 x2) : G x0 x1 x2 := by
  obtain ⟨k, h⟩ := h
  induction k generalizing x0 x1 x2 with
  | zero => exact h.elim
  | succ k ih => exact step (fx_lp3 F k) (fun x0 x1 x2 q => ih q) x0 x1 x2 h
theorem fx_wh3_i {T0 T1 T2 : Type} {F : (T0 → T1 → T2 → Prop) → T0 → T1 → T2 → Prop} (I : T0 → T1 → T2 → Prop) (μ : T0 → T1 → T2 → Nat) (step : ∀ rec : T0 → T1 → T2 → Prop, ∀ x0 x1 x2, I x0 x1 x2 → (∀ x0' x1' x2', I x0' x1' x2' → μ x0' x1' x2' < μ x0 x1 x2 → rec x0' x1' x2') → F rec x0 x1 x2) (x0 : T0) (x1 : T1) (x2 : T2) (h : I x0 x1 x2) : fx_wh3 F x0 x1 x2 := by
  suffices hs : ∀ k x0 x1 x2, I x0 x1 x2 → μ x0 x1 x2 < k → fx_lp3 F k x0 x1 x2 from ⟨μ x0 x1 x2 + 1, hs _ x0 x1 x2 h (Nat.lt_succ_self _)⟩
  intro k
  induction k with
  | zero => intro x0 x1 x2 _ h; exact absurd h (Nat.not_lt_zero _)
  | succ k ih => intro x0 x1 x2 hI hm; exact step (fx_lp3 F k) x0 x1 x2 hI (fun x0' x1' x2' hI' hlt => ih x0' x1' x2' hI' (Nat.lt_of_lt_of_le hlt (Nat.le_of_lt_succ hm)))
/-- a place where roads meet -/
def fx_jn3 {T0 T1 T2 : Type} (K : T0 → T1 → T2 → Prop) (B : (T0 → T1 → T2 → Prop) → Prop) : Prop := B K
def fx_lp4 {T0 T1 T2 T3 : Type} (F : (T0 → T1 → T2 → T3 → Prop) → T0 → T1 → T2 → T3 → Prop) : Nat → T0 → T1 → T2 → T3 → Prop
  | 0 => fun _ _ _ _ => False
  | n + 1 => F (fx_lp4 F n)
def fx_wh4 {T0 T1 T2 T3 : Type} (F : (T0 → T1 → T2 → T3 → Prop) → T0 → T1 → T2 → T3 → Prop) (x0 : T0) (x1 : T1) (x2 : T2) (x3 : T3) : Prop := ∃ n, fx_lp4 F n x0 x1 x2 x3
theorem fx_loop4 {T0 T1 T2 T3 : Type} {F : (T0 → T1 → T2 → T3 → Prop) → T0 → T1 → T2 → T3 → Prop} {G : T0 → T1 → T2 → T3 → Prop} (step : ∀ rec : T0 → T1 → T2 → T3 → Prop, (∀ x0 x1 x2 x3, rec x0 x1 x2 x3 → G x0 x1 x2 x3) → ∀ x0 x1 x2 x3, F rec x0 x1 x2 x3 → G x0 x1 x2 x3) {x0 : T0} {x1 : T1} {x2 : T2} {x3 : T3} (h : fx_wh4 F x0 x1 x2 x3) : G x0 x1 x2 x3 := by
  obtain ⟨k, h⟩ := h
  induction k generalizing x0 x1 x2 x3 with
  | zero => exact h.elim
  | succ k ih => exact step (fx_lp4 F k) (fun x0 x1 x2 x3 q => ih q) x0 x1 x2 x3 h
theorem fx_wh4_i {T0 T1 T2 T3 : Type} {F : (T0 → T1 → T2 → T3 → Prop) → T0 → T1 → T2 → T3 → Prop} (I : T0 → T1 → T2 → T3 → Prop) (μ : T0 → T1 → T2 → T3 → Nat) (step : ∀ rec : T0 → T1 → T2 → T3 → Prop, ∀ x0 x1 x2 x3, I x0 x1 x2 x3 → (∀ x0' x1' x2' x3', I x0' x1' x2' x3' → μ x0' x1' x2' x3' < μ x0 x1 x2 x3 → rec x0' x1' x2' x3') → F rec x0 x1 x2 x3) (x0 : T0) (x1 : T1) (x2 : T2) (x3 : T3) (h : I x0 x1 x2 x3) : fx_wh4 F x0 x1 x2 x3 := by
  suffices hs : ∀ k x0 x1 x2 x3, I x0 x1 x2 x3 → μ x0 x1 x2 x3 < k → fx_lp4 F k x0 x1 x2 x3 from ⟨μ x0 x1 x2 x3 + 1, hs _ x0 x1 x2 x3 h (Nat.lt_succ_self _)⟩
  intro k
  induction k with
  | zero => intro x0 x1 x2 x3 _ h; exact absurd h (Nat.not_lt_zero _)
  | succ k ih => intro x0 x1 x2 x3 hI hm; exact step (fx_lp4 F k) x0 x1 x2 x3 hI (fun x0' x1' x2' x3' hI' hlt => ih x0' x1' x2' x3' hI' (Nat.lt_of_lt_of_le hlt (Nat.le_of_lt_succ hm)))
/-- a place where roads meet -/
def fx_jn4 {T0 T1 T2 T3 : Type} (K : T0 → T1 → T2 → T3 → Prop) (B : (T0 → T1 → T2 → T3 → Prop) → Prop) : Prop := B K
def fx_lp5 {T0 T1 T2 T3 T4 : Type} (F : (T0 → T1 → T2 → T3 → T4 → Prop) → T0 → T1 → T2 → T3 → T4 → Prop) : Nat → T0 → T1 → T2 → T3 → T4 → Prop
  | 0 => fun _ _ _ _ _ => False
  | n + 1 => F (fx_lp5 F n)
def fx_wh5 {T0 T1 T2 T3 T4 : Type} (F : (T0 → T1 → T2 → T3 → T4 → Prop) → T0 → T1 → T2 → T3 → T4 → Prop) (x0 : T0) (x1 : T1) (x2 : T2) (x3 : T3) (x4 : T4) : Prop := ∃ n, fx_lp5 F n x0 x1 x2 x3 x4
theorem fx_loop5 {T0 T1 T2 T3 T4 : Type} {F : (T0 → T1 → T2 → T3 → T4 → Prop) → T0 → T1 → T2 → T3 → T4 → Prop} {G : T0 → T1 → T2 → T3 → T4 → Prop} (step : ∀ rec : T0 → T1 → T2 → T3 → T4 → Prop, (∀ x0 x1 x2 x3 x4, rec x0 x1 x2 x3 x4 → G x0 x1 x2 x3 x4) → ∀ x0 x1 x2 x3 x4, F rec x0 x1 x2 x3 x4 → G x0 x1 x2 x3 x4) {x0 : T0} {x1 : T1} {x2 : T2} {x3 : T3} {x4 : T4} (h : fx_wh5 F x0 x1 x2 x3 x4) : G x0 x1 x2 x3 x4 := by
  obtain ⟨k, h⟩ := h
  induction k generalizing x0 x1 x2 x3 x4 with
  | zero => exact h.elim
  | succ k ih => exact step (fx_lp5 F k) (fun x0 x1 x2 x3 x4 q => ih q) x0 x1 x2 x3 x4 h
theorem fx_wh5_i {T0 T1 T2 T3 T4 : Type} {F : (T0 → T1 → T2 → T3 → T4 → Prop) → T0 → T1 → T2 → T3 → T4 → Prop} (I : T0 → T1 → T2 → T3 → T4 → Prop) (μ : T0 → T1 → T2 → T3 → T4 → Nat) (step : ∀ rec : T0 → T1 → T2 → T3 → T4 → Prop, ∀ x0 x1 x2 x3 x4, I x0 x1 x2 x3 x4 → (∀ x0' x1' x2' x3' x4', I x0' x1' x2' x3' x4' → μ x0' x1' x2' x3' x4' < μ x0 x1 x2 x3 x4 → rec x0' x1' x2' x3' x4') → F rec x0 x1 x2 x3 x4) (x0 : T0) (x1 : T1) (x2 : T2) (x3 : T3) (x4 : T4) (h : I x0 x1 x2 x3 x4) : fx_wh5 F x0 x1 x2 x3 x4 := by
  suffices hs : ∀ k x0 x1 x2 x3 x4, I x0 x1 x2 x3 x4 → μ x0 x1 x2 x3 x4 < k → fx_lp5 F k x0 x1 x2 x3 x4 from ⟨μ x0 x1 x2 x3 x4 + 1, hs _ x0 x1 x2 x3 x4 h (Nat.lt_succ_self _)⟩
  intro k
  induction k with
  | zero => intro x0 x1 x2 x3 x4 _ h; exact absurd h (Nat.not_lt_zero _)
  | succ k ih => intro x0 x1 x2 x3 x4 hI hm; exact step (fx_lp5 F k) x0 x1 x2 x3 x4 hI (fun x0' x1' x2' x3' x4' hI' hlt => ih x0' x1' x2' x3' x4' hI' (Nat.lt_of_lt_of_le hlt (Nat.le_of_lt_succ hm)))
/-- a place where roads meet -/
def fx_jn5 {T0 T1 T2 T3 T4 : Type} (K : T0 → T1 → T2 → T3 → T4 → Prop) (B : (T0 → T1 → T2 → T3 → T4 → Prop) → Prop) : Prop := B K
def fx_lp6 {T0 T1 T2 T3 T4 T5 : Type} (F : (T0 → T1 → T2 → T3 → T4 → T5 → Prop) → T0 → T1 → T2 → T3 → T4 → T5 → Prop) : Nat → T0 → T1 → T2 → T3 → T4 → T5 → Prop
  | 0 => fun _ _ _ _ _ _ => False
  | n + 1 => F (fx_lp6 F n)
def fx_wh6 {T0 T1 T2 T3 T4 T5 : Type} (F : (T0 → T1 → T2 → T3 → T4 → T5 → Prop) → T0 → T1 → T2 → T3 → T4 → T5 → Prop) (x0 : T0) (x1 : T1) (x2 : T2) (x3 : T3) (x4 : T4) (x5 : T5) : Prop := ∃ n, fx_lp6 F n x0 x1 x2 x3 x4 x5
theorem fx_loop6 {T0 T1 T2 T3 T4 T5 : Type} {F : (T0 → T1 → T2 → T3 → T4 → T5 → Prop) → T0 → T1 → T2 → T3 → T4 → T5 → Prop} {G : T0 → T1 → T2 → T3 → T4 → T5 → Prop} (step : ∀ rec : T0 → T1 → T2 → T3 → T4 → T5 → Prop, (∀ x0 x1 x2 x3 x4 x5, rec x0 x1 x2 x3 x4 x5 → G x0 x1 x2 x3 x4 x5) → ∀ x0 x1 x2 x3 x4 x5, F rec x0 x1 x2 x3 x4 x5 → G x0 x1 x2 x3 x4 x5) {x0 : T0} {x1 : T1} {x2 : T2} {x3 : T3} {x4 : T4} {x5 : T5} (h : fx_wh6 F x0 x1 x2 x3 x4 x5) : G x0 x1 x2 x3 x4 x5 := by
  obtain ⟨k, h⟩ := h
  induction k generalizing x0 x1 x2 x3 x4 x5 with
  | zero => exact h.elim
  | succ k ih => exact step (fx_lp6 F k) (fun x0 x1 x2 x3 x4 x5 q => ih q) x0 x1 x2 x3 x4 x5 h
theorem fx_wh6_i {T0 T1 T2 T3 T4 T5 : Type} {F : (T0 → T1 → T2 → T3 → T4 → T5 → Prop) → T0 → T1 → T2 → T3 → T4 → T5 → Prop} (I : T0 → T1 → T2 → T3 → T4 → T5 → Prop) (μ : T0 → T1 → T2 → T3 → T4 → T5 → Nat) (step : ∀ rec : T0 → T1 → T2 → T3 → T4 → T5 → Prop, ∀ x0 x1 x2 x3 x4 x5, I x0 x1 x2 x3 x4 x5 → (∀ x0' x1' x2' x3' x4' x5', I x0' x1' x2' x3' x4' x5' → μ x0' x1' x2' x3' x4' x5' < μ x0 x1 x2 x3 x4 x5 → rec x0' x1' x2' x3' x4' x5') → F rec x0 x1 x2 x3 x4 x5) (x0 : T0) (x1 : T1) (x2 : T2) (x3 : T3) (x4 : T4) (x5 : T5) (h : I x0 x1 x2 x3 x4 x5) : fx_wh6 F x0 x1 x2 x3 x4 x5 := by
  suffices hs : ∀ k x0 x1 x2 x3 x4 x5, I x0 x1 x2 x3 x4 x5 → μ x0 x1 x2 x3 x4 x5 < k → fx_lp6 F k x0 x1 x2 x3 x4 x5 from ⟨μ x0 x1 x2 x3 x4 x5 + 1, hs _ x0 x1 x2 x3 x4 x5 h (Nat.lt_succ_self _)⟩
  intro k
  induction k with
  | zero => intro x0 x1 x2 x3 x4 x5 _ h; exact absurd h (Nat.not_lt_zero _)
  | succ k ih => intro x0 x1 x2 x3 x4 x5 hI hm; exact step (fx_lp6 F k) x0 x1 x2 x3 x4 x5 hI (fun x0' x1' x2' x3' x4' x5' hI' hlt => ih x0' x1' x2' x3' x4' x5' hI' (Nat.lt_of_lt_of_le hlt (Nat.le_of_lt_succ hm)))
/-- a place where roads meet -/
def fx_jn6 {T0 T1 T2 T3 T4 T5 : Type} (K : T0 → T1 → T2 → T3 → T4 → T5 → Prop) (B : (T0 → T1 → T2 → T3 → T4 → T5 → Prop) → Prop) : Prop := B K
def fx_lp7 {T0 T1 T2 T3 T4 T5 T6 : Type} (F : (T0 → T1 → T2 → T3 → T4 → T5 → T6 → Prop) → T0 → T1 → T2 → T3 → T4 → T5 → T6 → Prop) : Nat → T0 → T1 → T2 → T3 → T4 → T5 → T6 → Prop
  | 0 => fun _ _ _ _ _ _ _ => False
  | n + 1 => F (fx_lp7 F n)
def fx_wh7 {T0 T1 T2 T3 T4 T5 T6 : Type} (F : (T0 → T1 → T2 → T3 → T4 → T5 → T6 → Prop) → T0 → T1 → T2 → T3 → T4 → T5 → T6 → Prop) (x0 : T0) (x1 : T1) (x2 : T2) (x3 : T3) (x4 : T4) (x5 : T5) (x6 : T6) : Prop := ∃ n, fx_lp7 F n x0 x1 x2 x3 x4 x5 x6
theorem fx_loop7 {T0 T1 T2 T3 T4 T5 T6 : Type} {F : (T0 → T1 → T2 → T3 → T4 → T5 → T6 → Prop) → T0 → T1 → T2 → T3 → T4 → T5 → T6 → Prop} {G : T0 → T1 → T2 → T3 → T4 → T5 → T6 → Prop} (step : ∀ rec : T0 → T1 → T2 → T3 → T4 → T5 → T6 → Prop, (∀ x0 x1 x2 x3 x4 x5 x6, rec x0 x1 x2 x3 x4 x5 x6 → G x0 x1 x2 x3 x4 x5 x6) → ∀ x0 x1 x2 x3 x4 x5 x6, F rec x0 x1 x2 x3 x4 x5 x6 → G x0 x1 x2 x3 x4 x5 x6) {x0 : T0} {x1 : T1} {x2 : T2} {x3 : T3} {x4 : T4} {x5 : T5} {x6 : T6} (h : fx_wh7 F x0 x1 x2 x3 x4 x5 x6) : G x0 x1 x2 x3 x4 x5 x6 := by
  obtain ⟨k, h⟩ := h
  induction k generalizing x0 x1 x2 x3 x4 x5 x6 with
  | zero => exact h.elim
  | succ k ih => exact step (fx_lp7 F k) (fun x0 x1 x2 x3 x4 x5 x6 q => ih q) x0 x1 x2 x3 x4 x5 x6 h
theorem fx_wh7_i {T0 T1 T2 T3 T4 T5 T6 : Type} {F : (T0 → T1 → T2 → T3 → T4 → T5 → T6 → Prop) → T0 → T1 → T2 → T3 → T4 → T5 → T6 → Prop} (I : T0 → T1 → T2 → T3 → T4 → T5 → T6 → Prop) (μ : T0 → T1 → T2 → T3 → T4 → T5 → T6 → Nat) (step : ∀ rec : T0 → T1 → T2 → T3 → T4 → T5 → T6 → Prop, ∀ x0 x1 x2 x3 x4 x5 x6, I x0 x1 x2 x3 x4 x5 x6 → (∀ x0' x1' x2' x3' x4' x5' x6', I x0' x1' x2' x3' x4' x5' x6' → μ x0' x1' x2' x3' x4' x5' x6' < μ x0 x1 x2 x3 x4 x5 x6 → rec x0' x1' x2' x3' x4' x5' x6') → F rec x0 x1 x2 x3 x4 x5 x6) (x0 : T0) (x1 : T1) (x2 : T2) (x3 : T3) (x4 : T4) (x5 : T5) (x6 : T6) (h : I x0 x1 x2 x3 x4 x5 x6) : fx_wh7 F x0 x1 x2 x3 x4 x5 x6 := by
  suffices hs : ∀ k x0 x1 x2 x3 x4 x5 x6, I x0 x1 x2 x3 x4 x5 x6 → μ x0 x1 x2 x3 x4 x5 x6 < k → fx_lp7 F k x0 x1 x2 x3 x4 x5 x6 from ⟨μ x0 x1 x2 x3 x4 x5 x6 + 1, hs _ x0 x1 x2 x3 x4 x5 x6 h (Nat.lt_succ_self _)⟩
  intro k
  induction k with
  | zero => intro x0 x1 x2 x3 x4 x5 x6 _ h; exact absurd h (Nat.not_lt_zero _)
  | succ k ih => intro x0 x1 x2 x3 x4 x5 x6 hI hm; exact step (fx_lp7 F k) x0 x1 x2 x3 x4 x5 x6 hI (fun x0' x1' x2' x3' x4' x5' x6' hI' hlt => ih x0' x1' x2' x3' x4' x5' x6' hI' (Nat.lt_of_lt_of_le hlt (Nat.le_of_lt_succ hm)))
/-- a place where roads meet -/
def fx_jn7 {T0 T1 T2 T3 T4 T5 T6 : Type} (K : T0 → T1 → T2 → T3 → T4 → T5 → T6 → Prop) (B : (T0 → T1 → T2 → T3 → T4 → T5 → T6 → Prop) → Prop) : Prop := B K
def fx_lp8 {T0 T1 T2 T3 T4 T5 T6 T7 : Type} (F : (T0 → T1 → T2 → T3 → T4 → T5 → T6 → T7 → Prop) → T0 → T1 → T2 → T3 → T4 → T5 → T6 → T7 → Prop) : Nat → T0 → T1 → T2 → T3 → T4 → T5 → T6 → T7 → Prop
  | 0 => fun _ _ _ _ _ _ _ _ => False
  | n + 1 => F (fx_lp8 F n)
def fx_wh8 {T0 T1 T2 T3 T4 T5 T6 T7 : Type} (F : (T0 → T1 → T2 → T3 → T4 → T5 → T6 → T7 → Prop) → T0 → T1 → T2 → T3 → T4 → T5 → T6 → T7 → Prop) (x0 : T0) (x1 : T1) (x2 : T2) (x3 : T3) (x4 : T4) (x5 : T5) (x6 : T6) (x7 : T7) : Prop := ∃ n, fx_lp8 F n x0 x1 x2 x3 x4 x5 x6 x7
theorem fx_loop8 {T0 T1 T2 T3 T4 T5 T6 T7 : Type} {F : (T0 → T1 → T2 → T3 → T4 → T5 → T6 → T7 → Prop) → T0 → T1 → T2 → T3 → T4 → T5 → T6 → T7 → Prop} {G : T0 → T1 → T2 → T3 → T4 → T5 → T6 → T7 → Prop} (step : ∀ rec : T0 → T1 → T2 → T3 → T4 → T5 → T6 → T7 → Prop, (∀ x0 x1 x2 x3 x4 x5 x6 x7, rec x0 x1 x2 x3 x4 x5 x6 x7 → G x0 x1 x2 x3 x4 x5 x6 x7) → ∀ x0 x1 x2 x3 x4 x5 x6 x7, F rec x0 x1 x2 x3 x4 x5 x6 x7 → G x0 x1 x2 x3 x4 x5 x6 x7) {x0 : T0} {x1 : T1} {x2 : T2} {x3 : T3} {x4 : T4} {x5 : T5} {x6 : T6} {x7 : T7} (h : fx_wh8 F x0 x1 x2 x3 x4 x5 x6 x7) : G x0 x1 x2 x3 x4 x5 x6 x7 := by
  obtain ⟨k, h⟩ := h
  induction k generalizing x0 x1 x2 x3 x4 x5 x6 x7 with
  | zero => exact h.elim
  | succ k ih => exact step (fx_lp8 F k) (fun x0 x1 x2 x3 x4 x5 x6 x7 q => ih q) x0 x1 x2 x3 x4 x5 x6 x7 h
theorem fx_wh8_i {T0 T1 T2 T3 T4 T5 T6 T7 : Type} {F : (T0 → T1 → T2 → T3 → T4 → T5 → T6 → T7 → Prop) → T0 → T1 → T2 → T3 → T4 → T5 → T6 → T7 → Prop} (I : T0 → T1 → T2 → T3 → T4 → T5 → T6 → T7 → Prop) (μ : T0 → T1 → T2 → T3 → T4 → T5 → T6 → T7 → Nat) (step : ∀ rec : T0 → T1 → T2 → T3 → T4 → T5 → T6 → T7 → Prop, ∀ x0 x1 x2 x3 x4 x5 x6 x7, I x0 x1 x2 x3 x4 x5 x6 x7 → (∀ x0' x1' x2' x3' x4' x5' x6' x7', I x0' x1' x2' x3' x4' x5' x6' x7' → μ x0' x1' x2' x3' x4' x5' x6' x7' < μ x0 x1 x2 x3 x4 x5 x6 x7 → rec x0' x1' x2' x3' x4' x5' x6' x7') → F rec x0 x1 x2 x3 x4 x5 x6 x7) (x0 : T0) (x1 : T1) (x2 : T2) (x3 : T3) (x4 : T4) (x5 : T5) (x6 : T6) (x7 : T7) (h : I x0 x1 x2 x3 x4 x5 x6 x7) : fx_wh8 F x0 x1 x2 x3 x4 x5 x6 x7 := by
  suffices hs : ∀ k x0 x1 x2 x3 x4 x5 x6 x7, I x0 x1 x2 x3 x4 x5 x6 x7 → μ x0 x1 x2 x3 x4 x5 x6 x7 < k → fx_lp8 F k x0 x1 x2 x3 x4 x5 x6 x7 from ⟨μ x0 x1 x2 x3 x4 x5 x6 x7 + 1, hs _ x0 x1 x2 x3 x4 x5 x6 x7 h (Nat.lt_succ_self _)⟩
  intro k
  induction k with
  | zero => intro x0 x1 x2 x3 x4 x5 x6 x7 _ h; exact absurd h (Nat.not_lt_zero _)
  | succ k ih => intro x0 x1 x2 x3 x4 x5 x6 x7 hI hm; exact step (fx_lp8 F k) x0 x1 x2 x3 x4 x5 x6 x7 hI (fun x0' x1' x2' x3' x4' x5' x6' x7' hI' hlt => ih x0' x1' x2' x3' x4' x5' x6' x7' hI' (Nat.lt_of_lt_of_le hlt (Nat.le_of_lt_succ hm)))
/-- a place where roads meet -/
def fx_jn8 {T0 T1 T2 T3 T4 T5 T6 T7 : Type} (K : T0 → T1 → T2 → T3 → T4 → T5 → T6 → T7 → Prop) (B : (T0 → T1 → T2 → T3 → T4 → T5 → T6 → T7 → Prop) → Prop) : Prop := B K
def fx_lp9 {T0 T1 T2 T3 T4 T5 T6 T7 T8 : Type} (F : (T0 → T1 → T2 → T3 → T4 → T5 → T6 → T7 → T8 → Prop) → T0 → T1 → T2 → T3 → T4 → T5 → T6 → T7 → T8 → Prop) : Nat → T0 → T1 → T2 → T3 → T4 → T5 → T6 → T7 → T8 → Prop
  | 0 => fun _ _ _ _ _ _ _ _ _ => False
  | n + 1 => F (fx_lp9 F n)
def fx_wh9 {T0 T1 T2 T3 T4 T5 T6 T7 T8 : Type} (F : (T0 → T1 → T2 → T3 → T4 → T5 → T6 → T7 → T8 → Prop) → T0 → T1 → T2 → T3 → T4 → T5 → T6 → T7 → T8 → Prop) (x0 : T0) (x1 : T1) (x2 : T2) (x3 : T3) (x4 : T4) (x5 : T5) (x6 : T6) (x7 : T7) (x8 : T8) : Prop := ∃ n, fx_lp9 F n x0 x1 x2 x3 x4 x5 x6 x7 x8
theorem fx_loop9 {T0 T1 T2 T3 T4 T5 T6 T7 T8 : Type} {F : (T0 → T1 → T2 → T3 → T4 → T5 → T6 → T7 → T8 → Prop) → T0 → T1 → T2 → T3 → T4 → T5 → T6 → T7 → T8 → Prop} {G : T0 → T1 → T2 → T3 → T4 → T5 → T6 → T7 → T8 → Prop} (step : ∀ rec : T0 → T1 → T2 → T3 → T4 → T5 → T6 → T7 → T8 → Prop, (∀ x0 x1 x2 x3 x4 x5 x6 x7 x8, rec x0 x1 x2 x3 x4 x5 x6 x7 x8 → G x0 x1 x2 x3 x4 x5 x6 x7 x8) → ∀ x0 x1 x2 x3 x4 x5 x6 x7 x8, F rec x0 x1 x2 x3 x4 x5 x6 x7 x8 → G x0 x1 x2 x3 x4 x5 x6 x7 x8) {x0 : T0} {x1 : T1} {x2 : T2} {x3 : T3} {x4 : T4} {x5 : T5} {x6 : T6} {x7 : T7} {x8 : T8} (h : fx_wh9 F x0 x1 x2 x3 x4 x5 x6 x7 x8) : G x0 x1 x2 x3 x4 x5 x6 x7 x8 := by
  obtain ⟨k, h⟩ := h
  induction k generalizing x0 x1 x2 x3 x4 x5 x6 x7 x8 with
  | zero => exact h.elim
  | succ k ih => exact step (fx_lp9 F k) (fun x0 x1 x2 x3 x4 x5 x6 x7 x8 q => ih q) x0 x1 x2 x3 x4 x5 x6 x7 x8 h
theorem fx_wh9_i {T0 T1 T2 T3 T4 T5 T6 T7 T8 : Type} {F : (T0 → T1 → T2 → T3 → T4 → T5 → T6 → T7 → T8 → Prop) → T0 → T1 → T2 → T3 → T4 → T5 → T6 → T7 → T8 → Prop} (I : T0 → T1 → T2 → T3 → T4 → T5 → T6 → T7 → T8 → Prop) (μ : T0 → T1 → T2 → T3 → T4 → T5 → T6 → T7 → T8 → Nat) (step : ∀ rec : T0 → T1 → T2 → T3 → T4 → T5 → T6 → T7 → T8 → Prop, ∀ x0 x1 x2 x3 x4 x5 x6 x7 x8, I x0 x1 x2 x3 x4 x5 x6 x7 x8 → (∀ x0' x1' x2' x3' x4' x5' x6' x7' x8', I x0' x1' x2' x3' x4' x5' x6' x7' x8' → μ x0' x1' x2' x3' x4' x5' x6' x7' x8' < μ x0 x1 x2 x3 x4 x5 x6 x7 x8 → rec x0' x1' x2' x3' x4' x5' x6' x7' x8') → F rec x0 x1 x2 x3 x4 x5 x6 x7 x8) (x0 : T0) (x1 : T1) (x2 : T2) (x3 : T3) (x4 : T4) (x5 : T5) (x6 : T6) (x7 : T7) (x8 : T8) (h : I x0 x1 x2 x3 x4 x5 x6 x7 x8) : fx_wh9 F x0 x1 x2 x3 x4 x5 x6 x7 x8 := by
  suffices hs : ∀ k x0 x1 x2 x3 x4 x5 x6 x7 x8, I x0 x1 x2 x3 x4 x5 x6 x7 x8 → μ x0 x1 x2 x3 x4 x5 x6 x7 x8 < k → fx_lp9 F k x0 x1 x2 x3 x4 x5 x6 x7 x8 from ⟨μ x0 x1 x2 x3 x4 x5 x6 x7 x8 + 1, hs _ x0 x1 x2 x3 x4 x5 x6 x7 x8 h (Nat.lt_succ_self _)⟩
  intro k
  induction k with
  | zero => intro x0 x1 x2 x3 x4 x5 x6 x7 x8 _ h; exact absurd h (Nat.not_lt_zero _)
  | succ k ih => intro x0 x1 x2 x3 x4 x5 x6 x7 x8 hI hm; exact step (fx_lp9 F k) x0 x1 x2 x3 x4 x5 x6 x7 x8 hI (fun x0' x1' x2' x3' x4' x5' x6' x7' x8' hI' hlt => ih x0' x1' x2' x3' x4' x5' x6' x7' x8' hI' (Nat.lt_of_lt_of_le hlt (Nat.le_of_lt_succ hm)))
/-- a place where roads meet -/
def fx_jn9 {T0 T1 T2 T3 T4 T5 T6 T7 T8 : Type} (K : T0 → T1 → T2 → T3 → T4 → T5 → T6 → T7 → T8 → Prop) (B : (T0 → T1 → T2 → T3 → T4 → T5 → T6 → T7 → T8 → Prop) → Prop) : Prop := B K
def fx_lp10 {T0 T1 T2 T3 T4 T5 T6 T7 T8 T9 : Type} (F : (T0 → T1 → T2 → T3 → T4 → T5 → T6 → T7 → T8 → T9 → Prop) → T0 → T1 → T2 → T3 → T4 → T5 → T6 → T7 → T8 → T9 → Prop) : Nat → T0 → T1 → T2 → T3 → T4 → T5 → T6 → T7 → T8 → T9 → Prop
  | 0 => fun _ _ _ _ _ _ _ _ _ _ => False
  | n + 1 => F (fx_lp10 F n)
def fx_wh10 {T0 T1 T2 T3 T4 T5 T6 T7 T8 T9 : Type} (F : (T0 → T1 → T2 → T3 → T4 → T5 → T6 → T7 → T8 → T9 → Prop) → T0 → T1 → T2 → T3 → T4 → T5 → T6 → T7 → T8 → T9 → Prop) (x0 : T0) (x1 : T1) (x2 : T2) (x3 : T3) (x4 : T4) (x5 : T5) (x6 : T6) (x7 : T7) (x8 : T8) (x9 : T9) : Prop := ∃ n, fx_lp10 F n x0 x1 x2 x3 x4 x5 x6 x7 x8 x9
theorem fx_loop10 {T0 T1 T2 T3 T4 T5 T6 T7 T8 T9 : Type} {F : (T0 → T1 → T2 → T3 → T4 → T5 → T6 → T7 → T8 → T9 → Prop) → T0 → T1 → T2 → T3 → T4 → T5 → T6 → T7 → T8 → T9 → Prop} {G : T0 → T1 → T2 → T3 → T4 → T5 → T6 → T7 → T8 → T9 → Prop} (step : ∀ rec : T0 → T1 → T2 → T3 → T4 → T5 → T6 → T7 → T8 → T9 → Prop, (∀ x0 x1 x2 x3 x4 x5 x6 x7 x8 x9, rec x0 x1 x2 x3 x4 x5 x6 x7 x8 x9 → G x0 x1 x2 x3 x4 x5 x6 x7 x8 x9) → ∀ x0 x1 x2 x3 x4 x5 x6 x7 x8 x9, F rec x0 x1 x2 x3 x4 x5 x6 x7 x8 x9 → G x0 x1 x2 x3 x4 x5 x6 x7 x8 x9) {x0 : T0} {x1 : T1} {x2 : T2} {x3 : T3} {x4 : T4} {x5 : T5} {x6 : T6} {x7 : T7} {x8 : T8} {x9 : T9} (h : fx_wh10 F x0 x1 x2 x3 x4 x5 x6 x7 x8 x9) : G x0 x1 x2 x3 x4 x5 x6 x7 x8 x9 := by
  obtain ⟨k, h⟩ := h
  induction k generalizing x0 x1 x2 x3 x4 x5 x6 x7 x8 x9 with
  | zero => exact h.elim
  | succ k ih => exact step (fx_lp10 F k) (fun x0 x1 x2 x3 x4 x5 x6 x7 x8 x9 q => ih q) x0 x1 x2 x3 x4 x5 x6 x7 x8 x9 h
theorem fx_wh10_i {T0 T1 T2 T3 T4 T5 T6 T7 T8 T9 : Type} {F : (T0 → T1 → T2 → T3 → T4 → T5 → T6 → T7 → T8 → T9 → Prop) → T0 → T1 → T2 → T3 → T4 → T5 → T6 → T7 → T8 → T9 → Prop} (I : T0 → T1 → T2 → T3 → T4 → T5 → T6 → T7 → T8 → T9 → Prop) (μ : T0 → T1 → T2 → T3 → T4 → T5 → T6 → T7 → T8 → T9 → Nat) (step : ∀ rec : T0 → T1 → T2 → T3 → T4 → T5 → T6 → T7 → T8 → T9 → Prop, ∀ x0 x1 x2 x3 x4 x5 x6 x7 x8 x9, I x0 x1 x2 x3 x4 x5 x6 x7 x8 x9 → (∀ x0' x1' x2' x3' x4' x5' x6' x7' x8' x9', I x0' x1' x2' x3' x4' x5' x6' x7' x8' x9' → μ x0' x1' x2' x3' x4' x5' x6' x7' x8' x9' < μ x0 x1 x2 x3 x4 x5 x6 x7 x8 x9 → rec x0' x1' x2' x3' x4' x5' x6' x7' x8' x9') → F rec x0 x1 x2 x3 x4 x5 x6 x7 x8 x9) (x0 : T0) (x1 : T1) (x2 : T2) (x3 : T3) (x4 : T4) (x5 : T5) (x6 : T6) (x7 : T7) (x8 : T8) (x9 : T9) (h : I x0 x1 x2 x3 x4 x5 x6 x7 x8 x9) : fx_wh10 F x0 x1 x2 x3 x4 x5 x6 x7 x8 x9 := by
  suffices hs : ∀ k x0 x1 x2 x3 x4 x5 x6 x7 x8 x9, I x0 x1 x2 x3 x4 x5 x6 x7 x8 x9 → μ x0 x1 x2 x3 x4 x5 x6 x7 x8 x9 < k → fx_lp10 F k x0 x1 x2 x3 x4 x5 x6 x7 x8 x9 from ⟨μ x0 x1 x2 x3 x4 x5 x6 x7 x8 x9 + 1, hs _ x0 x1 x2 x3 x4 x5 x6 x7 x8 x9 h (Nat.lt_succ_self _)⟩
  intro k
  induction k with
  | zero => intro x0 x1 x2 x3 x4 x5 x6 x7 x8 x9 _ h; exact absurd h (Nat.not_lt_zero _)
  | succ k ih => intro x0 x1 x2 x3 x4 x5 x6 x7 x8 x9 hI hm; exact step (fx_lp10 F k) x0 x1 x2 x3 x4 x5 x6 x7 x8 x9 hI (fun x0' x1' x2' x3' x4' x5' x6' x7' x8' x9' hI' hlt => ih x0' x1' x2' x3' x4' x5' x6' x7' x8' x9' hI' (Nat.lt_of_lt_of_le hlt (Nat.le_of_lt_succ hm)))
/-- a place where roads meet -/
def fx_jn10 {T0 T1 T2 T3 T4 T5 T6 T7 T8 T9 : Type} (K : T0 → T1 → T2 → T3 → T4 → T5 → T6 → T7 → T8 → T9 → Prop) (B : (T0 → T1 → T2 → T3 → T4 → T5 → T6 → T7 → T8 → T9 → Prop) → Prop) : Prop := B K
def fx_lp11 {T0 T1 T2 T3 T4 T5 T6 T7 T8 T9 T10 : Type} (F : (T0 → T1 → T2 → T3 → T4 → T5 → T6 → T7 → T8 → T9 → T10 → Prop) → T0 → T1 → T2 → T3 → T4 → T5 → T6 → T7 → T8 → T9 → T10 → Prop) : Nat → T0 → T1 → T2 → T3 → T4 → T5 → T6 → T7 → T8 → T9 → T10 → Prop
  | 0 => fun _ _ _ _ _ _ _ _ _ _ _ => False
  | n + 1 => F (fx_lp11 F n)
def fx_wh11 {T0 T1 T2 T3 T4 T5 T6 T7 T8 T9 T10 : Type} (F : (T0 → T1 → T2 → T3 → T4 → T5 → T6 → T7 → T8 → T9 → T10 → Prop) → T0 → T1 → T2 → T3 → T4 → T5 → T6 → T7 → T8 → T9 → T10 → Prop) (x0 : T0) (x1 : T1) (x2 : T2) (x3 : T3) (x4 : T4) (x5 : T5) (x6 : T6) (x7 : T7) (x8 : T8) (x9 : T9) (x10 : T10) : Prop := ∃ n, fx_lp11 F n x0 x1 x2 x3 x4 x5 x6 x7 x8 x9 x10
theorem fx_loop11 {T0 T1 T2 T3 T4 T5 T6 T7 T8 T9 T10 : Type} {F : (T0 → T1 → T2 → T3 → T4 → T5 → T6 → T7 → T8 → T9 → T10 → Prop) → T0 → T1 → T2 → T3 → T4 → T5 → T6 → T7 → T8 → T9 → T10 → Prop} {G : T0 → T1 → T2 → T3 → T4 → T5 → T6 → T7 → T8 → T9 → T10 → Prop} (step : ∀ rec : T0 → T1 → T2 → T3 → T4 → T5 → T6 → T7 → T8 → T9 → T10 → Prop, (∀ x0 x1 x2 x3 x4 x5 x6 x7 x8 x9 x10, rec x0 x1 x2 x3 x4 x5 x6 x7 x8 x9 x10 → G x0 x1 x2 x3 x4 x5 x6 x7 x8 x9 x10) → ∀ x0 x1 x2 x3 x4 x5 x6 x7 x8 x9 x10, F rec x0 x1 x2 x3 x4 x5 x6 x7 x8 x9 x10 → G x0 x1 x2 x3 x4 x5 x6 x7 x8 x9 x10) {x0 : T0} {x1 : T1} {x2 : T2} {x3 : T3} {x4 : T4} {x5 : T5} {x6 : T6} {x7 : T7} {x8 : T8} {x9 : T9} {x10 : T10} (h : fx_wh11 F x0 x1 x2 x3 x4 x5 x6 x7 x8 x9 x10) : G x0 x1 x2 x3 x4 x5 x6 x7 x8 x9 x10 := by
  obtain ⟨k, h⟩ := h
  induction k generalizing x0 x1 x2 x3 x4 x5 x6 x7 x8 x9 x10 with
  | zero => exact h.elim
  | succ k ih => exact step (fx_lp11 F k) (fun x0 x1 x2 x3 x4 x5 x6 x7 x8 x9 x10 q => ih q) x0 x1 x2 x3 x4 x5 x6 x7 x8 x9 x10 h
theorem fx_wh11_i {T0 T1 T2 T3 T4 T5 T6 T7 T8 T9 T10 : Type} {F : (T0 → T1 → T2 → T3 → T4 → T5 → T6 → T7 → T8 → T9 → T10 → Prop) → T0 → T1 → T2 → T3 → T4 → T5 → T6 → T7 → T8 → T9 → T10 → Prop} (I : T0 → T1 → T2 → T3 → T4 → T5 → T6 → T7 → T8 → T9 → T10 → Prop) (μ : T0 → T1 → T2 → T3 → T4 → T5 → T6 → T7 → T8 → T9 → T10 → Nat) (step : ∀ rec : T0 → T1 → T2 → T3 → T4 → T5 → T6 → T7 → T8 → T9 → T10 → Prop, ∀ x0 x1 x2 x3 x4 x5 x6 x7 x8 x9 x10, I x0 x1 x2 x3 x4 x5 x6 x7 x8 x9 x10 → (∀ x0' x1' x2' x3' x4' x5' x6' x7' x8' x9' x10', I x0' x1' x2' x3' x4' x5' x6' x7' x8' x9' x10' → μ x0' x1' x2' x3' x4' x5' x6' x7' x8' x9' x10' < μ x0 x1 x2 x3 x4 x5 x6 x7 x8 x9 x10 → rec x0' x1' x2' x3' x4' x5' x6' x7' x8' x9' x10') → F rec x0 x1 x2 x3 x4 x5 x6 x7 x8 x9 x10) (x0 : T0) (x1 : T1) (x2 : T2) (x3 : T3) (x4 : T4) (x5 : T5) (x6 : T6) (x7 : T7) (x8 : T8) (x9 : T9) (x10 : T10) (h : I x0 x1 x2 x3 x4 x5 x6 x7 x8 x9 x10) : fx_wh11 F x0 x1 x2 x3 x4 x5 x6 x7 x8 x9 x10 := by
  suffices hs : ∀ k x0 x1 x2 x3 x4 x5 x6 x7 x8 x9 x10, I x0 x1 x2 x3 x4 x5 x6 x7 x8 x9 x10 → μ x0 x1 x2 x3 x4 x5 x6 x7 x8 x9 x10 < k → fx_lp11 F k x0 x1 x2 x3 x4 x5 x6 x7 x8 x9 x10 from ⟨μ x0 x1 x2 x3 x4 x5 x6 x7 x8 x9 x10 + 1, hs _ x0 x1 x2 x3 x4 x5 x6 x7 x8 x9 x10 h (Nat.lt_succ_self _)⟩
  intro k
  induction k with
  | zero => intro x0 x1 x2 x3 x4 x5 x6 x7 x8 x9 x10 _ h; exact absurd h (Nat.not_lt_zero _)
  | succ k ih => intro x0 x1 x2 x3 x4 x5 x6 x7 x8 x9 x10 hI hm; exact step (fx_lp11 F k) x0 x1 x2 x3 x4 x5 x6 x7 x8 x9 x10 hI (fun x0' x1' x2' x3' x4' x5' x6' x7' x8' x9' x10' hI' hlt => ih x0' x1' x2' x3' x4' x5' x6' x7' x8' x9' x10' hI' (Nat.lt_of_lt_of_le hlt (Nat.le_of_lt_succ hm)))
/-- a place where roads meet -/
def fx_jn11 {T0 T1 T2 T3 T4 T5 T6 T7 T8 T9 T10 : Type} (K : T0 → T1 → T2 → T3 → T4 → T5 → T6 → T7 → T8 → T9 → T10 → Prop) (B : (T0 → T1 → T2 → T3 → T4 → T5 → T6 → T7 → T8 → T9 → T10 → Prop) → Prop) : Prop := B K
def fx_lp12 {T0 T1 T2 T3 T4 T5 T6 T7 T8 T9 T10 T11 : Type} (F : (T0 → T1 → T2 → T3 → T4 → T5 → T6 → T7 → T8 → T9 → T10 → T11 → Prop) → T0 → T1 → T2 → T3 → T4 → T5 → T6 → T7 → T8 → T9 → T10 → T11 → Prop) : Nat → T0 → T1 → T2 → T3 → T4 → T5 → T6 → T7 → T8 → T9 → T10 → T11 → Prop
  | 0 => fun _ _ _ _ _ _ _ _ _ _ _ _ => False
  | n + 1 => F (fx_lp12 F n)
def fx_wh12 {T0 T1 T2 T3 T4 T5 T6 T7 T8 T9 T10 T11 : Type} (F : (T0 → T1 → T2 → T3 → T4 → T5 → T6 → T7 → T8 → T9 → T10 → T11 → Prop) → T0 → T1 → T2 → T3 → T4 → T5 → T6 → T7 → T8 → T9 → T10 → T11 → Prop) (x0 : T0) (x1 : T1) (x2 : T2) (x3 : T3) (x4 : T4) (x5 : T5) (x6 : T6) (x7 : T7) (x8 : T8) (x9 : T9) (x10 : T10) (x11 : T11) : Prop := ∃ n, fx_lp12 F n x0 x1 x2 x3 x4 x5 x6 x7 x8 x9 x10 x11
theorem fx_loop12 {T0 T1 T2 T3 T4 T5 T6 T7 T8 T9 T10 T11 : Type} {F : (T0 → T1 → T2 → T3 → T4 → T5 → T6 → T7 → T8 → T9 → T10 → T11 → Prop) → T0 → T1 → T2 → T3 → T4 → T5 → T6 → T7 → T8 → T9 → T10 → T11 → Prop} {G : T0 → T1 → T2 → T3 → T4 → T5 → T6 → T7 → T8 → T9 → T10 → T11 → Prop} (step : ∀ rec : T0 → T1 → T2 → T3 → T4 → T5 → T6 → T7 → T8 → T9 → T10 → T11 → Prop, (∀ x0 x1 x2 x3 x4 x5 x6 x7 x8 x9 x10 x11, rec x0 x1 x2 x3 x4 x5 x6 x7 x8 x9 x10 x11 → G x0 x1 x2 x3 x4 x5 x6 x7 x8 x9 x10 x11) → ∀ x0 x1 x2 x3 x4 x5 x6 x7 x8 x9 x10 x11, F rec x0 x1 x2 x3 x4 x5 x6 x7 x8 x9 x10 x11 → G x0 x1 x2 x3 x4 x5 x6 x7 x8 x9 x10 x11) {x0 : T0} {x1 : T1} {x2 : T2} {x3 : T3} {x4 : T4} {x5 : T5} {x6 : T6} {x7 : T7} {x8 : T8} {x9 : T9} {x10 : T10} {x11 : T11} (h : fx_wh12 F x0 x1 x2 x3 x4 x5 x6 x7 x8 x9 x10 x11) : G x0 x1 x2 x3 x4 x5 x6 x7 x8 x9 x10 x11 := by
  obtain ⟨k, h⟩ := h
  induction k generalizing x0 x1 x2 x3 x4 x5 x6 x7 x8 x9 x10 x11 with
  | zero => exact h.elim
  | succ k ih => exact step (fx_lp12 F k) (fun x0 x1 x2 x3 x4 x5 x6 x7 x8 x9 x10 x11 q => ih q) x0 x1 x2 x3 x4 x5 x6 x7 x8 x9 x10 x11 h
theorem fx_wh12_i {T0 T1 T2 T3 T4 T5 T6 T7 T8 T9 T10 T11 : Type} {F : (T0 → T1 → T2 → T3 → T4 → T5 → T6 → T7 → T8 → T9 → T10 → T11 → Prop) → T0 → T1 → T2 → T3 → T4 → T5 → T6 → T7 → T8 → T9 → T10 → T11 → Prop} (I : T0 → T1 → T2 → T3 → T4 → T5 → T6 → T7 → T8 → T9 → T10 → T11 → Prop) (μ : T0 → T1 → T2 → T3 → T4 → T5 → T6 → T7 → T8 → T9 → T10 → T11 → Nat) (step : ∀ rec : T0 → T1 → T2 → T3 → T4 → T5 → T6 → T7 → T8 → T9 → T10 → T11 → Prop, ∀ x0 x1 x2 x3 x4 x5 x6 x7 x8 x9 x10 x11, I x0 x1 x2 x3 x4 x5 x6 x7 x8 x9 x10 x11 → (∀ x0' x1' x2' x3' x4' x5' x6' x7' x8' x9' x10' x11', I x0' x1' x2' x3' x4' x5' x6' x7' x8' x9' x10' x11' → μ x0' x1' x2' x3' x4' x5' x6' x7' x8' x9' x10' x11' < μ x0 x1 x2 x3 x4 x5 x6 x7 x8 x9 x10 x11 → rec x0' x1' x2' x3' x4' x5' x6' x7' x8' x9' x10' x11') → F rec x0 x1 x2 x3 x4 x5 x6 x7 x8 x9 x10 x11) (x0 : T0) (x1 : T1) (x2 : T2) (x3 : T3) (x4 : T4) (x5 : T5) (x6 : T6) (x7 : T7) (x8 : T8) (x9 : T9) (x10 : T10) (x11 : T11) (h : I x0 x1 x2 x3 x4 x5 x6 x7 x8 x9 x10 x11) : fx_wh12 F x0 x1 x2 x3 x4 x5 x6 x7 x8 x9 x10 x11 := by
  suffices hs : ∀ k x0 x1 x2 x3 x4 x5 x6 x7 x8 x9 x10 x11, I x0 x1 x2 x3 x4 x5 x6 x7 x8 x9 x10 x11 → μ x0 x1 x2 x3 x4 x5 x6 x7 x8 x9 x10 x11 < k → fx_lp12 F k x0 x1 x2 x3 x4 x5 x6 x7 x8 x9 x10 x11 from ⟨μ x0 x1 x2 x3 x4 x5 x6 x7 x8 x9 x10 x11 + 1, hs _ x0 x1 x2 x3 x4 x5 x6 x7 x8 x9 x10 x11 h (Nat.lt_succ_self _)⟩
  intro k
  induction k with
  | zero => intro x0 x1 x2 x3 x4 x5 x6 x7 x8 x9 x10 x11 _ h; exact absurd h (Nat.not_lt_zero _)
  | succ k ih => intro x0 x1 x2 x3 x4 x5 x6 x7 x8 x9 x10 x11 hI hm; exact step (fx_lp12 F k) x0 x1 x2 x3 x4 x5 x6 x7 x8 x9 x10 x11 hI (fun x0' x1' x2' x3' x4' x5' x6' x7' x8' x9' x10' x11' hI' hlt => ih x0' x1' x2' x3' x4' x5' x6' x7' x8' x9' x10' x11' hI' (Nat.lt_of_lt_of_le hlt (Nat.le_of_lt_succ hm)))
/-- a place where roads meet -/
def fx_jn12 {T0 T1 T2 T3 T4 T5 T6 T7 T8 T9 T10 T11 : Type} (K : T0 → T1 → T2 → T3 → T4 → T5 → T6 → T7 → T8 → T9 → T10 → T11 → Prop) (B : (T0 → T1 → T2 → T3 → T4 → T5 → T6 → T7 → T8 → T9 → T10 → T11 → Prop) → Prop) : Prop := B K
def fx_jn0 (K : Prop) (B : Prop → Prop) : Prop := B K
def fx_lp0 (F : Prop → Prop) : Nat → Prop
  | 0 => False
  | n + 1 => F (fx_lp0 F n)
section FXR
variable {p : Program} {l : Launch} {e : Env} {R : Room} {s : State} {m : MethodId} {args : Array Value} {below : List Frame} {meth : Method} {c : Code} {H : Heap} {locs : List Loc} {cells slots : Nat} {Q : State → Prop}
variable {cc : ByteArray} {pc : Nat} {ls : Array Slot} {rest : List Value} {D : va_G} {cl : List vw_C} {A : Nat → Prop} {a : Nat} {tys : List (ClassId × FieldType)} {ws : va_W} {H0 : Heap}
theorem fx_join0 {K : Prop} {B : (Prop) → Prop} {G : Room → Array Value → (State → Prop) → Prop} {g : JFrame} (h : fx_jn0 K B) (hK : K  → G  R args Q) (hB : ∀ K' : Prop, (K'  → G  R args Q) → B K' → W p l e R s m args below meth c H locs cells slots Q g) : W p l e R s m args below meth c H locs cells slots Q g := hB K hK h
theorem fx_join1 {T0 : Type} {K : T0 → Prop} {B : (T0 → Prop) → Prop} {G : T0 → Room → Array Value → (State → Prop) → Prop} {g : JFrame} (h : fx_jn1 K B) (hK : ∀ x0, K x0 → G x0 R args Q) (hB : ∀ K' : T0 → Prop, (∀ x0, K' x0 → G x0 R args Q) → B K' → W p l e R s m args below meth c H locs cells slots Q g) : W p l e R s m args below meth c H locs cells slots Q g := hB K hK h
theorem fx_join2 {T0 T1 : Type} {K : T0 → T1 → Prop} {B : (T0 → T1 → Prop) → Prop} {G : T0 → T1 → Room → Array Value → (State → Prop) → Prop} {g : JFrame} (h : fx_jn2 K B) (hK : ∀ x0 x1, K x0 x1 → G x0 x1 R args Q) (hB : ∀ K' : T0 → T1 → Prop, (∀ x0 x1, K' x0 x1 → G x0 x1 R args Q) → B K' → W p l e R s m args below meth c H locs cells slots Q g) : W p l e R s m args below meth c H locs cells slots Q g := hB K hK h
theorem fx_join3 {T0 T1 T2 : Type} {K : T0 → T1 → T2 → Prop} {B : (T0 → T1 → T2 → Prop) → Prop} {G : T0 → T1 → T2 → Room → Array Value → (State → Prop) → Prop} {g : JFrame} (h : fx_jn3 K B) (hK : ∀ x0 x1 x2, K x0 x1 x2 → G x0 x1 x2 R args Q) (hB : ∀ K' : T0 → T1 → T2 → Prop, (∀ x0 x1 x2, K' x0 x1 x2 → G x0 x1 x2 R args Q) → B K' → W p l e R s m args below meth c H locs cells slots Q g) : W p l e R s m args below meth c H locs cells slots Q g := hB K hK h
theorem fx_join4 {T0 T1 T2 T3 : Type} {K : T0 → T1 → T2 → T3 → Prop} {B : (T0 → T1 → T2 → T3 → Prop) → Prop} {G : T0 → T1 → T2 → T3 → Room → Array Value → (State → Prop) → Prop} {g : JFrame} (h : fx_jn4 K B) (hK : ∀ x0 x1 x2 x3, K x0 x1 x2 x3 → G x0 x1 x2 x3 R args Q) (hB : ∀ K' : T0 → T1 → T2 → T3 → Prop, (∀ x0 x1 x2 x3, K' x0 x1 x2 x3 → G x0 x1 x2 x3 R args Q) → B K' → W p l e R s m args below meth c H locs cells slots Q g) : W p l e R s m args below meth c H locs cells slots Q g := hB K hK h
theorem fx_join5 {T0 T1 T2 T3 T4 : Type} {K : T0 → T1 → T2 → T3 → T4 → Prop} {B : (T0 → T1 → T2 → T3 → T4 → Prop) → Prop} {G : T0 → T1 → T2 → T3 → T4 → Room → Array Value → (State → Prop) → Prop} {g : JFrame} (h : fx_jn5 K B) (hK : ∀ x0 x1 x2 x3 x4, K x0 x1 x2 x3 x4 → G x0 x1 x2 x3 x4 R args Q) (hB : ∀ K' : T0 → T1 → T2 → T3 → T4 → Prop, (∀ x0 x1 x2 x3 x4, K' x0 x1 x2 x3 x4 → G x0 x1 x2 x3 x4 R args Q) → B K' → W p l e R s m args below meth c H locs cells slots Q g) : W p l e R s m args below meth c H locs cells slots Q g := hB K hK h
theorem fx_join6 {T0 T1 T2 T3 T4 T5 : Type} {K : T0 → T1 → T2 → T3 → T4 → T5 → Prop} {B : (T0 → T1 → T2 → T3 → T4 → T5 → Prop) → Prop} {G : T0 → T1 → T2 → T3 → T4 → T5 → Room → Array Value → (State → Prop) → Prop} {g : JFrame} (h : fx_jn6 K B) (hK : ∀ x0 x1 x2 x3 x4 x5, K x0 x1 x2 x3 x4 x5 → G x0 x1 x2 x3 x4 x5 R args Q) (hB : ∀ K' : T0 → T1 → T2 → T3 → T4 → T5 → Prop, (∀ x0 x1 x2 x3 x4 x5, K' x0 x1 x2 x3 x4 x5 → G x0 x1 x2 x3 x4 x5 R args Q) → B K' → W p l e R s m args below meth c H locs cells slots Q g) : W p l e R s m args below meth c H locs cells slots Q g := hB K hK h
theorem fx_join7 {T0 T1 T2 T3 T4 T5 T6 : Type} {K : T0 → T1 → T2 → T3 → T4 → T5 → T6 → Prop} {B : (T0 → T1 → T2 → T3 → T4 → T5 → T6 → Prop) → Prop} {G : T0 → T1 → T2 → T3 → T4 → T5 → T6 → Room → Array Value → (State → Prop) → Prop} {g : JFrame} (h : fx_jn7 K B) (hK : ∀ x0 x1 x2 x3 x4 x5 x6, K x0 x1 x2 x3 x4 x5 x6 → G x0 x1 x2 x3 x4 x5 x6 R args Q) (hB : ∀ K' : T0 → T1 → T2 → T3 → T4 → T5 → T6 → Prop, (∀ x0 x1 x2 x3 x4 x5 x6, K' x0 x1 x2 x3 x4 x5 x6 → G x0 x1 x2 x3 x4 x5 x6 R args Q) → B K' → W p l e R s m args below meth c H locs cells slots Q g) : W p l e R s m args below meth c H locs cells slots Q g := hB K hK h
theorem fx_join8 {T0 T1 T2 T3 T4 T5 T6 T7 : Type} {K : T0 → T1 → T2 → T3 → T4 → T5 → T6 → T7 → Prop} {B : (T0 → T1 → T2 → T3 → T4 → T5 → T6 → T7 → Prop) → Prop} {G : T0 → T1 → T2 → T3 → T4 → T5 → T6 → T7 → Room → Array Value → (State → Prop) → Prop} {g : JFrame} (h : fx_jn8 K B) (hK : ∀ x0 x1 x2 x3 x4 x5 x6 x7, K x0 x1 x2 x3 x4 x5 x6 x7 → G x0 x1 x2 x3 x4 x5 x6 x7 R args Q) (hB : ∀ K' : T0 → T1 → T2 → T3 → T4 → T5 → T6 → T7 → Prop, (∀ x0 x1 x2 x3 x4 x5 x6 x7, K' x0 x1 x2 x3 x4 x5 x6 x7 → G x0 x1 x2 x3 x4 x5 x6 x7 R args Q) → B K' → W p l e R s m args below meth c H locs cells slots Q g) : W p l e R s m args below meth c H locs cells slots Q g := hB K hK h
theorem fx_join9 {T0 T1 T2 T3 T4 T5 T6 T7 T8 : Type} {K : T0 → T1 → T2 → T3 → T4 → T5 → T6 → T7 → T8 → Prop} {B : (T0 → T1 → T2 → T3 → T4 → T5 → T6 → T7 → T8 → Prop) → Prop} {G : T0 → T1 → T2 → T3 → T4 → T5 → T6 → T7 → T8 → Room → Array Value → (State → Prop) → Prop} {g : JFrame} (h : fx_jn9 K B) (hK : ∀ x0 x1 x2 x3 x4 x5 x6 x7 x8, K x0 x1 x2 x3 x4 x5 x6 x7 x8 → G x0 x1 x2 x3 x4 x5 x6 x7 x8 R args Q) (hB : ∀ K' : T0 → T1 → T2 → T3 → T4 → T5 → T6 → T7 → T8 → Prop, (∀ x0 x1 x2 x3 x4 x5 x6 x7 x8, K' x0 x1 x2 x3 x4 x5 x6 x7 x8 → G x0 x1 x2 x3 x4 x5 x6 x7 x8 R args Q) → B K' → W p l e R s m args below meth c H locs cells slots Q g) : W p l e R s m args below meth c H locs cells slots Q g := hB K hK h
theorem fx_join10 {T0 T1 T2 T3 T4 T5 T6 T7 T8 T9 : Type} {K : T0 → T1 → T2 → T3 → T4 → T5 → T6 → T7 → T8 → T9 → Prop} {B : (T0 → T1 → T2 → T3 → T4 → T5 → T6 → T7 → T8 → T9 → Prop) → Prop} {G : T0 → T1 → T2 → T3 → T4 → T5 → T6 → T7 → T8 → T9 → Room → Array Value → (State → Prop) → Prop} {g : JFrame} (h : fx_jn10 K B) (hK : ∀ x0 x1 x2 x3 x4 x5 x6 x7 x8 x9, K x0 x1 x2 x3 x4 x5 x6 x7 x8 x9 → G x0 x1 x2 x3 x4 x5 x6 x7 x8 x9 R args Q) (hB : ∀ K' : T0 → T1 → T2 → T3 → T4 → T5 → T6 → T7 → T8 → T9 → Prop, (∀ x0 x1 x2 x3 x4 x5 x6 x7 x8 x9, K' x0 x1 x2 x3 x4 x5 x6 x7 x8 x9 → G x0 x1 x2 x3 x4 x5 x6 x7 x8 x9 R args Q) → B K' → W p l e R s m args below meth c H locs cells slots Q g) : W p l e R s m args below meth c H locs cells slots Q g := hB K hK h
theorem fx_join11 {T0 T1 T2 T3 T4 T5 T6 T7 T8 T9 T10 : Type} {K : T0 → T1 → T2 → T3 → T4 → T5 → T6 → T7 → T8 → T9 → T10 → Prop} {B : (T0 → T1 → T2 → T3 → T4 → T5 → T6 → T7 → T8 → T9 → T10 → Prop) → Prop} {G : T0 → T1 → T2 → T3 → T4 → T5 → T6 → T7 → T8 → T9 → T10 → Room → Array Value → (State → Prop) → Prop} {g : JFrame} (h : fx_jn11 K B) (hK : ∀ x0 x1 x2 x3 x4 x5 x6 x7 x8 x9 x10, K x0 x1 x2 x3 x4 x5 x6 x7 x8 x9 x10 → G x0 x1 x2 x3 x4 x5 x6 x7 x8 x9 x10 R args Q) (hB : ∀ K' : T0 → T1 → T2 → T3 → T4 → T5 → T6 → T7 → T8 → T9 → T10 → Prop, (∀ x0 x1 x2 x3 x4 x5 x6 x7 x8 x9 x10, K' x0 x1 x2 x3 x4 x5 x6 x7 x8 x9 x10 → G x0 x1 x2 x3 x4 x5 x6 x7 x8 x9 x10 R args Q) → B K' → W p l e R s m args below meth c H locs cells slots Q g) : W p l e R s m args below meth c H locs cells slots Q g := hB K hK h
theorem fx_join12 {T0 T1 T2 T3 T4 T5 T6 T7 T8 T9 T10 T11 : Type} {K : T0 → T1 → T2 → T3 → T4 → T5 → T6 → T7 → T8 → T9 → T10 → T11 → Prop} {B : (T0 → T1 → T2 → T3 → T4 → T5 → T6 → T7 → T8 → T9 → T10 → T11 → Prop) → Prop} {G : T0 → T1 → T2 → T3 → T4 → T5 → T6 → T7 → T8 → T9 → T10 → T11 → Room → Array Value → (State → Prop) → Prop} {g : JFrame} (h : fx_jn12 K B) (hK : ∀ x0 x1 x2 x3 x4 x5 x6 x7 x8 x9 x10 x11, K x0 x1 x2 x3 x4 x5 x6 x7 x8 x9 x10 x11 → G x0 x1 x2 x3 x4 x5 x6 x7 x8 x9 x10 x11 R args Q) (hB : ∀ K' : T0 → T1 → T2 → T3 → T4 → T5 → T6 → T7 → T8 → T9 → T10 → T11 → Prop, (∀ x0 x1 x2 x3 x4 x5 x6 x7 x8 x9 x10 x11, K' x0 x1 x2 x3 x4 x5 x6 x7 x8 x9 x10 x11 → G x0 x1 x2 x3 x4 x5 x6 x7 x8 x9 x10 x11 R args Q) → B K' → W p l e R s m args below meth c H locs cells slots Q g) : W p l e R s m args below meth c H locs cells slots Q g := hB K hK h
theorem fx_iadd (hexec : p.tables.exec = Jvm.exec) (hb : c.code = cc) {x y : Int32} {P : Int32 → Prop} (h : fx_nm (x + y) P) (hdg : decode cc pc = .ok (.iadd, 1))
    (k : ∀ v : Int32, P v → W p l e R s m args below meth c H locs cells slots Q (F0 m (pc + 1) ls (.int v :: rest))) : W p l e R s m args below meth c H locs cells slots Q (F0 m pc ls (.int y :: .int x :: rest)) := lv_iadd hexec hb hdg (k _ (h _ rfl))
theorem fx_isub (hexec : p.tables.exec = Jvm.exec) (hb : c.code = cc) {x y : Int32} {P : Int32 → Prop} (h : fx_nm (x - y) P) (hdg : decode cc pc = .ok (.isub, 1))
    (k : ∀ v : Int32, P v → W p l e R s m args below meth c H locs cells slots Q (F0 m (pc + 1) ls (.int v :: rest))) : W p l e R s m args below meth c H locs cells slots Q (F0 m pc ls (.int y :: .int x :: rest)) := lv_isub hexec hb hdg (k _ (h _ rfl))
theorem fx_imul (hexec : p.tables.exec = Jvm.exec) (hb : c.code = cc) {x y : Int32} {P : Int32 → Prop} (h : fx_nm (x * y) P) (hdg : decode cc pc = .ok (.imul, 1))
    (k : ∀ v : Int32, P v → W p l e R s m args below meth c H locs cells slots Q (F0 m (pc + 1) ls (.int v :: rest))) : W p l e R s m args below meth c H locs cells slots Q (F0 m pc ls (.int y :: .int x :: rest)) := lv_imul hexec hb hdg (k _ (h _ rfl))
theorem fx_iand (hexec : p.tables.exec = Jvm.exec) (hb : c.code = cc) {x y : Int32} {P : Int32 → Prop} (h : fx_nm (x &&& y) P) (hdg : decode cc pc = .ok (.iand, 1))
    (k : ∀ v : Int32, P v → W p l e R s m args below meth c H locs cells slots Q (F0 m (pc + 1) ls (.int v :: rest))) : W p l e R s m args below meth c H locs cells slots Q (F0 m pc ls (.int y :: .int x :: rest)) := lv_iand hexec hb hdg (k _ (h _ rfl))
theorem fx_ior (hexec : p.tables.exec = Jvm.exec) (hb : c.code = cc) {x y : Int32} {P : Int32 → Prop} (h : fx_nm (x ||| y) P) (hdg : decode cc pc = .ok (.ior, 1))
    (k : ∀ v : Int32, P v → W p l e R s m args below meth c H locs cells slots Q (F0 m (pc + 1) ls (.int v :: rest))) : W p l e R s m args below meth c H locs cells slots Q (F0 m pc ls (.int y :: .int x :: rest)) := lv_ior hexec hb hdg (k _ (h _ rfl))
theorem fx_ishl (hexec : p.tables.exec = Jvm.exec) (hb : c.code = cc) {x y : Int32} {P : Int32 → Prop} (h : fx_nm (x <<< (y &&& 31)) P) (hdg : decode cc pc = .ok (.ishl, 1))
    (k : ∀ v : Int32, P v → W p l e R s m args below meth c H locs cells slots Q (F0 m (pc + 1) ls (.int v :: rest))) : W p l e R s m args below meth c H locs cells slots Q (F0 m pc ls (.int y :: .int x :: rest)) := lv_ishl hexec hb hdg (k _ (h _ rfl))
theorem fx_ishr (hexec : p.tables.exec = Jvm.exec) (hb : c.code = cc) {x y : Int32} {P : Int32 → Prop} (h : fx_nm (x >>> (y &&& 31)) P) (hdg : decode cc pc = .ok (.ishr, 1))
    (k : ∀ v : Int32, P v → W p l e R s m args below meth c H locs cells slots Q (F0 m (pc + 1) ls (.int v :: rest))) : W p l e R s m args below meth c H locs cells slots Q (F0 m pc ls (.int y :: .int x :: rest)) := lv_ishr hexec hb hdg (k _ (h _ rfl))
theorem fx_ladd (hexec : p.tables.exec = Jvm.exec) (hb : c.code = cc) {x y : Int64} {P : Int64 → Prop} (h : fx_nm (x + y) P) (hdg : decode cc pc = .ok (.ladd, 1))
    (k : ∀ v : Int64, P v → W p l e R s m args below meth c H locs cells slots Q (F0 m (pc + 1) ls (.long v :: rest))) : W p l e R s m args below meth c H locs cells slots Q (F0 m pc ls (.long y :: .long x :: rest)) := lv_ladd hexec hb hdg (k _ (h _ rfl))
theorem fx_land (hexec : p.tables.exec = Jvm.exec) (hb : c.code = cc) {x y : Int64} {P : Int64 → Prop} (h : fx_nm (x &&& y) P) (hdg : decode cc pc = .ok (.land, 1))
    (k : ∀ v : Int64, P v → W p l e R s m args below meth c H locs cells slots Q (F0 m (pc + 1) ls (.long v :: rest))) : W p l e R s m args below meth c H locs cells slots Q (F0 m pc ls (.long y :: .long x :: rest)) := lv_land hexec hb hdg (k _ (h _ rfl))
theorem fx_idiv (hexec : p.tables.exec = Jvm.exec) (hb : c.code = cc) {x y : Int32} {P : Int32 → Prop} (h : fx_dv y (fx_nm (x / y) P)) (hdg : decode cc pc = .ok (.idiv, 1))
    (k : ∀ v : Int32, P v → W p l e R s m args below meth c H locs cells slots Q (F0 m (pc + 1) ls (.int v :: rest))) : W p l e R s m args below meth c H locs cells slots Q (F0 m pc ls (.int y :: .int x :: rest)) := lv_idiv hexec hb hdg h.1 (k _ (h.2 _ rfl))
theorem fx_irem (hexec : p.tables.exec = Jvm.exec) (hb : c.code = cc) {x y : Int32} {P : Int32 → Prop} (h : fx_dv y (fx_nm (x - x / y * y) P)) (hdg : decode cc pc = .ok (.irem, 1))
    (k : ∀ v : Int32, P v → W p l e R s m args below meth c H locs cells slots Q (F0 m (pc + 1) ls (.int v :: rest))) : W p l e R s m args below meth c H locs cells slots Q (F0 m pc ls (.int y :: .int x :: rest)) := lv_irem hexec hb hdg h.1 (k _ (h.2 _ rfl))
theorem fx_ineg (hexec : p.tables.exec = Jvm.exec) (hb : c.code = cc) {x : Int32} {P : Int32 → Prop} (h : fx_nm (-x) P) (hdg : decode cc pc = .ok (.ineg, 1))
    (k : ∀ v : Int32, P v → W p l e R s m args below meth c H locs cells slots Q (F0 m (pc + 1) ls (.int v :: rest))) : W p l e R s m args below meth c H locs cells slots Q (F0 m pc ls (.int x :: rest)) := lv_ineg hexec hb hdg (k _ (h _ rfl))
theorem fx_i2c (hexec : p.tables.exec = Jvm.exec) (hb : c.code = cc) {x : Int32} {P : Int32 → Prop} (h : fx_nm ((x.toUInt32 % 65536).toInt32) P) (hdg : decode cc pc = .ok (.i2c, 1))
    (k : ∀ v : Int32, P v → W p l e R s m args below meth c H locs cells slots Q (F0 m (pc + 1) ls (.int v :: rest))) : W p l e R s m args below meth c H locs cells slots Q (F0 m pc ls (.int x :: rest)) := lv_i2c hexec hb hdg rfl (k _ (h _ rfl))
theorem fx_i2b (hexec : p.tables.exec = Jvm.exec) (hb : c.code = cc) {x : Int32} {P : Int32 → Prop} (h : fx_nm (x.toInt8.toInt32) P) (hdg : decode cc pc = .ok (.i2b, 1))
    (k : ∀ v : Int32, P v → W p l e R s m args below meth c H locs cells slots Q (F0 m (pc + 1) ls (.int v :: rest))) : W p l e R s m args below meth c H locs cells slots Q (F0 m pc ls (.int x :: rest)) := lv_i2b hexec hb hdg rfl (k _ (h _ rfl))
theorem fx_l2i (hexec : p.tables.exec = Jvm.exec) (hb : c.code = cc) {x : Int64} {P : Int32 → Prop} (h : fx_nm (x.toInt32) P) (hdg : decode cc pc = .ok (.l2i, 1))
    (k : ∀ v : Int32, P v → W p l e R s m args below meth c H locs cells slots Q (F0 m (pc + 1) ls (.int v :: rest))) : W p l e R s m args below meth c H locs cells slots Q (F0 m pc ls (.long x :: rest)) := lv_l2i hexec hb hdg rfl (k _ (h _ rfl))
theorem fx_i2l (hexec : p.tables.exec = Jvm.exec) (hb : c.code = cc) {x : Int32} {P : Int64 → Prop} (h : fx_nm (x.toInt64) P) (hdg : decode cc pc = .ok (.i2l, 1))
    (k : ∀ v : Int64, P v → W p l e R s m args below meth c H locs cells slots Q (F0 m (pc + 1) ls (.long v :: rest))) : W p l e R s m args below meth c H locs cells slots Q (F0 m pc ls (.int x :: rest)) := lv_i2l hexec hb hdg rfl (k _ (h _ rfl))
theorem fx_lshr (hexec : p.tables.exec = Jvm.exec) (hb : c.code = cc) {x : Int64} {y : Int32} {P : Int64 → Prop} (h : fx_nm (x >>> (y.toInt64 &&& 63)) P) (hdg : decode cc pc = .ok (.lshr, 1))
    (k : ∀ v : Int64, P v → W p l e R s m args below meth c H locs cells slots Q (F0 m (pc + 1) ls (.long v :: rest))) : W p l e R s m args below meth c H locs cells slots Q (F0 m pc ls (.int y :: .long x :: rest)) := lv_lshr hexec hb hdg rfl (k _ (h _ rfl))
theorem fx_lcmp (hexec : p.tables.exec = Jvm.exec) (hb : c.code = cc) {x y : Int64} {P : Int32 → Prop} (h : fx_nm (lg_cmp x y) P) (hdg : decode cc pc = .ok (.lcmp, 1))
    (k : ∀ v : Int32, P v → W p l e R s m args below meth c H locs cells slots Q (F0 m (pc + 1) ls (.int v :: rest))) : W p l e R s m args below meth c H locs cells slots Q (F0 m pc ls (.long y :: .long x :: rest)) := W.lcmp hexec hb hdg (k _ (h _ rfl))
theorem fx_icmp_eq (hexec : p.tables.exec = Jvm.exec) (hb : c.code = cc) {x y : Int32} {A B : Prop} (h : fx_br (x = y) A B) {off : Int} {tgt : Nat} (hdg : decode cc pc = .ok (.if_icmp .eq off, 3)) (ht : (pc : Int) + off = (tgt : Int))
    (kt : A → W p l e R s m args below meth c H locs cells slots Q (F0 m tgt ls rest)) (kf : B → W p l e R s m args below meth c H locs cells slots Q (F0 m (pc + 3) ls rest)) : W p l e R s m args below meth c H locs cells slots Q (F0 m pc ls (.int y :: .int x :: rest)) := lv_icmp_eq hexec hb hdg ht (fun q => kt (h.1 q)) (fun q => kf (h.2 q))
theorem fx_if_eq (hexec : p.tables.exec = Jvm.exec) (hb : c.code = cc) {x : Int32} {A B : Prop} (h : fx_br (x = 0) A B) {off : Int} {tgt : Nat} (hdg : decode cc pc = .ok (.ifCond .eq off, 3)) (ht : (pc : Int) + off = (tgt : Int))
    (kt : A → W p l e R s m args below meth c H locs cells slots Q (F0 m tgt ls rest)) (kf : B → W p l e R s m args below meth c H locs cells slots Q (F0 m (pc + 3) ls rest)) : W p l e R s m args below meth c H locs cells slots Q (F0 m pc ls (.int x :: rest)) := lv_if_eq hexec hb hdg ht (fun q => kt (h.1 q)) (fun q => kf (h.2 q))
theorem fx_icmp_ne (hexec : p.tables.exec = Jvm.exec) (hb : c.code = cc) {x y : Int32} {A B : Prop} (h : fx_br (x = y) B A) {off : Int} {tgt : Nat} (hdg : decode cc pc = .ok (.if_icmp .ne off, 3)) (ht : (pc : Int) + off = (tgt : Int))
    (kt : A → W p l e R s m args below meth c H locs cells slots Q (F0 m tgt ls rest)) (kf : B → W p l e R s m args below meth c H locs cells slots Q (F0 m (pc + 3) ls rest)) : W p l e R s m args below meth c H locs cells slots Q (F0 m pc ls (.int y :: .int x :: rest)) := lv_icmp_ne hexec hb hdg ht (fun q => kt (h.2 q)) (fun q => kf (h.1 q))
theorem fx_if_ne (hexec : p.tables.exec = Jvm.exec) (hb : c.code = cc) {x : Int32} {A B : Prop} (h : fx_br (x = 0) B A) {off : Int} {tgt : Nat} (hdg : decode cc pc = .ok (.ifCond .ne off, 3)) (ht : (pc : Int) + off = (tgt : Int))
    (kt : A → W p l e R s m args below meth c H locs cells slots Q (F0 m tgt ls rest)) (kf : B → W p l e R s m args below meth c H locs cells slots Q (F0 m (pc + 3) ls rest)) : W p l e R s m args below meth c H locs cells slots Q (F0 m pc ls (.int x :: rest)) := lv_if_ne hexec hb hdg ht (fun q => kt (h.2 q)) (fun q => kf (h.1 q))
theorem fx_icmp_lt (hexec : p.tables.exec = Jvm.exec) (hb : c.code = cc) {x y : Int32} {A B : Prop} (h : fx_br (x < y) A B) {off : Int} {tgt : Nat} (hdg : decode cc pc = .ok (.if_icmp .lt off, 3)) (ht : (pc : Int) + off = (tgt : Int))
    (kt : A → W p l e R s m args below meth c H locs cells slots Q (F0 m tgt ls rest)) (kf : B → W p l e R s m args below meth c H locs cells slots Q (F0 m (pc + 3) ls rest)) : W p l e R s m args below meth c H locs cells slots Q (F0 m pc ls (.int y :: .int x :: rest)) := lv_icmp_lt hexec hb hdg ht (fun q => kt (h.1 q)) (fun q => kf (h.2 q))
theorem fx_if_lt (hexec : p.tables.exec = Jvm.exec) (hb : c.code = cc) {x : Int32} {A B : Prop} (h : fx_br (x < 0) A B) {off : Int} {tgt : Nat} (hdg : decode cc pc = .ok (.ifCond .lt off, 3)) (ht : (pc : Int) + off = (tgt : Int))
    (kt : A → W p l e R s m args below meth c H locs cells slots Q (F0 m tgt ls rest)) (kf : B → W p l e R s m args below meth c H locs cells slots Q (F0 m (pc + 3) ls rest)) : W p l e R s m args below meth c H locs cells slots Q (F0 m pc ls (.int x :: rest)) := lv_if_lt hexec hb hdg ht (fun q => kt (h.1 q)) (fun q => kf (h.2 q))
theorem fx_icmp_ge (hexec : p.tables.exec = Jvm.exec) (hb : c.code = cc) {x y : Int32} {A B : Prop} (h : fx_br (y ≤ x) A B) {off : Int} {tgt : Nat} (hdg : decode cc pc = .ok (.if_icmp .ge off, 3)) (ht : (pc : Int) + off = (tgt : Int))
    (kt : A → W p l e R s m args below meth c H locs cells slots Q (F0 m tgt ls rest)) (kf : B → W p l e R s m args below meth c H locs cells slots Q (F0 m (pc + 3) ls rest)) : W p l e R s m args below meth c H locs cells slots Q (F0 m pc ls (.int y :: .int x :: rest)) := lv_icmp_ge hexec hb hdg ht (fun q => kt (h.1 q)) (fun q => kf (h.2 q))
theorem fx_if_ge (hexec : p.tables.exec = Jvm.exec) (hb : c.code = cc) {x : Int32} {A B : Prop} (h : fx_br (0 ≤ x) A B) {off : Int} {tgt : Nat} (hdg : decode cc pc = .ok (.ifCond .ge off, 3)) (ht : (pc : Int) + off = (tgt : Int))
    (kt : A → W p l e R s m args below meth c H locs cells slots Q (F0 m tgt ls rest)) (kf : B → W p l e R s m args below meth c H locs cells slots Q (F0 m (pc + 3) ls rest)) : W p l e R s m args below meth c H locs cells slots Q (F0 m pc ls (.int x :: rest)) := lv_if_ge hexec hb hdg ht (fun q => kt (h.1 q)) (fun q => kf (h.2 q))
theorem fx_icmp_gt (hexec : p.tables.exec = Jvm.exec) (hb : c.code = cc) {x y : Int32} {A B : Prop} (h : fx_br (y < x) A B) {off : Int} {tgt : Nat} (hdg : decode cc pc = .ok (.if_icmp .gt off, 3)) (ht : (pc : Int) + off = (tgt : Int))
    (kt : A → W p l e R s m args below meth c H locs cells slots Q (F0 m tgt ls rest)) (kf : B → W p l e R s m args below meth c H locs cells slots Q (F0 m (pc + 3) ls rest)) : W p l e R s m args below meth c H locs cells slots Q (F0 m pc ls (.int y :: .int x :: rest)) := lv_icmp_gt hexec hb hdg ht (fun q => kt (h.1 q)) (fun q => kf (h.2 q))
theorem fx_if_gt (hexec : p.tables.exec = Jvm.exec) (hb : c.code = cc) {x : Int32} {A B : Prop} (h : fx_br (0 < x) A B) {off : Int} {tgt : Nat} (hdg : decode cc pc = .ok (.ifCond .gt off, 3)) (ht : (pc : Int) + off = (tgt : Int))
    (kt : A → W p l e R s m args below meth c H locs cells slots Q (F0 m tgt ls rest)) (kf : B → W p l e R s m args below meth c H locs cells slots Q (F0 m (pc + 3) ls rest)) : W p l e R s m args below meth c H locs cells slots Q (F0 m pc ls (.int x :: rest)) := lv_if_gt hexec hb hdg ht (fun q => kt (h.1 q)) (fun q => kf (h.2 q))
theorem fx_icmp_le (hexec : p.tables.exec = Jvm.exec) (hb : c.code = cc) {x y : Int32} {A B : Prop} (h : fx_br (x ≤ y) A B) {off : Int} {tgt : Nat} (hdg : decode cc pc = .ok (.if_icmp .le off, 3)) (ht : (pc : Int) + off = (tgt : Int))
    (kt : A → W p l e R s m args below meth c H locs cells slots Q (F0 m tgt ls rest)) (kf : B → W p l e R s m args below meth c H locs cells slots Q (F0 m (pc + 3) ls rest)) : W p l e R s m args below meth c H locs cells slots Q (F0 m pc ls (.int y :: .int x :: rest)) := lv_icmp_le hexec hb hdg ht (fun q => kt (h.1 q)) (fun q => kf (h.2 q))
theorem fx_if_le (hexec : p.tables.exec = Jvm.exec) (hb : c.code = cc) {x : Int32} {A B : Prop} (h : fx_br (x ≤ 0) A B) {off : Int} {tgt : Nat} (hdg : decode cc pc = .ok (.ifCond .le off, 3)) (ht : (pc : Int) + off = (tgt : Int))
    (kt : A → W p l e R s m args below meth c H locs cells slots Q (F0 m tgt ls rest)) (kf : B → W p l e R s m args below meth c H locs cells slots Q (F0 m (pc + 3) ls rest)) : W p l e R s m args below meth c H locs cells slots Q (F0 m pc ls (.int x :: rest)) := lv_if_le hexec hb hdg ht (fun q => kt (h.1 q)) (fun q => kf (h.2 q))
theorem fx_iald (hexec : p.tables.exec = Jvm.exec) (hb : c.code = cc) (hK : va_K D cl tys s) (hP : va_P D cl ws H) (q0 t0 : Nat) {cA : ClassId} {n : Nat} {f : Nat → Int32} (ha : ws[q0]? = some (a, .inl (cA, n, .inl f))) (ht : tys[t0]? = some (cA, .int)) {i : Int32} {P : Int32 → Prop} (h : fx_ix i n (fun k => fx_nm (f k) P)) (hdg : decode cc pc = .ok (.iaload, 1))
    (kk : ∀ v : Int32, P v → W p l e R s m args below meth c H locs cells slots Q (F0 m (pc + 1) ls (.int v :: rest))) : W p l e R s m args below meth c H locs cells slots Q (F0 m pc ls (.int i :: .ref a :: rest)) := by
  obtain ⟨k, h1, h2, h3, h4⟩ := h
  refine va_iald hexec hb hK hP q0 t0 ha ht (fx_in h1 h2 h3) hdg (kk _ (h4 _ (by rw [h3, nI_clamp h2])))
theorem fx_zald (hexec : p.tables.exec = Jvm.exec) (hb : c.code = cc) (hK : va_K D cl tys s) (hP : va_P D cl ws H) (q0 t0 : Nat) {cA : ClassId} {n : Nat} {f : Nat → Int32} (ha : ws[q0]? = some (a, .inl (cA, n, .inl f))) (ht : tys[t0]? = some (cA, .boolean)) {i : Int32} {P : Int32 → Prop} (h : fx_ix i n (fun k => fx_nm (f k) P)) (hdg : decode cc pc = .ok (.baload, 1))
    (kk : ∀ v : Int32, P v → W p l e R s m args below meth c H locs cells slots Q (F0 m (pc + 1) ls (.int v :: rest))) : W p l e R s m args below meth c H locs cells slots Q (F0 m pc ls (.int i :: .ref a :: rest)) := by
  obtain ⟨k, h1, h2, h3, h4⟩ := h
  refine va_zald hexec hb hK hP q0 t0 ha ht (fx_in h1 h2 h3) hdg (kk _ (h4 _ (by rw [h3, nI_clamp h2])))
theorem fx_bald (hexec : p.tables.exec = Jvm.exec) (hb : c.code = cc) (hK : va_K D cl tys s) (hP : va_P D cl ws H) (q0 t0 : Nat) {cA : ClassId} {n : Nat} {f : Nat → Int32} (ha : ws[q0]? = some (a, .inl (cA, n, .inl f))) (ht : tys[t0]? = some (cA, .byte)) {i : Int32} {P : Int32 → Prop} (h : fx_ix i n (fun k => fx_nm (f k) P)) (hdg : decode cc pc = .ok (.baload, 1))
    (kk : ∀ v : Int32, P v → W p l e R s m args below meth c H locs cells slots Q (F0 m (pc + 1) ls (.int v :: rest))) : W p l e R s m args below meth c H locs cells slots Q (F0 m pc ls (.int i :: .ref a :: rest)) := by
  obtain ⟨k, h1, h2, h3, h4⟩ := h
  refine va_bald hexec hb hK hP q0 t0 ha ht (fx_in h1 h2 h3) hdg (kk _ (h4 _ (by rw [h3, nI_clamp h2])))
theorem fx_lald (hexec : p.tables.exec = Jvm.exec) (hb : c.code = cc) (hK : va_K D cl tys s) (hP : va_P D cl ws H) (q0 t0 : Nat) {cA : ClassId} {n : Nat} {f : Nat → Int64} (ha : ws[q0]? = some (a, .inl (cA, n, .inr (.inl f)))) (ht : tys[t0]? = some (cA, .long)) {i : Int32} {P : Int64 → Prop} (h : fx_ix i n (fun k => fx_nm (f k) P)) (hdg : decode cc pc = .ok (.laload, 1))
    (kk : ∀ v : Int64, P v → W p l e R s m args below meth c H locs cells slots Q (F0 m (pc + 1) ls (.long v :: rest))) : W p l e R s m args below meth c H locs cells slots Q (F0 m pc ls (.int i :: .ref a :: rest)) := by
  obtain ⟨k, h1, h2, h3, h4⟩ := h
  refine va_lald hexec hb hK hP q0 t0 ha ht (fx_in h1 h2 h3) hdg (kk _ (h4 _ (by rw [h3, nI_clamp h2])))
theorem fx_iast (hexec : p.tables.exec = Jvm.exec) (hb : c.code = cc) (hK : va_K D cl tys s) (hP : va_P D cl ws H) (hD : va_D A ws) (hS : va_S A H0 H locs) (q0 t0 : Nat) {cA : ClassId} {n : Nat} {f : Nat → Int32} (ha : ws[q0]? = some (a, .inl (cA, n, .inl f))) (ht : tys[t0]? = some (cA, .int)) {i : Int32} {x : Int32} {P : (Nat → Int32) → Prop} (h : fx_ix i n (fun k => fx_nm (upd f k x) P)) (hdg : decode cc pc = .ok (.iastore, 1))
    (ws' : (Nat → Int32) → va_W) (hw : ∀ g, ws.set q0 (a, .inl (cA, n, .inl g)) = ws' g)
    (kk : ∀ (H1 : Heap) (locs1 : List Loc) (g : Nat → Int32), P g → va_P D cl (ws' g) H1 → va_D A (ws' g) → va_S A H0 H1 locs1 → W p l e R s m args below meth c H1 locs1 cells slots Q (F0 m (pc + 1) ls rest)) : W p l e R s m args below meth c H locs cells slots Q (F0 m pc ls (.int x :: .int i :: .ref a :: rest)) := by
  obtain ⟨k, h1, h2, h3, h4⟩ := h
  refine va_iast hexec hb hK hP hD hS q0 t0 ha ht (fx_in h1 h2 h3) hdg (fun H1 locs1 hP1 hD1 hS1 => ?_)
  rw [h3, nI_clamp h2] at hP1 hD1
  rw [hw] at hP1 hD1
  exact kk H1 locs1 _ (h4 _ rfl) hP1 hD1 hS1
theorem fx_zast (hexec : p.tables.exec = Jvm.exec) (hb : c.code = cc) (hK : va_K D cl tys s) (hP : va_P D cl ws H) (hD : va_D A ws) (hS : va_S A H0 H locs) (q0 t0 : Nat) {cA : ClassId} {n : Nat} {f : Nat → Int32} (ha : ws[q0]? = some (a, .inl (cA, n, .inl f))) (ht : tys[t0]? = some (cA, .boolean)) {i : Int32} {x : Int32} {P : (Nat → Int32) → Prop} (h : fx_ix i n (fun k => fx_nm (upd f k (vp_nar .boolean x)) P)) (hdg : decode cc pc = .ok (.bastore, 1))
    (ws' : (Nat → Int32) → va_W) (hw : ∀ g, ws.set q0 (a, .inl (cA, n, .inl g)) = ws' g)
    (kk : ∀ (H1 : Heap) (locs1 : List Loc) (g : Nat → Int32), P g → va_P D cl (ws' g) H1 → va_D A (ws' g) → va_S A H0 H1 locs1 → W p l e R s m args below meth c H1 locs1 cells slots Q (F0 m (pc + 1) ls rest)) : W p l e R s m args below meth c H locs cells slots Q (F0 m pc ls (.int x :: .int i :: .ref a :: rest)) := by
  obtain ⟨k, h1, h2, h3, h4⟩ := h
  refine va_zast hexec hb hK hP hD hS q0 t0 ha ht (fx_in h1 h2 h3) hdg (fun H1 locs1 hP1 hD1 hS1 => ?_)
  rw [h3, nI_clamp h2] at hP1 hD1
  rw [hw] at hP1 hD1
  exact kk H1 locs1 _ (h4 _ rfl) hP1 hD1 hS1
theorem fx_bast (hexec : p.tables.exec = Jvm.exec) (hb : c.code = cc) (hK : va_K D cl tys s) (hP : va_P D cl ws H) (hD : va_D A ws) (hS : va_S A H0 H locs) (q0 t0 : Nat) {cA : ClassId} {n : Nat} {f : Nat → Int32} (ha : ws[q0]? = some (a, .inl (cA, n, .inl f))) (ht : tys[t0]? = some (cA, .byte)) {i : Int32} {x : Int32} {P : (Nat → Int32) → Prop} (h : fx_ix i n (fun k => fx_nm (upd f k (vp_nar .byte x)) P)) (hdg : decode cc pc = .ok (.bastore, 1))
    (ws' : (Nat → Int32) → va_W) (hw : ∀ g, ws.set q0 (a, .inl (cA, n, .inl g)) = ws' g)
    (kk : ∀ (H1 : Heap) (locs1 : List Loc) (g : Nat → Int32), P g → va_P D cl (ws' g) H1 → va_D A (ws' g) → va_S A H0 H1 locs1 → W p l e R s m args below meth c H1 locs1 cells slots Q (F0 m (pc + 1) ls rest)) : W p l e R s m args below meth c H locs cells slots Q (F0 m pc ls (.int x :: .int i :: .ref a :: rest)) := by
  obtain ⟨k, h1, h2, h3, h4⟩ := h
  refine va_bast hexec hb hK hP hD hS q0 t0 ha ht (fx_in h1 h2 h3) hdg (fun H1 locs1 hP1 hD1 hS1 => ?_)
  rw [h3, nI_clamp h2] at hP1 hD1
  rw [hw] at hP1 hD1
  exact kk H1 locs1 _ (h4 _ rfl) hP1 hD1 hS1
theorem fx_last (hexec : p.tables.exec = Jvm.exec) (hb : c.code = cc) (hK : va_K D cl tys s) (hP : va_P D cl ws H) (hD : va_D A ws) (hS : va_S A H0 H locs) (q0 t0 : Nat) {cA : ClassId} {n : Nat} {f : Nat → Int64} (ha : ws[q0]? = some (a, .inl (cA, n, .inr (.inl f)))) (ht : tys[t0]? = some (cA, .long)) {i : Int32} {x : Int64} {P : (Nat → Int64) → Prop} (h : fx_ix i n (fun k => fx_nm (vp_updL f k x) P)) (hdg : decode cc pc = .ok (.lastore, 1))
    (ws' : (Nat → Int64) → va_W) (hw : ∀ g, ws.set q0 (a, .inl (cA, n, .inr (.inl g))) = ws' g)
    (kk : ∀ (H1 : Heap) (locs1 : List Loc) (g : Nat → Int64), P g → va_P D cl (ws' g) H1 → va_D A (ws' g) → va_S A H0 H1 locs1 → W p l e R s m args below meth c H1 locs1 cells slots Q (F0 m (pc + 1) ls rest)) : W p l e R s m args below meth c H locs cells slots Q (F0 m pc ls (.long x :: .int i :: .ref a :: rest)) := by
  obtain ⟨k, h1, h2, h3, h4⟩ := h
  refine va_last hexec hb hK hP hD hS q0 t0 ha ht (fx_in h1 h2 h3) hdg (fun H1 locs1 hP1 hD1 hS1 => ?_)
  rw [h3, nI_clamp h2] at hP1 hD1
  rw [hw] at hP1 hD1
  exact kk H1 locs1 _ (h4 _ rfl) hP1 hD1 hS1
end FXR

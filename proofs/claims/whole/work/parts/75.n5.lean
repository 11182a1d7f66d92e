/-! LOGIC: a number appended -/
def dg (n : Nat) : List Nat := if n < 10 then [48 + n] else if n < 100 then [48 + n / 10, 48 + n % 10] else [48 + n / 100, 48 + n / 10 % 10, 48 + n % 10]
theorem ng_all : ∀ n : Nat, n < 1000 → ((-(nI n) ≤ (-10 : Int32)) ↔ 10 ≤ n) ∧ ((-(nI n) ≤ nI 10 * (-10 : Int32)) ↔ 100 ≤ n) ∧ ((-(nI n) ≤ nI 10 * (nI 10 * (-10 : Int32))) ↔ 1000 ≤ n) ∧ (((-100 : Int32) < -(nI n)) ↔ n < 100) ∧ (((-9 : Int32) ≤ -(nI n)) ↔ n ≤ 9) ∧ -(-(nI n)) = nI n ∧ -(nI n) / nI 100 = -(nI (n / 100)) ∧ -(nI (n / 100)) * nI 100 - -(nI n) = nI (n % 100) := by decide +kernel
theorem dg_l (n : Nat) : (dg n).length = if n < 10 then 1 else if n < 100 then 2 else 3 := by
  unfold dg
  split
  · rfl
  · split <;> rfl
theorem sp_ssz {post : Int32 → Prop} {n : Nat} (hn : n < 1000) (h : post (nI (dg n).length)) : wp_J6_stringSize_0f7a4 post (nI n) := by
  obtain ⟨a1, a2, a3, -⟩ := ng_all n hn
  rw [dg_l] at h
  unfold wp_J6_stringSize_0f7a4
  have : ∀ (K0 : Int32 → Int32 → Prop) (B : (Int32 → Int32 → Prop) → Prop), fx_jn2 K0 B = B K0 := fun _ _ => rfl
  rw [this, fb_lt0 (by omega), fx_nm_eq]
  refine ⟨3, ?_⟩
  show fx_br (nI 10 ≤ nI 1) _ _
  rw [fb_lef (by omega) (by omega)]
  refine fx_br_iff a1 (fun e1 => ?_) (fun e1 => ?_)
  rotate_left
  · rw [if_pos (by omega)] at h
    exact fx_nm_i h
  rw [fx_nm_eq, fx_nm_add]
  show fx_br (nI 10 ≤ nI 2) _ _
  rw [fb_lef (by omega) (by omega)]
  refine fx_br_iff a2 (fun e2 => ?_) (fun e2 => ?_)
  rotate_left
  · rw [if_neg (by omega), if_pos (by omega)] at h
    exact fx_nm_i h
  rw [fx_nm_eq, fx_nm_add]
  show fx_br (nI 10 ≤ nI 3) _ _
  rw [fb_lef (by omega) (by omega)]
  refine fx_br_iff a3 (fun e3 => absurd e3 (by omega)) (fun e3 => ?_)
  rw [if_neg (by omega), if_neg (by omega)] at h
  exact fx_nm_i h

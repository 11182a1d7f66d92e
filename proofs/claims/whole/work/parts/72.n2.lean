/-! LOGIC: the text of the class grows -/
theorem k_shl0 {q : Nat} (hq : q < 2147483648) : (nI q) <<< ((nI 0) &&& 31) = nI q := by
  rw [pk_shlN _ 0 (by decide) (by omega), Nat.pow_zero, Nat.mul_one]
/-- the capacity after room for m is asked for -/
def cap (q m : Nat) : Nat := if m ≤ q then q else q + (if m - q < q + 2 then q + 2 else m - q)
theorem cap_le {q m : Nat} : q ≤ cap q m ∧ m ≤ cap q m := by
  unfold cap
  split
  · omega
  · split <;> omega
theorem cap_b {q m B : Nat} (hm : m ≤ B) (hq : q ≤ 2 * B) : cap q m ≤ 2 * B := by
  unfold cap
  split
  · omega
  · split <;> omega
/-- the told bytes: those of l in front, and small numbers all over -/
def tv (f : Nat → Int32) (q : Nat) (l : List Nat) : Prop := l.length ≤ q ∧ tx f l ∧ ∀ x, x < q → ∃ c : Nat, c < 128 ∧ f x = nI c
theorem fits7 {c : Nat} (h : c < 128) : fits .byte (.int (nI c)) = true := by
  have : ∀ c : Nat, c < 128 → fits .byte (.int (nI c)) = true := by decide +kernel
  exact this c h
theorem sp_ens {post : Nat → (Nat → Int32) → Prop} {mc ms q m : Nat} {f : Nat → Int32} {l : List Nat} (hm : m ≤ 300) (hq : q ≤ 600) (hf : tv f q l) (hb : q < m → 1 ≤ mc ∧ 1300 ≤ ms)
    (h : ∀ f', tv f' (cap q m) l → post (cap q m) f') : wp_J5_ensureCapacityInternal_d00df post mc ms q f (nI m) := by
  unfold wp_J5_ensureCapacityInternal_d00df
  rw [fx_nm_eq, k_sh0 (by omega), fx_nm_eq]
  have e0 : (nI m - nI q).toInt = (m : Int) - q := pk_sub_toInt (by omega) (by omega)
  have hc : (nI m - nI q ≤ 0) ↔ m ≤ q := by
    rw [Int32.le_iff_toInt_le, e0]
    have : (0 : Int32).toInt = 0 := by decide
    omega
  refine fx_br_iff hc (fun e => ?_) (fun e => ?_)
  · have := h f
    rw [cap, if_pos e] at this
    exact this hf
  · obtain ⟨b1, b2⟩ := hb (by omega)
    have hcap := cap_b (B := 300) hm hq
    have hcl := cap_le (q := q) (m := m)
    unfold wp_J5_newCapacity_0f7a4 wp_J8_newLength_cabcc
    have e2 : (nI 2) <<< ((nI 0) &&& 31) = nI 2 := k_shl0 (by decide)
    rw [fx_nm_eq, k_shl0 (by omega), fx_nm_sub (by omega), fx_nm_eq, e2, fx_nm_add]
    have e3 : (if nI (m - q) < nI (q + 2) then nI (q + 2) else nI (m - q)) = nI (if m - q < q + 2 then q + 2 else m - q) := by
      by_cases z : m - q < q + 2
      · rw [if_pos z, if_pos (nI_lt z (by omega))]
      · rw [if_neg z, if_neg (nI_nlt (by omega) (by omega))]
    have e4 : q + (if m - q < q + 2 then q + 2 else m - q) = cap q m := by rw [cap, if_neg e]
    rw [fx_nm_eq, e3, fx_nm_add, e4]
    rw [fb_lef (by omega) (by omega), fb_ltf (by omega) (by omega)]
    simp only []
    rw [fb_eqf (by omega) (by omega) (by omega), fx_nm_eq, k_sh0 (by omega)]
    rw [fx_nm_eq, k_shl0 (by omega)]
    refine ⟨mc, ms, by omega, by omega, ?_⟩
    obtain ⟨t1, t2, t3⟩ := hf
    refine ⟨cap q m, rfl, ?_, by omega, b1, by omega, fun x hx => ?_, h _ ⟨by omega, fun j hj => ?_, fun x hx => ?_⟩⟩
    · omega
    · obtain ⟨c, c1, c2⟩ := t3 x hx
      rw [c2]
      exact fits7 c1
    · rw [pk_cpy_in (by omega) (by omega), Nat.zero_add, Nat.sub_zero]
      exact t2 j hj
    · by_cases z : x < q
      · rw [pk_cpy_in (by omega) (by omega), Nat.zero_add, Nat.sub_zero]
        exact t3 x z
      · rw [pk_cpy_out (by omega)]
        exact ⟨0, by decide, rfl⟩

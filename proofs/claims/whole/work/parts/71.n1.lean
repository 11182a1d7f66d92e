/-! LOGIC: at, both sides -/
def tx (f : Nat → Int32) (l : List Nat) : Prop := ∀ j, j < l.length → f j = nI (l.getD j 0)
def ch7 (l : List Nat) : Prop := ∀ j, j < l.length → l.getD j 0 < 128
theorem k_sh0 {q : Nat} (hq : q < 2147483648) : (nI q) >>> ((nI 0) &&& 31) = nI q := by
  rw [pk_shrN hq _ 0 (by decide), Nat.pow_zero, Nat.div_one]
theorem sp_at6 {post : Int32 → Prop} {F : Nat → Int32} {l : List Nat} {a : Int32} (hl : l.length ≤ 400) (hF : tx F l) (no : (¬ ∃ j, j < l.length ∧ a = nI j) → post (-2)) (ok : ∀ j, j < l.length → a = nI j → post (nI (l.getD j 0))) : wp_X6_at post (nI l.length) F a := by
  unfold wp_X6_at
  rcases pk_ix a (n := l.length) (by omega) with h | h | ⟨j, hj, rfl⟩
  · rw [fb_t h]
    refine no ?_
    rintro ⟨j, hj, rfl⟩
    exact nI_pos (by omega) h
  · have hn : ¬ ∃ j, j < l.length ∧ a = nI j := by
      rintro ⟨j, hj, rfl⟩
      exact nI_ge hj (by omega) h
    exact fx_br_i (fun _ => no hn) (fun _ => fx_br_t h (no hn))
  · rw [fb_lt0 (by omega), fb_lef hj (by omega), fx_ix_n (by omega) (by omega), fx_nm_rd, hF j hj]
    exact ok j hj rfl
theorem sp_at5 {post : Int32 → Prop} {q : Nat} {F : Nat → Int32} {l : List Nat} {a : Int32} (hl : l.length ≤ q) (hq : q ≤ 1000) (hF : tx F l) (hc : ch7 l) (no : (¬ ∃ j, j < l.length ∧ a = nI j) → post (-2)) (ok : ∀ j, j < l.length → a = nI j → post (nI (l.getD j 0))) : wp_X5_at post (nI l.length) q F a := by
  unfold wp_X5_at wp_J4_length_8abf5 wp_J5_length_8abf5
  rcases pk_ix a (n := l.length) (by omega) with h | h | ⟨j, hj, rfl⟩
  · rw [fb_t h]
    refine no ?_
    rintro ⟨j, hj, rfl⟩
    exact nI_pos (by omega) h
  · have hn : ¬ ∃ j, j < l.length ∧ a = nI j := by
      rintro ⟨j, hj, rfl⟩
      exact nI_ge hj (by omega) h
    exact fx_br_i (fun _ => no hn) (fun _ => fx_br_f (Int32.not_lt.mpr h) (no hn))
  · have h7 := hc j hj
    rw [fb_lt0 (by omega)]
    simp only []
    rw [fb_ltt hj (by omega)]
    unfold wp_J4_charAt_5068e wp_J5_charAt_5068e wp_J0_checkIndex_df160 wp_J3_checkIndex_8e157
    have e1 : (if nI q < nI l.length then nI q else nI l.length) = nI l.length := if_neg (nI_nlt hl (by omega))
    rw [fx_nm_eq, k_sh0 (by omega), fx_nm_eq, e1, fb_lt0 (by omega), fb_ltt hj (by omega), fx_ix_n (by omega) (by omega), fx_nm_rd, hF j hj]
    rw [fx_nm_eq, fx_nm_eq, pk_andN (by omega) 8 (by decide), Nat.mod_eq_of_lt (by omega), pk_char, pk_tn (by omega), Nat.mod_eq_of_lt (by omega), fch (by omega)]
    simp only []
    rw [fch (by omega)]
    exact ok j hj rfl

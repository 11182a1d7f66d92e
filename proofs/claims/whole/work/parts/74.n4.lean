/-! LOGIC: a string appended -/
theorem fbT {A B : Prop} : fx_br True A B = A := fb_t trivial
theorem tv_cpy {f : Nat → Int32} {q p : Nat} {l : List Nat} (h : tv f q l) (hp : p < 66) (hq : l.length + fx_sl p ≤ q) : tv (va_cpy (fun j => nI (fx_sc p j)) f 0 l.length (fx_sl p)) q (l ++ fx_st.getD p []) := by
  obtain ⟨h1, h2, h3⟩ := h
  have hl : (fx_st.getD p []).length = fx_sl p := rfl
  refine ⟨by rw [List.length_append, hl]; exact hq, fun j hj => ?_, fun x hx => ?_⟩
  · rw [List.length_append, hl] at hj
    by_cases e : j < l.length
    · rw [pk_cpy_out (.inl e), h2 j e]
      rw [List.getD_eq_getElem?_getD, List.getD_eq_getElem?_getD, List.getElem?_append_left e]
    · rw [pk_cpy_in (by omega) (by omega), Nat.zero_add]
      rw [List.getD_eq_getElem?_getD, List.getElem?_append_right (by omega)]
      show nI ((fx_st.getD p []).getD (j - l.length) 0) = _
      rw [List.getD_eq_getElem?_getD]
  · by_cases e : l.length ≤ x ∧ x < l.length + fx_sl p
    · rw [pk_cpy_in e.1 e.2, Nat.zero_add]
      exact ⟨_, st_c hp (by omega), rfl⟩
    · rw [pk_cpy_out (by omega)]
      exact h3 x hx
theorem sp_aps {post : Int32 → Nat → (Nat → Int32) → Prop} {mc ms q p : Nat} {f : Nat → Int32} {l : List Nat} (hp : p < 66) (hl : l.length + fx_sl p ≤ 300) (hq : q ≤ 600) (hf : tv f q l) (hb : q < l.length + fx_sl p → 1 ≤ mc ∧ 1300 ≤ ms)
    (h : ∀ f', tv f' (cap q (l.length + fx_sl p)) (l ++ fx_st.getD p []) → post (nI (l.length + fx_sl p)) (cap q (l.length + fx_sl p)) f') : wp_J4_append_15ec4 post mc ms (nI l.length) q f p := by
  unfold wp_J4_append_15ec4 wp_J5_append_cf1ce
  refine ⟨mc, ms, by omega, by omega, ?_⟩
  simp only []
  rw [fl_t hp, k_len hp]
  refine fx_nm_to (nI (l.length + fx_sl p)) (nI_add _ _) ?_
  refine ⟨mc, ms, by omega, by omega, ?_⟩
  have hcl := cap_le (q := q) (m := l.length + fx_sl p)
  have hcb := cap_b (q := q) (m := l.length + fx_sl p) (B := 300) (by omega) hq
  refine sp_ens (by omega) hq hf hb (fun f' hf' => ?_)
  unfold wp_J5_putStringAt_47b60 wp_J5_inflateIfNeededFor_a7421 wp_J0_getBytes_840e7 wp_J0_coder_7d493
  simp (disch := omega) only [fl_t hp, fbT, fb_eqt, fx_nm_eq, k_shl0, nI_add]
  refine ⟨0, l.length, fx_sl p, rfl, rfl, rfl, by omega, by omega, by have := st_l hp; omega, by omega, fun x hx => ?_, ?_⟩
  · exact fits7 (st_c hp (by omega))
  · exact h _ (tv_cpy hf' hp (by omega))

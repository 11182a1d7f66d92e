/-! LOGIC: a sign, a string, appended -/
/-- what is left is enough for a text of length L -/
def bu (mc ms q L : Nat) : Prop := q < L → 600 ≤ q + 16 * mc ∧ 1300 * mc ≤ ms
theorem tv_up {f : Nat → Int32} {q : Nat} {l : List Nat} {c : Nat} (h : tv f q l) (hc : c < 128) (hq : l.length + 1 ≤ q) : tv (upd f l.length (nI c)) q (l ++ [c]) := by
  obtain ⟨h1, h2, h3⟩ := h
  refine ⟨by simp; omega, fun j hj => ?_, fun x hx => ?_⟩
  · rw [List.length_append, List.length_singleton] at hj
    by_cases e : j = l.length
    · subst e
      rw [pk_us]
      simp
    · rw [pk_un e, h2 j (by omega)]
      rw [List.getD_eq_getElem?_getD, List.getD_eq_getElem?_getD, List.getElem?_append_left (by omega)]
  · by_cases e : x = l.length
    · rw [e, pk_us]
      exact ⟨c, hc, rfl⟩
    · rw [pk_un e]
      exact h3 x hx
theorem nar8 {c : Nat} (h : c < 128) : vp_nar .byte ((nI c).toInt8.toInt32) = nI c := by
  have : ∀ c : Nat, c < 128 → vp_nar .byte ((nI c).toInt8.toInt32) = nI c := by decide +kernel
  exact this c h
theorem sp_apc {post : Int32 → Nat → (Nat → Int32) → Prop} {mc ms q c : Nat} {f : Nat → Int32} {l : List Nat} (hl : l.length < 300) (hq : q ≤ 600) (hc : c < 128) (hf : tv f q l) (hb : q < l.length + 1 → 1 ≤ mc ∧ 1300 ≤ ms)
    (h : ∀ f', tv f' (cap q (l.length + 1)) (l ++ [c]) → post (nI (l.length + 1)) (cap q (l.length + 1)) f') : wp_J4_append_cf468 post mc ms (nI l.length) q f (nI c) := by
  unfold wp_J4_append_cf468 wp_J5_append_3fe6f
  refine ⟨mc, ms, by omega, by omega, ?_⟩
  refine fx_nm_to (nI (l.length + 1)) (nI_add _ _) ?_
  refine ⟨mc, ms, by omega, by omega, ?_⟩
  have hcl := cap_le (q := q) (m := l.length + 1)
  have hcb := cap_b (q := q) (m := l.length + 1) (B := 300) (by omega) hq
  refine sp_ens (by omega) hq hf hb (fun f' hf' => ?_)
  unfold wp_J5_isLatin1_aae02 wp_J1_canEncode_fc78d
  simp only []
  rw [fb_eq0f (by decide) (by decide), fb_ltf (by omega) (by omega)]
  rw [fb_eq0f (by decide) (by decide)]
  refine fx_nm_to (nI (l.length + 1)) (nI_add _ _) ?_
  rw [fx_nm_eq, nar8 hc, fx_ix_n (by omega) (by omega), fx_nm_up]
  exact h _ (tv_up hf' hc (by omega))

/-! LOGIC: a number appended by the class -/
theorem fj2 {T0 T1 : Type} {K : T0 → T1 → Prop} {B : (T0 → T1 → Prop) → Prop} : fx_jn2 K B = B K := rfl
theorem fdv {y : Int32} {P : Prop} (h : ¬ y = 0) : fx_dv y P = P := propext ⟨fun z => z.2, fun z => ⟨h, z⟩⟩
theorem nar9 {c : Nat} (h : c < 128) : vp_nar .byte (nI c) = nI c := by
  have : ∀ c : Nat, c < 128 → vp_nar .byte (nI c) = nI c := by decide +kernel
  exact this c h
theorem upd_cm {f : Nat → Int32} {i j : Nat} {x y : Int32} (h : i ≠ j) : upd (upd f i x) j y = upd (upd f j y) i x := by
  funext k
  by_cases e : k = j
  · subst e
    rw [pk_us, pk_un (fun z => h z.symm), pk_us]
  · rw [pk_un e]
    by_cases e2 : k = i
    · subst e2
      rw [pk_us, pk_us]
    · rw [pk_un e2, pk_un e2, pk_un e]
theorem tv_up2 {f : Nat → Int32} {q : Nat} {l : List Nat} {c d : Nat} (h : tv f q l) (hc : c < 128) (hd : d < 128) (hq : l.length + 2 ≤ q) : tv (upd (upd f (l.length + 1) (nI d)) l.length (nI c)) q (l ++ [c, d]) := by
  rw [upd_cm (by omega)]
  have e : (l ++ [c]).length = l.length + 1 := by rw [List.length_append]; rfl
  have := tv_up (tv_up h hc (by omega)) hd (by rw [e]; omega)
  rw [e, List.append_assoc] at this
  exact this
theorem tv_up3 {f : Nat → Int32} {q : Nat} {l : List Nat} {c d e : Nat} (h : tv f q l) (hc : c < 128) (hd : d < 128) (he : e < 128) (hq : l.length + 3 ≤ q) : tv (upd (upd (upd f (l.length + 2) (nI e)) (l.length + 1) (nI d)) l.length (nI c)) q (l ++ [c, d, e]) := by
  rw [upd_cm (i := l.length + 1) (by omega), upd_cm (i := l.length + 2) (by omega), upd_cm (by omega)]
  have e1 : (l ++ [c]).length = l.length + 1 := by rw [List.length_append]; rfl
  have := tv_up2 (tv_up h hc (by omega)) hd he (by rw [e1]; omega)
  rw [e1, List.append_assoc, upd_cm (by omega)] at this
  exact this
theorem sp_gch {post : Int32 → (Nat → Int32) → Prop} {n q : Nat} {f : Nat → Int32} {l : List Nat} (hn : n < 1000) (hq : q ≤ 1000) (hl : l.length + (dg n).length ≤ q) (hf : tv f q l) (h : ∀ r f', tv f' q (l ++ dg n) → post r f') : wp_J6_getChars_ba4f3 post q f (nI n) (nI (l.length + (dg n).length)) := by
  obtain ⟨-, -, -, a4, a5, a6, a7, a8⟩ := ng_all n hn
  unfold wp_J6_getChars_ba4f3
  rw [fj1, fb_0le (by omega)]
  show fx_jn1 _ _
  rw [fj1, fb_eq0t rfl, fx_nm_eq]
  by_cases n1 : n < 10
  · have hd : dg n = [48 + n] := by unfold dg; rw [if_pos n1]
    rw [hd] at hl h ⊢
    replace hl : l.length + 1 ≤ q := hl
    refine ⟨1, ?_⟩
    show fx_br ((-100) < -(nI n)) (fx_nm (nI (l.length + 1) + (-1)) _) _
    rw [fb_t (a4.mpr (by omega)), fx_nm_m1 (by omega), fx_nm_eq, a6, fx_ix_n (by omega) (by omega), fx_nm_eq, fx_ix_n (by omega) (by omega), fx_nm_eq, nar9 (by omega), fj2, fb_t (a5.mpr (by omega))]
    show fx_br (nI 0 = 0) _ _
    rw [fb_eq0t rfl]
    refine h _ _ ?_
    rw [Nat.mod_eq_of_lt n1, nar9 (by omega)]
    exact tv_up (c := 48 + n) hf (by omega) hl
  by_cases n2 : n < 100
  · have hd : dg n = [48 + n / 10, 48 + n % 10] := by unfold dg; rw [if_neg n1, if_pos n2]
    rw [hd] at hl h ⊢
    replace hl : l.length + 2 ≤ q := hl
    refine ⟨1, ?_⟩
    show fx_br ((-100) < -(nI n)) (fx_nm (nI (l.length + 2) + (-1)) _) _
    rw [fb_t (a4.mpr (by omega)), fx_nm_m1 (by omega), fx_nm_eq, a6, fx_ix_n (by omega) (by omega), fx_nm_eq, fx_ix_n (by omega) (by omega), fx_nm_eq, nar9 (by omega), fj2, fb_f (fun z => absurd (a5.mp z) (by omega))]
    rw [fx_nm_m1 (by omega), fx_nm_eq, fx_ix_n (by omega) (by omega), fx_nm_eq, fx_ix_n (by omega) (by omega), fx_nm_eq, nar9 (by omega)]
    show fx_br (nI 0 = 0) _ _
    rw [fb_eq0t rfl]
    rw [nar9 (by omega)]
    exact h _ _ (tv_up2 (c := 48 + n / 10) (d := 48 + n % 10) hf (by omega) (by omega) hl)
  have hd : dg n = [48 + n / 100, 48 + n / 10 % 10, 48 + n % 10] := by unfold dg; rw [if_neg n1, if_neg n2]
  rw [hd] at hl h ⊢
  replace hl : l.length + 3 ≤ q := hl
  obtain ⟨-, -, -, b4, b5, b6, -, -⟩ := ng_all (n / 100) (by omega)
  refine ⟨2, ?_⟩
  show fx_br ((-100) < -(nI n)) _ (fx_dv (nI 100) (fx_nm (-(nI n) / nI 100) (fun v27 => fx_nm (v27 * nI 100) (fun v28 => fx_nm (v28 - -(nI n)) (fun v29 => fx_nm (nI (l.length + 3) + (-1)) _)))))
  rw [fb_f (fun z => absurd (a4.mp z) (by omega)), fdv (by decide), fx_nm_eq, a7, fx_nm_eq, fx_nm_eq, a8]
  rw [fx_nm_m1 (by omega), fx_ix_n (by omega) (by omega), fx_nm_eq, fx_ix_n (by omega) (by omega), fx_nm_eq, nar9 (by omega)]
  rw [fx_nm_m1 (by omega), fx_ix_n (by omega) (by omega), fx_nm_eq, fx_ix_n (by omega) (by omega), fx_nm_eq, nar9 (by omega)]
  show fx_br ((-100) < -(nI (n / 100))) (fx_nm (nI (l.length + 1) + (-1)) _) _
  rw [fb_t (b4.mpr (by omega)), fx_nm_m1 (by omega), fx_nm_eq, b6, fx_ix_n (by omega) (by omega), fx_nm_eq, fx_ix_n (by omega) (by omega), fx_nm_eq, nar9 (by omega), fj2, fb_t (b5.mpr (by omega))]
  show fx_br (nI 0 = 0) _ _
  rw [fb_eq0t rfl]
  refine h _ _ ?_
  have e1 : n % 100 % 10 = n % 10 := by omega
  have e2 : n % 100 / 10 = n / 10 % 10 := by omega
  have e3 : n / 100 % 10 = n / 100 := by omega
  rw [e1, e2, e3, nar9 (by omega)]
  exact tv_up3 (c := 48 + n / 100) (d := 48 + n / 10 % 10) (e := 48 + n % 10) hf (by omega) (by omega) (by omega) hl
theorem sp_api {post : Int32 → Nat → (Nat → Int32) → Prop} {mc ms q n : Nat} {f : Nat → Int32} {l : List Nat} (hn : n < 1000) (hl : l.length + (dg n).length ≤ 300) (hq : q ≤ 600) (hf : tv f q l) (hb : q < l.length + (dg n).length → 1 ≤ mc ∧ 1300 ≤ ms)
    (h : ∀ f', tv f' (cap q (l.length + (dg n).length)) (l ++ dg n) → post (nI (l.length + (dg n).length)) (cap q (l.length + (dg n).length)) f') : wp_J4_append_bf812 post mc ms (nI l.length) q f (nI n) := by
  unfold wp_J4_append_bf812 wp_J5_append_c97b9
  refine ⟨mc, ms, by omega, by omega, ?_⟩
  refine sp_ssz hn ?_
  refine fx_nm_to (nI (l.length + (dg n).length)) (nI_add _ _) ?_
  refine ⟨mc, ms, by omega, by omega, ?_⟩
  have hcl := cap_le (q := q) (m := l.length + (dg n).length)
  have hcb := cap_b (q := q) (m := l.length + (dg n).length) (B := 300) (by omega) hq
  refine sp_ens (by omega) hq hf hb (fun f' hf' => ?_)
  unfold wp_J5_isLatin1_aae02
  simp only []
  rw [fb_eq0f (by decide) (by decide)]
  exact sp_gch hn (by omega) hcl.2 hf' (fun r f'' h'' => h f'' h'')
theorem tv_0 {f : Nat → Int32} {q : Nat} {l : List Nat} (h : tv f q l) : tv f q [] := ⟨Nat.zero_le _, fun j hj => absurd hj (Nat.not_lt_zero _), h.2.2⟩
theorem sp_set0 {post : Int32 → Int32 → Nat → (Nat → Int32) → Prop} {mc ms q : Nat} {lt : Int32} {f : Nat → Int32} {l : List Nat} (hq : q ≤ 600) (hf : tv f q l) (h : ∀ lt' f', tv f' q [] → post lt' (nI 0) q f') : wp_J4_setLength_d00df post mc ms lt (nI l.length) q f (nI 0) := by
  have hl := hf.1
  unfold wp_J4_setLength_d00df wp_J5_setLength_d00df
  refine ⟨mc, ms, by omega, by omega, ?_⟩
  simp only []
  rw [fb_0le (by omega)]
  refine ⟨mc, ms, by omega, by omega, ?_⟩
  have e : cap q 0 = q := if_pos (Nat.zero_le _)
  refine sp_ens (m := 0) (by omega) hq hf (fun z => absurd z (by omega)) (fun f' hf' => ?_)
  rw [e] at hf' ⊢
  rw [fb_let (by omega) (by omega)]
  exact fx_br_i (fun _ => h _ _ (tv_0 hf')) (fun _ => h _ _ (tv_0 hf'))
/-- how the room of the text may grow -/
def gq (q q' : Nat) : Prop := (q' = q ∨ 2 * q + 2 ≤ q') ∧ q' ≤ 600
theorem gq_r {q : Nat} (h : q ≤ 600) : gq q q := ⟨.inl rfl, h⟩
theorem gq_t {a b c : Nat} (h1 : gq a b) (h2 : gq b c) : gq a c := by
  obtain ⟨h1, -⟩ := h1
  obtain ⟨h2, h3⟩ := h2
  exact ⟨by omega, h3⟩
theorem gq_c {q m : Nat} (hm : m ≤ 300) (hq : q ≤ 600) : gq q (cap q m) := by
  have := cap_b (q := q) (m := m) (B := 300) hm hq
  refine ⟨?_, this⟩
  unfold cap
  split
  · exact .inl rfl
  · split
    · exact .inr (by omega)
    · exact .inr (by omega)
/-- the appends, where u says whether the text may grow at all -/
theorem su_c {post : Int32 → Nat → (Nat → Int32) → Prop} {u q T c : Nat} {f : Nat → Int32} {l : List Nat} (hT : T ≤ 300) (hl : l.length + 1 ≤ T) (hq : q ≤ 600) (hu : q < T → u = 1) (hc : c < 128) (hf : tv f q l)
    (h : ∀ q' f', gq q q' → tv f' q' (l ++ [c]) → post (nI (l ++ [c]).length) q' f') : wp_J4_append_cf468 post u (1300 * u) (nI l.length) q f (nI c) := by
  have e : (l ++ [c]).length = l.length + 1 := by rw [List.length_append]; rfl
  rw [e] at h
  exact sp_apc (by omega) hq hc hf (fun z => by have := hu (by omega); omega) (fun f' hf' => h _ _ (gq_c (by omega) hq) hf')
theorem su_s {post : Int32 → Nat → (Nat → Int32) → Prop} {u q T p : Nat} {f : Nat → Int32} {l : List Nat} (hT : T ≤ 300) (hp : p < 66) (hl : l.length + (fx_st.getD p []).length ≤ T) (hq : q ≤ 600) (hu : q < T → u = 1) (hf : tv f q l)
    (h : ∀ q' f', gq q q' → tv f' q' (l ++ fx_st.getD p []) → post (nI (l ++ fx_st.getD p []).length) q' f') : wp_J4_append_15ec4 post u (1300 * u) (nI l.length) q f p := by
  have e : (l ++ fx_st.getD p []).length = l.length + fx_sl p := List.length_append
  rw [e] at h
  replace hl : l.length + fx_sl p ≤ T := hl
  exact sp_aps hp (by omega) hq hf (fun z => by have := hu (by omega); omega) (fun f' hf' => h _ _ (gq_c (by omega) hq) hf')
theorem su_i {post : Int32 → Nat → (Nat → Int32) → Prop} {u q T n : Nat} {f : Nat → Int32} {l : List Nat} (hT : T ≤ 300) (hn : n < 1000) (hl : l.length + (dg n).length ≤ T) (hq : q ≤ 600) (hu : q < T → u = 1) (hf : tv f q l)
    (h : ∀ q' f', gq q q' → tv f' q' (l ++ dg n) → post (nI (l ++ dg n).length) q' f') : wp_J4_append_bf812 post u (1300 * u) (nI l.length) q f (nI n) := by
  have e : (l ++ dg n).length = l.length + (dg n).length := List.length_append
  rw [e] at h
  exact sp_api hn (by omega) hq hf (fun z => by have := hu (by omega); omega) (fun f' hf' => h _ _ (gq_c (by omega) hq) hf')

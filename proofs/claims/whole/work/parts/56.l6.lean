/-! LOGIC: signs, letters, patterns of the class -/
def sgn (p i : Nat) : Nat := if i < fx_sl p then fx_sc p i else 46
theorem st_l {p : Nat} (h : p < 66) : fx_sl p < 50 := by
  have : ∀ p, p < 66 → fx_sl p < 50 := by decide +kernel
  exact this p h
theorem st_c {p i : Nat} (h : p < 66) (hi : i < fx_sl p) : fx_sc p i < 128 := by
  have : ∀ p, p < 66 → ∀ i, i < 50 → fx_sc p i < 128 := by decide +kernel
  exact this p h i (Nat.lt_trans hi (st_l h))
theorem sgn_b {p i : Nat} (h : p < 66) : sgn p i < 128 := by
  unfold sgn
  split
  · exact st_c h (by assumption)
  · decide
theorem fch {q : Nat} {P : Prop} (h : q < 65536) : fx_ch (nI q) P = P := propext ⟨fun z => z.2, fun z => ⟨⟨q, h, rfl⟩, z⟩⟩
theorem fbo0 {P : Prop} : fx_bo (nI 0) P = P := propext ⟨fun z => z.2, fun z => ⟨.inl rfl, z⟩⟩
theorem fbo1 {P : Prop} : fx_bo (nI 1) P = P := propext ⟨fun z => z.2, fun z => ⟨.inr rfl, z⟩⟩
theorem k_len {post : Int32 → Prop} {p : Nat} (h : p < 66) : wp_J0_length_8abf5 post p = post (nI (fx_sl p)) := by
  have hl := st_l h
  unfold wp_J0_length_8abf5 wp_J0_coder_7d493
  rw [fl_t h, fl_t h, fl_t h, fl_t h]
  simp only []
  rw [fx_nm_eq, pk_shrN (by omega) _ 0 (by decide), Nat.pow_zero, Nat.div_one]
theorem k_charAt {post : Int32 → Prop} {p i : Nat} (h : p < 66) (hi : i < fx_sl p) : wp_J0_charAt_5068e post p (nI i) = post (nI (fx_sc p i)) := by
  have hl := st_l h
  have hc := st_c h hi
  unfold wp_J0_charAt_5068e wp_J0_isLatin1_aae02 wp_J1_charAt_3b067 wp_J0_checkIndex_df160 wp_J3_checkIndex_8e157
  rw [fl_t h, fl_t h]
  simp only []
  rw [fb_eq0f (by decide) (by decide), fl_t h, fl_t h, fb_lt0 (by omega), fb_ltt hi (by omega), fl_t h, fx_ix_n hi (by omega)]
  rw [fx_nm_eq, fx_nm_eq, pk_andN (by omega) 8 (by decide), Nat.mod_eq_of_lt (by omega), fx_nm_eq, pk_char, pk_tn (by omega), Nat.mod_eq_of_lt (by omega), fch (by omega), fch (by omega)]
theorem k_sign {post : Int32 → Prop} {p i : Nat} (h : p < 66) (hi : i < 1000000) : wp_X5_signAt post p (nI i) = post (nI (sgn p i)) := by
  have hl := st_l h
  unfold wp_X5_signAt sgn
  rw [fb_lt0 (by omega), fl_t h, k_len h]
  by_cases hk : i < fx_sl p
  · rw [fb_lef hk (by omega), fl_t h, k_charAt h hk, fch (Nat.lt_trans (st_c h hk) (by decide)), if_pos hk]
  · rw [fb_let (by omega) (by omega), if_neg hk]
theorem k_takes3 {post : Int32 → Prop} {r : Nat} (h : r < 18) : wp_X3_takes post r = post (nI (tk r)) := by
  have h1 : ∀ r, r < 18 → fx_ra.getD r 0 < 66 := by decide +kernel
  have h2 : ∀ r, r < 18 → fx_sl (fx_ra.getD r 0) / 4 = tk r := by decide +kernel
  have h3 := st_l (h1 r h)
  unfold wp_X3_takes
  rw [fl_t h, fl_t (h1 r h), k_len (h1 r h)]
  have : fx_dv (nI 4) (fx_nm (nI (fx_sl (fx_ra.getD r 0)) / nI 4) (fun v2 => post v2)) = (fx_nm (nI (fx_sl (fx_ra.getD r 0)) / nI 4) (fun v2 => post v2)) := propext ⟨fun z => z.2, fun z => ⟨by decide, z⟩⟩
  rw [this, fx_nm_eq, pk_div (by omega) (by decide) (by decide), h2 r h]
/-- the kind for a sign -/
def kf (c : Nat) : Nat := if 49 ≤ c ∧ c ≤ 57 then c - 48 else if 65 ≤ c ∧ c ≤ 67 then c - 55 else 0
theorem k_kindFor {post : Int32 → Prop} {c : Nat} (h : c < 128) : wp_X1_kindFor post (nI c) = post (nI (kf c)) := by
  unfold wp_X1_kindFor kf
  by_cases h1 : c < 49
  · rw [fb_ltt h1 (by omega), fb_ltt (by omega) (by omega), if_neg (by omega), if_neg (by omega)]
  · rw [fb_ltf (by omega) (by omega)]
    by_cases h2 : c ≤ 57
    · rw [fb_ltf (by omega) (by omega), fx_nm_sub (by omega), if_pos (by omega)]
    · rw [fb_ltt (by omega) (by omega), if_neg (by omega)]
      by_cases h3 : c < 65
      · rw [fb_ltt h3 (by omega), if_neg (by omega)]
      · rw [fb_ltf (by omega) (by omega)]
        by_cases h4 : c ≤ 67
        · rw [fb_ltf (by omega) (by omega), fx_nm_sub (by omega), fx_nm_add, if_pos (by omega), show c - 65 + 10 = c - 55 by omega]
        · rw [fb_ltt (by omega) (by omega), if_neg (by omega)]
/-- what letters stand for -/
abbrev En := Nat → Option Nat
def e0 : En := fun _ => none
def eu (E : En) (k v : Nat) : En := fun s => if s = k then some v else E s
def me (M : Nat → Int32) (E : En) : Prop := ∀ s, s < 26 → (E s = none → M s = -1) ∧ ∀ v, E s = some v → v < 1000 ∧ M s = nI v
theorem me_up {M : Nat → Int32} {E : En} {k v : Nat} (h : me M E) (hv : v < 1000) : me (upd M k (nI v)) (eu E k v) := by
  intro s hs
  by_cases e : s = k
  · subst e
    refine ⟨fun z => ?_, fun w z => ?_⟩
    · simp [eu] at z
    · simp [eu] at z
      subst z
      exact ⟨hv, pk_us⟩
  · obtain ⟨h1, h2⟩ := h s hs
    rw [pk_un e]
    simp only [eu, if_neg e]
    exact ⟨h1, h2⟩
def lit (c : Nat) : Nat := if 48 ≤ c ∧ c ≤ 57 then c - 48 else 0
def ag (E : En) (c v : Nat) : Option En :=
  if c = 46 then some E
  else if 97 ≤ c ∧ c ≤ 122 then
    match E (c - 97) with
    | none => some (eu E (c - 97) v)
    | some u => if u = v then some E else none
  else if lit c = v then some E else none
theorem k_mean_l {post : Int32 → Prop} {M : Nat → Int32} {c : Nat} (h1 : 97 ≤ c) (h2 : c ≤ 122) : wp_X1_meaning post M (nI c) = post (M (c - 97)) := by
  unfold wp_X1_meaning
  rw [fb_ltf (by omega) (by omega), fb_ltf (by omega) (by omega), fx_nm_sub (by omega), fx_ix_n (by omega) (by omega), fx_nm_rd]
theorem k_mean_d {post : Int32 → Prop} {M : Nat → Int32} {c : Nat} (h : c < 128) (h1 : ¬ (97 ≤ c ∧ c ≤ 122)) : wp_X1_meaning post M (nI c) = post (nI (lit c)) := by
  unfold wp_X1_meaning lit
  have rest : fx_br (nI c < nI 48) (post (nI 0)) (fx_br (nI 57 < nI c) (post (nI 0)) (fx_nm (nI c - nI 48) (fun v => post v))) = post (nI (if 48 ≤ c ∧ c ≤ 57 then c - 48 else 0)) := by
    by_cases a : c < 48
    · rw [fb_ltt a (by omega), if_neg (by omega)]
    · rw [fb_ltf (by omega) (by omega)]
      by_cases b : c ≤ 57
      · rw [fb_ltf (by omega) (by omega), fx_nm_sub (by omega), if_pos (by omega)]
      · rw [fb_ltt (by omega) (by omega), if_neg (by omega)]
  by_cases g : c < 97
  · rw [fb_ltt g (by omega)]
    exact rest
  · rw [fb_ltf (by omega) (by omega), fb_ltt (by omega) (by omega)]
    exact rest
theorem sp_agree {post : Int32 → (Nat → Int32) → Prop} {M : Nat → Int32} {E : En} {c v : Nat} (hc : c < 128) (hv : v < 1000) (hM : me M E)
    (no : ag E c v = none → ∀ M', post (nI 0) M') (yes : ∀ E', ag E c v = some E' → ∀ M', me M' E' → post (nI 1) M') : wp_X1_agree post M (nI c) (nI v) := by
  unfold wp_X1_agree
  refine fb_eq (by omega) (by decide) (fun e => yes E (by simp [ag, e]) M hM) (fun e => ?_)
  rw [fj1]
  by_cases hl : 97 ≤ c ∧ c ≤ 122
  · obtain ⟨l1, l2⟩ := hl
    rw [fb_ltf (by omega) (by omega), fb_ltf (by omega) (by omega), fx_nm_sub (by omega), fx_ix_n (by omega) (by omega), fx_nm_rd]
    obtain ⟨m1, m2⟩ := hM (c - 97) (by omega)
    have hag : ag E c v = (match E (c - 97) with | none => some (eu E (c - 97) v) | some u => if u = v then some E else none) := by
      simp only [ag, if_neg e, if_pos (show 97 ≤ c ∧ c ≤ 122 from ⟨l1, l2⟩)]
    cases hE : E (c - 97) with
    | none =>
      rw [hE] at hag
      rw [fb_t (m1 hE), fx_nm_sub (by omega), fx_ix_n (by omega) (by omega), fx_nm_up]
      simp only []
      rw [k_mean_l l1 l2, pk_us]
      exact fb_eq (by omega) (by omega) (fun _ => yes _ hag _ (me_up hM hv)) (fun z => absurd rfl z)
    | some u =>
      rw [hE] at hag
      obtain ⟨u1, u2⟩ := m2 u hE
      rw [u2, fb_m1 (by omega)]
      simp only []
      rw [k_mean_l l1 l2, u2]
      refine fb_eq (by omega) (by omega) (fun z => yes E ?_ _ hM) (fun z => no ?_ _)
      · rw [hag]; simp [z]
      · rw [hag]; simp [z]
  · have hag : ag E c v = if lit c = v then some E else none := by
      simp only [ag, if_neg e, if_neg hl]
    have lb : lit c < 128 := by unfold lit; split <;> omega
    have fin : wp_X1_meaning (fun r3 => fx_br (r3 = nI v) (post (nI 1) M) (post (nI 0) M)) M (nI c) := by
      rw [k_mean_d hc hl]
      refine fb_eq (by omega) (by omega) (fun z => yes E ?_ _ hM) (fun z => no ?_ _)
      · rw [hag, if_pos z]
      · rw [hag, if_neg z]
    by_cases g : c < 97
    · rw [fb_ltt g (by omega)]
      exact fin
    · rw [fb_ltf (by omega) (by omega), fb_ltt (by omega) (by omega)]
      exact fin
def told (E : En) (p st : Nat) (q : Q4) : Option En :=
  if q.1 = kf (sgn p st) then (ag E (sgn p (st + 1)) q.2.1).bind (fun E => (ag E (sgn p (st + 2)) q.2.2.1).bind (fun E => ag E (sgn p (st + 3)) q.2.2.2)) else none
theorem kf_b {c : Nat} (h : c < 128) : kf c < 128 := by
  unfold kf
  split
  · omega
  · split <;> omega
set_option maxHeartbeats 1000000 in
theorem sp_told {post : Int32 → (Nat → Int32) → Prop} {K N M : Nat → Int32} {E : En} {k p st : Nat} {q : Q4} (hk1 : 1 ≤ k) (hk : k ≤ 300) (hq : r3 K N k q) (hb : q_b q) (hp : p < 66) (hst : st < 1000) (hM : me M E)
    (no : told E p st q = none → ∀ M', post (nI 0) M') (yes : ∀ E', told E p st q = some E' → ∀ M', me M' E' → post (nI 1) M') : wp_X5_isAsTold post K N M (nI k) p (nI st) := by
  obtain ⟨q1, q2, q3, q4⟩ := hq
  obtain ⟨b1, b2, b3, b4⟩ := hb
  have s0 := sgn_b (i := st) hp
  have s1 := sgn_b (i := st + 1) hp
  have s2 := sgn_b (i := st + 2) hp
  have s3 := sgn_b (i := st + 3) hp
  have hkf := kf_b s0
  unfold wp_X5_isAsTold
  rw [k4_kind hk1 (by omega) (by omega), k_sign hp (by omega), k_kindFor s0, q1]
  refine fb_eq (by omega) (by omega) (fun e => ?_) (fun e => no (by simp only [told, if_neg e]) _)
  have ht : told E p st q = (ag E (sgn p (st + 1)) q.2.1).bind (fun E => (ag E (sgn p (st + 2)) q.2.2.1).bind (fun E => ag E (sgn p (st + 3)) q.2.2.2)) := by simp only [told, if_pos e]
  refine wh2_up 4 (fun i M => i = 1 ∧ me M E ∨ (∃ E1, ag E (sgn p (st + 1)) q.2.1 = some E1 ∧ (i = 2 ∧ me M E1 ∨ ∃ E2, ag E1 (sgn p (st + 2)) q.2.2.1 = some E2 ∧ (i = 3 ∧ me M E2 ∨ ∃ E3, ag E2 (sgn p (st + 3)) q.2.2.2 = some E3 ∧ i = 4 ∧ me M E3)))) (fun rec i M hi hI hr => ?_) 1 M (by omega) (.inl ⟨rfl, hM⟩)
  rcases hI with ⟨rfl, hM⟩ | ⟨E1, a1, ⟨rfl, hM⟩ | ⟨E2, a2, ⟨rfl, hM⟩ | ⟨E3, a3, rfl, hM⟩⟩⟩
  · rw [fb_ltf (by omega) (by omega), fx_nm_add, k_sign hp (by omega), k4_number1 hk1 (by omega) (by omega) (by omega), q2]
    refine sp_agree s1 (by omega) hM (fun z M' => ?_) (fun E' z M' hM' => ?_)
    · rw [fb_eq0t rfl]
      exact no (by rw [ht, z]; rfl) _
    · rw [fb_eq0f (by decide) (by decide), fx_nm_add]
      exact hr _ (by omega) (.inr ⟨E', z, .inl ⟨rfl, hM'⟩⟩)
  · rw [fb_ltf (by omega) (by omega), fx_nm_add, k_sign hp (by omega), k4_number2 hk1 (by omega) (by omega) (by omega), q3]
    refine sp_agree s2 (by omega) hM (fun z M' => ?_) (fun E' z M' hM' => ?_)
    · rw [fb_eq0t rfl]
      exact no (by rw [ht, a1]; show (ag E1 _ _).bind _ = none; rw [z]; rfl) _
    · rw [fb_eq0f (by decide) (by decide), fx_nm_add]
      exact hr _ (by omega) (.inr ⟨E1, a1, .inr ⟨E', z, .inl ⟨rfl, hM'⟩⟩⟩)
  · rw [fb_ltf (by omega) (by omega), fx_nm_add, k_sign hp (by omega), k4_number3 hk1 (by omega) (by omega) (by omega), q4]
    refine sp_agree s3 (by omega) hM (fun z M' => ?_) (fun E' z M' hM' => ?_)
    · rw [fb_eq0t rfl]
      exact no (by rw [ht, a1]; show (ag E1 _ _).bind _ = none; rw [a2]; exact z) _
    · rw [fb_eq0f (by decide) (by decide), fx_nm_add]
      exact hr _ (by omega) (.inr ⟨E1, a1, .inr ⟨E2, a2, .inr ⟨E', z, rfl, hM'⟩⟩⟩)
  · rw [fb_ltt (by omega) (by omega)]
    exact yes E3 (by rw [ht, a1]; show (ag E1 _ _).bind _ = _; rw [a2]; exact a3) _ hM

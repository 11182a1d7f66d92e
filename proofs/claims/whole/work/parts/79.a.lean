/-! LOGIC: the reference's phrases and numbers -/
def ps : List Nat := [0, 2, 4, 6, 8, 11, 13, 15, 17, 19, 21, 23, 25, 27, 29, 31, 33, 35, 37, 39, 42, 44, 46, 49, 52, 56, 60, 63, 66, 69, 71, 74, 76, 79, 81, 85, 88, 90, 92, 94, 96]
def zn : List Nat := [1, 1, 3, 3, 5, 5, 7, 7, 10, 10, 10, 12, 12, 14, 14, 16, 16, 18, 18, 20, 20, 22, 22, 24, 24, 26, 26, 28, 28, 30, 30, 32, 32, 34, 34, 36, 36, 38, 38, 41, 41, 41, 43, 43, 45, 45, 48, 48, 48, 51, 51, 51, 55, 55, 55, 55, 59, 59, 59, 59, 62, 62, 62, 65, 65, 65, 68, 68, 68, 70, 70, 73, 73, 73, 75, 75, 78, 78, 78, 80, 80, 84, 84, 84, 84, 87, 87, 87, 89, 89, 91, 91, 93, 93, 95, 95, 97, 97]
def pz : List (List Nat) := [[97, 120, 105, 111, 109], [103, 105, 118, 101, 110], [105, 116, 115, 101, 108, 102], [98, 101, 108, 111, 119], [112, 114, 111, 112, 101, 114, 116, 105, 101, 115], [99, 108, 97, 115, 115], [112, 114, 111, 112, 101, 114, 116, 121], [98, 101, 103, 105, 110, 115], [108, 101, 97, 100, 115], [101, 105, 116, 104, 101, 114], [116, 104, 114, 111, 117, 103, 104], [111, 116, 104, 101, 114], [115, 119, 97, 112], [101, 113, 117, 97, 108], [111, 110, 101], [97, 112, 97, 114, 116], [110, 111, 116], [97, 110, 121, 116, 104, 105, 110, 103], [110, 111, 116, 104, 105, 110, 103], [99, 111, 110, 116, 114, 97, 100, 105, 99, 116, 105, 111, 110], [99, 108, 97, 115, 115, 32], [119, 104, 97, 116, 32], [32, 105, 115, 32, 98, 101, 108, 111, 119, 32, 99, 108, 97, 115, 115, 32], [32, 105, 115, 32, 98, 101, 108, 111, 119, 32], [32, 98, 101, 103, 105, 110, 115, 32, 97, 116, 32, 105, 115, 32, 99, 108, 97, 115, 115, 32], [32, 108, 101, 97, 100, 115, 32, 116, 111, 32, 105, 115, 32, 99, 108, 97, 115, 115, 32], [32, 97, 110, 100, 32, 99, 108, 97, 115, 115, 32], [32, 103, 111, 101, 115, 32, 116, 104, 114, 111, 117, 103, 104], [32, 103, 111, 101, 115, 32, 101, 105, 116, 104, 101, 114, 32, 119, 97, 121], [32, 105, 115, 32], [32, 108, 101, 97, 100, 115, 32, 116, 111, 32, 111, 110, 101], [32, 105, 115, 32, 110, 111, 116, 32], [32, 105, 115, 32, 99, 108, 97, 115, 115, 32], [32], [32, 104, 97, 118, 101, 32, 110, 111, 116, 104, 105, 110, 103, 32, 105, 110, 32, 99, 111, 109, 109, 111, 110], [32, 116, 104, 101, 32, 111, 116, 104, 101, 114, 32, 119, 97, 121], [46, 32], [44, 32, 98, 121, 32], [32, 102, 114, 111, 109, 32], [32, 97, 110, 100, 32], [46]]
def by8 (w t : Nat) : Nat := w / 2 ^ (56 - 8 * t) % 256
def wby (w : Nat) : Nat → List Nat
  | 0 => []
  | t + 1 => if by8 w t = 0 then wby w t else wby w t ++ [by8 w t]
def pby (s : Nat) : Nat → List Nat
  | 0 => []
  | d + 1 => pby s d ++ wby (fx_ph.getD (s + d) 0) 8
def shf (t : Nat) : Int32 := if t < 8 then nI (56 - 8 * t) else -8
theorem wby_b {w : Nat} : ∀ t, (wby w t).length ≤ t
  | 0 => Nat.le_refl _
  | t + 1 => by
    have := wby_b (w := w) t
    rw [wby]
    split
    · omega
    · rw [List.length_append, List.length_singleton]; omega
theorem pby_b {s : Nat} : ∀ d, (pby s d).length ≤ 8 * d
  | 0 => Nat.le_refl _
  | d + 1 => by
    have h1 := pby_b (s := s) d
    have h2 := wby_b (w := fx_ph.getD (s + d) 0) 8
    rw [pby, List.length_append]
    omega
theorem ph_z : ∀ j : Nat, j < 98 → (fx_ph.getD j 0 = 0 → zn.getD j 0 = j) ∧ (¬ fx_ph.getD j 0 = 0 → j + 1 < 98 ∧ zn.getD (j + 1) 0 = zn.getD j 0 ∧ j < zn.getD j 0) := by decide +kernel
theorem ph_s : ∀ i : Nat, i < 41 → ps.getD i 0 ≤ zn.getD (ps.getD i 0) 0 ∧ zn.getD (ps.getD i 0) 0 < 98 ∧ zn.getD (ps.getD i 0) 0 ≤ ps.getD i 0 + 3 ∧ (i + 1 < 41 → zn.getD (ps.getD i 0) 0 + 1 = ps.getD (i + 1) 0) ∧ pby (ps.getD i 0) (zn.getD (ps.getD i 0) 0 - ps.getD i 0) = pz.getD i [] := by decide +kernel
theorem ph_c : ∀ j : Nat, j < 98 → (lg_cmp (lN (fx_ph.getD j 0)) (lN 0) = 0 ↔ fx_ph.getD j 0 = 0) := by decide +kernel
theorem ph_y : ∀ j : Nat, j < 98 → ∀ t : Nat, t < 8 → ((lN (fx_ph.getD j 0) >>> ((nI (56 - 8 * t)).toInt64 &&& 63)) &&& (lN 255)).toInt32 = nI (by8 (fx_ph.getD j 0) t) := by decide +kernel
theorem sh_n : ∀ t : Nat, t < 8 → nI (56 - 8 * t) + (-8) = shf (t + 1) := by decide +kernel
theorem tx_up {f : Nat → Int32} {l : List Nat} {c : Nat} (h : tx f l) : tx (upd f l.length (nI c)) (l ++ [c]) := by
  intro j hj
  rw [List.length_append, List.length_singleton] at hj
  by_cases e : j = l.length
  · subst e
    rw [pk_us]
    simp
  · rw [pk_un e, h j (by omega)]
    rw [List.getD_eq_getElem?_getD, List.getD_eq_getElem?_getD, List.getElem?_append_left (by omega)]
theorem wh1_sq {F : (Int32 → Prop) → Int32 → Prop} (σ : Nat → Int32) (e : Nat) (I : Nat → Prop) (step : ∀ (rec : Int32 → Prop) (i : Nat), i ≤ e → I i → (i < e → I (i + 1) → rec (σ (i + 1))) → F rec (σ i)) (i : Nat) (hi : i ≤ e) (h : I i) : fx_wh1 F (σ i) := by
  suffices hs : ∀ (d i : Nat), i + d = e → I i → fx_lp1 F (d + 1) (σ i) from ⟨_, hs (e - i) i (by omega) h⟩
  intro d
  induction d with
  | zero => exact fun i he hI => step _ i (by omega) hI (fun hl _ => absurd hl (by omega))
  | succ d ih => exact fun i he hI => step _ i (by omega) hI (fun _ hI' => ih (i + 1) (by omega) hI')
theorem wh3_sq {T1 T2 : Type} {F : (Int32 → T1 → T2 → Prop) → Int32 → T1 → T2 → Prop} (σ : Nat → Int32) (e : Nat) (I : Nat → T1 → T2 → Prop) (step : ∀ (rec : Int32 → T1 → T2 → Prop) (i : Nat) (y1 : T1) (y2 : T2), i ≤ e → I i y1 y2 → (∀ (y1' : T1) (y2' : T2), i < e → I (i + 1) y1' y2' → rec (σ (i + 1)) y1' y2') → F rec (σ i) y1 y2) (i : Nat) (y1 : T1) (y2 : T2) (hi : i ≤ e) (h : I i y1 y2) : fx_wh3 F (σ i) y1 y2 := by
  suffices hs : ∀ (d i : Nat) (y1 : T1) (y2 : T2), i + d = e → I i y1 y2 → fx_lp3 F (d + 1) (σ i) y1 y2 from ⟨_, hs (e - i) i y1 y2 (by omega) h⟩
  intro d
  induction d with
  | zero => exact fun i y1 y2 he hI => step _ i y1 y2 (by omega) hI (fun y1' y2' hl _ => absurd hl (by omega))
  | succ d ih => exact fun i y1 y2 he hI => step _ i y1 y2 (by omega) hI (fun y1' y2' _ hI' => ih (i + 1) y1' y2' (by omega) hI')
theorem sp_put {post : Int32 → (Nat → Int32) → Prop} {g : Nat → Int64} (hg : ∀ j, j < 98 → g j = lN (fx_ph.getD j 0)) {p : Nat} (hp : p < 41) {F : Nat → Int32} {l : List Nat} (hl : l.length ≤ 370) (hF : tx F l) (h : ∀ F', tx F' (l ++ pz.getD p []) → post (nI (l ++ pz.getD p []).length) F') : wp_X6_put post (nI l.length) g F (nI p) := by
  unfold wp_X6_put
  refine wh2_up p (fun i y => y = nI (ps.getD i 0)) (fun rec i y hi hI hrec => ?_) 0 (nI 0) (by omega) rfl
  subst hI
  obtain ⟨s1, s2, s3, s4, s5⟩ := ph_s i (by omega)
  refine fb_le (by omega) (by omega) (fun he => ?_) (fun he => ?_)
  rotate_left
  · refine wh1_up (zn.getD (ps.getD i 0) 0) (fun j => ps.getD i 0 ≤ j ∧ zn.getD j 0 = zn.getD (ps.getD i 0) 0) (fun rec2 j hj hJ hrec2 => ?_) (ps.getD i 0) s1 ⟨Nat.le_refl _, rfl⟩
    obtain ⟨j1, j2⟩ := hJ
    have hj98 : j < 98 := by omega
    obtain ⟨z1, z2⟩ := ph_z j hj98
    rw [fx_ix_n hj98 (by omega), fx_nm_eq, hg j hj98, fx_nm_eq]
    refine fx_br_iff (ph_c j hj98) (fun e => ?_) (fun e => ?_)
    · rw [fx_nm_add, fx_nm_add]
      have e1 := z1 e
      refine hrec _ he ?_
      rw [← s4 (by omega), ← j2, e1]
    · rw [fx_nm_add]
      obtain ⟨k1, k2, k3⟩ := z2 e
      exact hrec2 (by omega) ⟨by omega, by omega⟩
  have ei : i = p := by omega
  subst ei
  refine wh3_up (zn.getD (ps.getD i 0) 0) (fun k y1 y2 => ps.getD i 0 ≤ k ∧ zn.getD k 0 = zn.getD (ps.getD i 0) 0 ∧ ∃ l', l' = l ++ pby (ps.getD i 0) (k - ps.getD i 0) ∧ y1 = nI l'.length ∧ tx y2 l') (fun rec k y1 y2 hk hI hrec => ?_) (ps.getD i 0) _ _ s1 ⟨Nat.le_refl _, rfl, l, by rw [Nat.sub_self, pby, List.append_nil], rfl, hF⟩
  obtain ⟨k1, k2, l', el, rfl, hF'⟩ := hI
  have hk98 : k < 98 := by omega
  obtain ⟨z1, z2⟩ := ph_z k hk98
  have hl' : l'.length ≤ l.length + 8 * (k - ps.getD i 0) := by
    have := pby_b (s := ps.getD i 0) (k - ps.getD i 0)
    rw [el, List.length_append]
    omega
  rw [fx_ix_n hk98 (by omega), fx_nm_eq, hg k hk98, fx_nm_eq]
  refine fx_br_iff (ph_c k hk98) (fun e => ?_) (fun e => ?_)
  · have e1 := z1 e
    have e2 : l' = l ++ pz.getD i [] := by rw [el, ← s5, ← k2, e1]
    rw [e2] at hF' ⊢
    exact h _ hF'
  obtain ⟨q1, q2, q3⟩ := z2 e
  refine wh3_sq shf 8 (fun t y1 y2 => ∃ l'', l'' = l' ++ wby (fx_ph.getD k 0) t ∧ y1 = nI l''.length ∧ tx y2 l'') (fun rec2 t y1 y2 ht hT hrec2 => ?_) 0 _ _ (by omega) ⟨l', (List.append_nil _).symm, rfl, hF'⟩
  obtain ⟨l'', el2, rfl, hF2⟩ := hT
  by_cases ht8 : t < 8
  · have es : shf t = nI (56 - 8 * t) := if_pos ht8
    have hb : by8 (fx_ph.getD k 0) t < 256 := Nat.mod_lt _ (by decide)
    have hl2 : l''.length ≤ l'.length + t := by
      have := wby_b (w := fx_ph.getD k 0) t
      rw [el2, List.length_append]
      omega
    rw [es, fb_lt0 (by omega), fx_ix_n hk98 (by omega), fx_nm_eq, hg k hk98, fx_nm_eq, fx_nm_eq, fx_nm_eq, ph_y k hk98 t ht8]
    refine fb_eq0 (by omega) (fun e0 => ?_) (fun e0 => ?_)
    · rw [fx_nm_eq, sh_n t ht8]
      exact hrec2 _ _ ht8 ⟨l'', by rw [wby, if_pos e0]; exact el2, rfl, hF2⟩
    · rw [fx_ix_n (by omega) (by omega), fx_nm_eq, fx_nm_add, fx_nm_eq, sh_n t ht8]
      refine hrec2 _ _ ht8 ⟨l'' ++ [by8 (fx_ph.getD k 0) t], by rw [wby, if_neg (by omega), el2, List.append_assoc], by rw [List.length_append]; rfl, tx_up hF2⟩
  · have et : t = 8 := by omega
    subst et
    show fx_br (-8 < 0) _ _
    rw [fb_t (by decide), fx_nm_add]
    refine hrec _ _ (by omega) ⟨by omega, by omega, l'', ?_, rfl, hF2⟩
    have e3 : k + 1 - ps.getD i 0 = (k - ps.getD i 0) + 1 := by omega
    have e4 : ps.getD i 0 + (k - ps.getD i 0) = k := by omega
    rw [e3, pby, e4, el2, el, List.append_assoc]
def uu (m : Nat) : Nat := [0, 1, 10, 100].getD m 0
theorem uu_f : ∀ m : Nat, m < 4 → 1 ≤ m → 1 ≤ uu m ∧ uu m ≤ 100 ∧ uu m / 10 = uu (m - 1) ∧ (m < 3 → uu m * 10 = uu (m + 1)) := by decide
def nd (n k : Nat) : Nat → List Nat
  | 0 => []
  | i + 1 => nd n k i ++ [48 + n / uu (k - i) % 10]
theorem nd_l {n k : Nat} : ∀ i, (nd n k i).length = i
  | 0 => rfl
  | i + 1 => by rw [nd, List.length_append, nd_l i]; rfl
theorem sp_num {post : Int32 → (Nat → Int32) → Prop} {n : Nat} (hn : n < 1000) {F : Nat → Int32} {l : List Nat} (hl : l.length ≤ 390) (hF : tx F l) (h : ∀ F', tx F' (l ++ dg n) → post (nI (l ++ dg n).length) F') : wp_X6_number post (nI l.length) F (nI n) := by
  unfold wp_X6_number
  refine wh1_sq (fun j => nI (uu (j + 1))) 2 (fun j => j = 0 ∨ uu (j + 1) ≤ n) (fun rec j hj hI hrec => ?_) 0 (by omega) (.inl rfl)
  obtain ⟨u1, u2, u3, u4⟩ := uu_f (j + 1) (by omega) (by omega)
  have hq : n / uu (j + 1) ≤ n := Nat.div_le_self _ _
  show fx_dv (nI (uu (j + 1))) _
  rw [fdv (nI_ne0 (by omega) (by omega)), fx_nm_eq, pk_div (by omega) (by omega) (by omega)]
  refine fb_le (by omega) (by omega) (fun e => ?_) (fun e => ?_)
  rotate_left
  · rw [fx_nm_mul]
    have h9 : uu (j + 1) * 10 ≤ n := by
      have := (Nat.le_div_iff_mul_le (by omega : 0 < uu (j + 1))).mp (show 10 ≤ n / uu (j + 1) by omega)
      omega
    have hj2 : j < 2 := by
      rcases (show j = 0 ∨ j = 1 ∨ j = 2 by omega) with z | z | z
      · omega
      · omega
      · rw [z] at h9
        have : uu (2 + 1) = 100 := rfl
        omega
    have e5 := u4 (by omega)
    rw [e5]
    exact hrec hj2 (.inr (by omega))
  have fin : nd n (j + 1) (j + 1) = dg n := by
    rcases (show j = 0 ∨ j = 1 ∨ j = 2 by omega) with z | z | z
    · subst z
      have e' : n / 1 ≤ 9 := e
      have : nd n (0 + 1) (0 + 1) = [48 + n / 1 % 10] := rfl
      rw [this, dg, if_pos (by omega), Nat.div_one, Nat.mod_eq_of_lt (by omega)]
    · subst z
      have e' : n / 10 ≤ 9 := e
      have hI' : 10 ≤ n := hI.resolve_left (by decide)
      have : nd n (1 + 1) (1 + 1) = [48 + n / 10 % 10, 48 + n / 1 % 10] := rfl
      rw [this, dg, if_neg (by omega), if_pos (by omega), Nat.div_one, Nat.mod_eq_of_lt (show n / 10 < 10 by omega)]
    · subst z
      have hI' : 100 ≤ n := hI.resolve_left (by decide)
      have : nd n (2 + 1) (2 + 1) = [48 + n / 100 % 10, 48 + n / 10 % 10, 48 + n / 1 % 10] := rfl
      rw [this, dg, if_neg (by omega), if_neg (by omega), Nat.div_one, Nat.mod_eq_of_lt (show n / 100 < 10 by omega)]
  refine wh3_sq (fun i => nI (uu (j + 1 - i))) (j + 1) (fun i y1 y2 => ∃ l', l' = l ++ nd n (j + 1) i ∧ y1 = nI l'.length ∧ tx y2 l') (fun rec2 i y1 y2 hi hI2 hrec2 => ?_) 0 _ _ (by omega) ⟨l, (List.append_nil _).symm, rfl, hF⟩
  obtain ⟨l', el, rfl, hF'⟩ := hI2
  show fx_br (nI (uu (j + 1 - i)) ≤ 0) _ _
  by_cases hij : i < j + 1
  · obtain ⟨v1, v2, v3, -⟩ := uu_f (j + 1 - i) (by omega) (by omega)
    have hq2 : n / uu (j + 1 - i) ≤ n := Nat.div_le_self _ _
    have hll : l'.length = l.length + i := by rw [el, List.length_append, nd_l]
    rw [fb_le0f (by omega) (by omega), fdv (nI_ne0 (by omega) (by omega)), fx_nm_eq, pk_div (by omega) (by omega) (by omega), fdv (by decide), fx_nm_eq, pk_rem (by omega) (by decide) (by decide)]
    rw [fx_nm_add, fx_ix_n (by omega) (by omega), fx_nm_eq, fx_nm_add, fdv (by decide), fx_nm_eq, pk_div (by omega) (by decide) (by decide), v3, Nat.sub_sub]
    exact hrec2 _ _ hij ⟨l' ++ [48 + n / uu (j + 1 - i) % 10], by rw [el, nd, List.append_assoc], by rw [List.length_append]; rfl, tx_up hF'⟩
  · have e6 : i = j + 1 := by omega
    rw [e6, Nat.sub_self]
    rw [fb_le0t (show uu 0 = 0 from rfl)]
    have e7 : l' = l ++ dg n := by rw [el, e6, fin]
    rw [e7] at hF' ⊢
    exact h _ hF'
theorem k_wordOf {post : Int32 → Prop} {r : Nat} (h : r < 18) : wp_X6_wordOf post (nI r) = post (nI r) := by
  unfold wp_X6_wordOf
  rcases (show r = 0 ∨ r = 1 ∨ r = 2 ∨ r = 3 ∨ r = 4 ∨ r = 5 ∨ r = 6 ∨ r = 7 ∨ r = 8 ∨ r = 9 ∨ r = 10 ∨ r = 11 ∨ r = 12 ∨ r = 13 ∨ r = 14 ∨ r = 15 ∨ r = 16 ∨ r = 17 by omega) with rfl | rfl | rfl | rfl | rfl | rfl | rfl | rfl | rfl | rfl | rfl | rfl | rfl | rfl | rfl | rfl | rfl | rfl <;> simp (disch := omega) only [↓fb_eqt, ↓fb_eqf]

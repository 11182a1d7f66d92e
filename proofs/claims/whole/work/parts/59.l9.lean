/-! LOGIC: rows and premises laid, both sides -/
def uf {α : Type} (f : Nat → α) (k : Nat) (v : α) : Nat → α := fun i => if i = k then v else f i
theorem uf_s {α : Type} {f : Nat → α} {k : Nat} {v : α} : uf f k v k = v := by simp [uf]
theorem uf_n {α : Type} {f : Nat → α} {k j : Nat} {v : α} (h : j ≠ k) : uf f k v j = f j := by simp [uf, h]
theorem le0_rng {x : Int32} {m : Nat} (hm : m < 2147483648) (h1 : ¬ x ≤ 0) (h2 : ¬ nI m < x) : ∃ j : Nat, 1 ≤ j ∧ j ≤ m ∧ x = nI j := by
  refine i_rng 1 m hm (by decide) (fun h => h1 ?_) h2
  rw [Int32.lt_iff_toInt_lt] at h
  rw [Int32.le_iff_toInt_le]
  have : (nI 1).toInt = 1 := by decide
  have : (0 : Int32).toInt = 0 := by decide
  omega
theorem sp_in6 {post : Int32 → Prop} {m : Nat} {x : Int32} (hm : m ≤ 300) (yes : ∀ j, 1 ≤ j → j ≤ m → x = nI j → post (nI 1)) (no : (¬ ∃ j, 1 ≤ j ∧ j ≤ m ∧ x = nI j) → post (nI 0)) : fx_br (x ≤ 0) (post (nI 0)) (fx_br (nI m < x) (post (nI 0)) (post (nI 1))) := by
  refine fx_br_i (fun h => no ?_) (fun g1 => fx_br_i (fun h => no ?_) (fun g2 => ?_))
  · rintro ⟨k, h1, h2, rfl⟩
    exact nI_nle h1 (by omega) h
  · rintro ⟨k, h1, h2, rfl⟩
    exact nI_nlt h2 (by omega) h
  obtain ⟨j, a, b, c⟩ := le0_rng (by omega) g1 g2
  exact yes j a b c
theorem sp_isRow6 {post : Int32 → Prop} {m : Nat} {x : Int32} (hm : m ≤ 300) (yes : ∀ j, 1 ≤ j → j ≤ m → x = nI j → post (nI 1)) (no : (¬ ∃ j, 1 ≤ j ∧ j ≤ m ∧ x = nI j) → post (nI 0)) : wp_X6_isRow post (nI m) x := sp_in6 hm yes no
/-- an instance that a rule may have -/
def vi (na nt r : Nat) (b : Int32) : Prop := (r = 0 → ∃ j, b = nI j ∧ 1 ≤ j ∧ j ≤ na) ∧ (r = 1 ∨ r = 17 → ∃ j, b = nI j ∧ 1 ≤ j ∧ j ≤ nt) ∧ (r = 2 → ∃ j, b = nI j ∧ j < 1000)
theorem sp_inst6 {post : Int32 → Prop} {na nt r : Nat} {b : Int32} (hr : r < 18) (hna : na ≤ 100) (hnt : nt ≤ 100) (yes : vi na nt r b → post (nI 1)) (no : ¬ vi na nt r b → post (nI 0)) : wp_X6_isInstance post (nI na) (nI nt) (nI r) b := by
  unfold wp_X6_isInstance
  refine fb_eq0n (by omega) (fun e => ?_) (fun e0 => ?_)
  · refine sp_in6 (by omega) (fun j a b' c => yes ⟨fun _ => ⟨j, c, a, b'⟩, fun z => absurd z (by omega), fun z => absurd z (by omega)⟩) (fun z => no (fun v => ?_))
    obtain ⟨j, a, b', c⟩ := v.1 e
    exact z ⟨j, b', c, a⟩
  have tr : (r = 1 ∨ r = 17) → fx_br (b ≤ 0) (post (nI 0)) (fx_br (nI nt < b) (post (nI 0)) (post (nI 1))) := by
    intro e
    refine sp_in6 (by omega) (fun j a b' c => yes ⟨fun z => absurd z e0, fun _ => ⟨j, c, a, b'⟩, fun z => absurd z (by omega)⟩) (fun z => no (fun v => ?_))
    obtain ⟨j, a, b', c⟩ := v.2.1 e
    exact z ⟨j, b', c, a⟩
  refine fb_eq (by omega) (by omega) (fun e => tr (.inl e)) (fun e1 => ?_)
  refine fb_eq (by omega) (by omega) (fun e => tr (.inr e)) (fun e17 => ?_)
  refine fb_eq (by omega) (by omega) (fun e => ?_) (fun e2 => yes ⟨fun z => absurd z e0, fun z => absurd z (by omega), fun z => absurd z e2⟩)
  refine sp_isTerm6 (fun j a c => ?_) (fun z => ?_)
  · rw [fb_eq0f (by decide) (by decide)]
    exact yes ⟨fun z => absurd z e0, fun z => absurd z (by omega), fun _ => ⟨j, c, a⟩⟩
  · rw [fb_eq0t rfl]
    exact no (fun v => by obtain ⟨j, a, c⟩ := v.2.2 e; exact z ⟨j, c, a⟩)
theorem sp4_has {post : Int32 → Prop} {m : Nat} {K N : Nat → Int32} {A : Nat → Q4} {b : Int32} (hm : m ≤ 100) (hA : a3 K N A m) (hz : z3 K m) (hk : ∀ i, 1 ≤ i → i ≤ m → 1 ≤ (A i).1 ∧ (A i).1 ≤ 12) (yes : ∀ j, 1 ≤ j → j ≤ m → b = nI j → post (nI 1)) (no : (¬ ∃ j, 1 ≤ j ∧ j ≤ m ∧ b = nI j) → post (nI 0)) : wp_X4_has post 101 K b := by
  unfold wp_X4_has wp_X4_kind
  refine fx_br_i (fun h => ?_) (fun g1 => fx_br_i (fun h => ?_) (fun g2 => ?_))
  · show fx_br (nI 0 = 0) _ _
    rw [fb_eq0t rfl]
    refine no ?_
    rintro ⟨k, h1, h2, rfl⟩
    exact nI_nlt h1 (by omega) h
  · show fx_br (nI 0 = 0) _ _
    rw [fb_eq0t rfl]
    refine no ?_
    rintro ⟨k, h1, h2, rfl⟩
    exact nI_ge (by omega) (by omega) h
  obtain ⟨j, j1, j2, rfl⟩ := i_rng 1 100 (by decide) (by decide) g1 (fun h => g2 (by
    rw [Int32.lt_iff_toInt_lt] at h
    rw [Int32.le_iff_toInt_le]
    have : (nI 100).toInt = 100 := by decide
    have : (nI 101).toInt = 101 := by decide
    omega))
  rw [fx_ix_n (by omega) (by omega), fx_nm_rd]
  by_cases hj : j ≤ m
  · obtain ⟨k1, k2⟩ := hk j j1 hj
    rw [(hA j j1 hj).1, fb_eq0f (by omega) (by omega)]
    exact yes j j1 hj rfl
  · rw [hz j (by omega) j2]
    show fx_br (nI 0 = 0) _ _
    rw [fb_eq0t rfl]
    refine no ?_
    rintro ⟨k, h1, h2, h3⟩
    have := (nI_eq (by omega) (by omega)).mp h3
    omega
/-- the kinds in a table are such as stand there -/
def tk1 (A : Nat → Q4) (m : Nat) : Prop := ∀ i, 1 ≤ i → i ≤ m → 1 ≤ (A i).1 ∧ (A i).1 ≤ 12
theorem sp_inst5 {post : Int32 → Prop} {na nt r : Nat} {AK AN TK TN : Nat → Int32} {A T : Nat → Q4} {b : Int32} (hr : r < 18) (hna : na ≤ 100) (hnt : nt ≤ 100) (hA : a3 AK AN A na) (hzA : z3 AK na) (kA : tk1 A na) (hT : a3 TK TN T nt) (hzT : z3 TK nt) (kT : tk1 T nt)
    (yes : vi na nt r b → post (nI 1)) (no : ¬ vi na nt r b → post (nI 0)) : wp_X5_isInstance post AK TK r b := by
  unfold wp_X5_isInstance
  rw [fl_t hr]
  refine fx_br_i (fun e => ?_) (fun e0 => ?_)
  · refine sp4_has hna hA hzA kA (fun j a b' c => ?_) (fun z => ?_)
    · rw [fbo1]
      exact yes ⟨fun _ => ⟨j, c, a, b'⟩, fun z => absurd z (by omega), fun z => absurd z (by omega)⟩
    · rw [fbo0]
      refine no (fun v => ?_)
      obtain ⟨j, a, b', c⟩ := v.1 e
      exact z ⟨j, b', c, a⟩
  have tr : (r = 1 ∨ r = 17) → wp_X4_has (fun r1 => fx_bo r1 (post r1)) 101 TK b := by
    intro e
    refine sp4_has hnt hT hzT kT (fun j a b' c => ?_) (fun z => ?_)
    · rw [fbo1]
      exact yes ⟨fun z => absurd z e0, fun _ => ⟨j, c, a, b'⟩, fun z => absurd z (by omega)⟩
    · rw [fbo0]
      refine no (fun v => ?_)
      obtain ⟨j, a, b', c⟩ := v.2.1 e
      exact z ⟨j, b', c, a⟩
  rw [fl_t hr]
  refine fx_br_i (fun e => tr (.inl e)) (fun e1 => ?_)
  rw [fl_t hr]
  refine fx_br_i (fun e => tr (.inr e)) (fun e17 => ?_)
  rw [fl_t hr]
  refine fx_br_i (fun e => ?_) (fun e2 => yes ⟨fun z => absurd z e0, fun z => absurd z (by omega), fun z => absurd z e2⟩)
  refine sp_isTerm5 (fun j a c => ?_) (fun z => ?_)
  · rw [fb_eq0f (by decide) (by decide)]
    exact yes ⟨fun z => absurd z e0, fun z => absurd z (by omega), fun _ => ⟨j, c, a⟩⟩
  · rw [fb_eq0t rfl]
    exact no (fun v => by obtain ⟨j, a, c⟩ := v.2.2 e; exact z ⟨j, c, a⟩)
/-- a row that may be laid -/
def v_row (na nt n : Nat) (a b c : Int32) (r p : Nat) : Prop := a = nI r ∧ r < 18 ∧ vi na nt r b ∧ (c = 0 ∧ p = 0 ∨ c = nI p ∧ 1 ≤ p ∧ p ≤ n ∧ 1 ≤ tk r)
def c1 (p : Nat) : Nat := if p = 0 then 0 else 1
theorem v_row_inj {na nt n : Nat} {a b c : Int32} {r p r' p' : Nat} (hn : n ≤ 300) (h : v_row na nt n a b c r p) (g : v_row na nt n a b c r' p') : r = r' ∧ p = p' := by
  obtain ⟨h1, h2, h3, h4⟩ := h
  obtain ⟨g1, g2, g3, g4⟩ := g
  refine ⟨(nI_eq (by omega) (by omega)).mp (h1.symm.trans g1), ?_⟩
  rcases h4 with ⟨h4, h5⟩ | ⟨h4, h5, h6, h7⟩ <;> rcases g4 with ⟨g4, g5⟩ | ⟨g4, g5, g6, g7⟩
  · omega
  · exact absurd (g4.symm.trans h4) (nI_ne0 g5 (by omega))
  · exact absurd (h4.symm.trans g4) (nI_ne0 h5 (by omega))
  · exact (nI_eq (by omega) (by omega)).mp (h4.symm.trans g4)
theorem rr_ext {R I C P R' I' C' P' : Nat → Int32} {ru : Nat → Nat} {ins : Nat → Int32} {cn : Nat → Nat} {pr : Nat → Nat → Nat} {n r c p : Nat} {b : Int32} (h : rr R I C P ru ins cn pr n) (hc3 : ∀ k, 1 ≤ k → k ≤ n → cn k ≤ 3)
    (hR : R' (n + 1) = nI r) (hR' : ∀ k, k ≤ n → R' k = R k) (hI : I' (n + 1) = b) (hI' : ∀ k, k ≤ n → I' k = I k) (hC : C' (n + 1) = nI c) (hC' : ∀ k, k ≤ n → C' k = C k) (hc : c ≤ 1) (hP : c = 1 → P' (3 * (n + 1)) = nI p) (hP' : ∀ j, j < 3 * (n + 1) → P' j = P j) :
    rr R' I' C' P' (uf ru (n + 1) r) (uf ins (n + 1) b) (uf cn (n + 1) c) (uf pr (n + 1) (fun _ => p)) (n + 1) := by
  intro k k1 k2
  by_cases e : k = n + 1
  · subst e
    simp only [uf_s]
    refine ⟨hR, hI, hC, fun i hi => ?_⟩
    rw [show i = 0 by omega, Nat.add_zero]
    exact hP (by omega)
  · rw [uf_n e, uf_n e, uf_n e, uf_n e, hR' k (by omega), hI' k (by omega), hC' k (by omega)]
    obtain ⟨g1, g2, g3, g4⟩ := h k k1 (by omega)
    have := hc3 k k1 (by omega)
    exact ⟨g1, g2, g3, fun i hi => by rw [hP' _ (by omega)]; exact g4 i hi⟩
set_option maxHeartbeats 1000000 in
theorem sp_row6 {post : Int32 → Int32 → (Nat → Int32) → (Nat → Int32) → (Nat → Int32) → (Nat → Int32) → Prop} {R I C P : Nat → Int32} {ru : Nat → Nat} {ins : Nat → Int32} {cn : Nat → Nat} {pr : Nat → Nat → Nat} {na nt n : Nat} {a b c : Int32} (hna : na ≤ 100) (hnt : nt ≤ 100) (hn : n ≤ 300) (hrr : rr R I C P ru ins cn pr n) (hc3 : ∀ k, 1 ≤ k → k ≤ n → cn k ≤ 3)
    (bad : (¬ ∃ r p, v_row na nt n a b c r p) ∨ n = 300 → post (nI 0) (nI n) R I C P)
    (ok : ∀ r p, v_row na nt n a b c r p → n < 300 → ∀ R' I' C' P', rr R' I' C' P' (uf ru (n + 1) r) (uf ins (n + 1) b) (uf cn (n + 1) (c1 p)) (uf pr (n + 1) (fun _ => p)) (n + 1) → post (nI (n + 1)) (nI (n + 1)) R' I' C' P') : wp_X6_row post (nI na) (nI nt) (nI n) R I C P a b c := by
  unfold wp_X6_row
  refine fx_br_i (fun h => bad (.inl ?_)) (fun g1 => fx_br_i (fun h => bad (.inl ?_)) (fun g2 => ?_))
  · rintro ⟨r, p, h1, h2, -⟩
    rw [h1] at h
    exact nI_pos (by omega) h
  · rintro ⟨r, p, h1, h2, -⟩
    rw [h1] at h
    exact nI_nlt (show r ≤ 17 by omega) (by omega) h
  obtain ⟨r, -, r2, rfl⟩ := i_rng 0 17 (by decide) (by decide) (by rw [nI_0]; exact g1) g2
  refine sp_inst6 (by omega) hna hnt (fun hv => ?_) (fun hv => ?_)
  rotate_left
  · rw [fb_eq0t rfl]
    refine bad (.inl ?_)
    rintro ⟨r', p, h1, h2, h3, -⟩
    rw [(nI_eq (a := r) (by omega) (by omega)).mp h1] at hv
    exact hv h3
  rw [fb_eq0f (by decide) (by decide)]
  refine fx_br_i (fun e => ?_) (fun e => ?_)
  · refine fb_eq (by omega) (by omega) (fun z => bad (.inr z)) (fun z => ?_)
    simp (disch := omega) only [↓fx_nm_add, ↓fx_nm_up, ↓fx_ix_n]
    rw [fb_t e]
    exact ok r 0 ⟨rfl, by omega, hv, .inl ⟨e, rfl⟩⟩ (by omega) _ _ _ _ (rr_ext hrr hc3 pk_us (fun k hk => pk_un (by omega)) pk_us (fun k hk => pk_un (by omega)) pk_us (fun k hk => pk_un (by omega)) (by decide) (fun z => absurd z (by decide)) (fun j hj => rfl))
  · refine sp_isRow6 hn (fun p p1 p2 hp => ?_) (fun z => ?_)
    rotate_left
    · rw [fb_eq0t rfl]
      refine bad (.inl ?_)
      rintro ⟨r', p, h1, h2, h3, ⟨h4, _⟩ | ⟨h4, h5, h6, _⟩⟩
      · exact e h4
      · exact z ⟨p, h5, h6, h4⟩
    rw [fb_eq0f (by decide) (by decide), k6_takes (by omega)]
    have t3 := tk_3 r
    refine fb_eq0n (by omega) (fun z => ?_) (fun ht => ?_)
    · refine bad (.inl ?_)
      rintro ⟨r', p', h1, h2, h3, ⟨h4, _⟩ | ⟨h4, h5, h6, h7⟩⟩
      · exact e h4
      · rw [← (nI_eq (a := r) (by omega) (by omega)).mp h1] at h7
        omega
    refine fb_eq (by omega) (by omega) (fun z => bad (.inr z)) (fun z => ?_)
    have hv : v_row na nt n (nI r) b c r p := ⟨rfl, by omega, hv, .inr ⟨hp, p1, p2, by omega⟩⟩
    have hcp : c1 p = 1 := if_neg (by omega)
    subst hp
    unfold wp_X6_lay
    simp (disch := omega) only [↓fx_nm_add, ↓fx_nm_mul, ↓fx_nm_up, ↓fx_ix_n, ↓fb_eq0f, ↓fx_nm_rd, pk_us]
    refine ok r p hv (by omega) _ _ _ _ ?_
    rw [hcp]
    refine rr_ext hrr hc3 pk_us (fun k hk => pk_un (by omega)) pk_us (fun k hk => pk_un (by omega)) pk_us (fun k hk => ?_) (by decide) (fun _ => ?_) (fun j hj => pk_un (by omega))
    · rw [pk_un (by omega), pk_un (by omega)]
    · rw [Nat.add_zero, pk_us]

/-! LOGIC: a statement told, text and the one side -/
def wd (s : Q4) : Nat := if s.1 = 11 ∧ s.2.2.1 = 0 then 1 else if s.1 = 11 ∧ s.2.2.1 = 1 then 2 else fx_kw.getD s.1 0
def gx (s : Q4) (c : Nat) : List Nat := if c < 65 then [c] else if 67 < c then [c] else dg (qw s (c - 64))
def sx (s : Q4) : List Nat := (fx_st.getD (wd s) []).flatMap (gx s)
theorem wd_b {s : Q4} (h : s.1 ≤ 12) : wd s < 66 := by
  unfold wd
  split
  · decide
  · split
    · decide
    · have : ∀ k, k ≤ 12 → fx_kw.getD k 0 < 66 := by decide
      exact this _ h
theorem sp_word {post : Nat → Prop} {K N : Nat → Int32} {r : Nat} {s : Q4} (r1 : 1 ≤ r) (r2 : r ≤ 300) (hs : r3 K N r s) (hb : q_b s) (h : post (wd s)) : wp_X5_wordingFor post K N (nI r) := by
  obtain ⟨s1, s2, s3, s4⟩ := hs
  obtain ⟨b1, b2, b3, b4⟩ := hb
  have fin : ∀ (_ : post (fx_kw.getD s.1 0)), fx_br (nI s.1 < 0) (fx_lt 0 13 (post (fx_kw.getD 0 0))) (fx_br ((nI 13) ≤ nI s.1) (fx_lt 0 13 (post (fx_kw.getD 0 0))) (fx_ix (nI s.1) 13 (fun k8 => fx_lt k8 13 (post (fx_kw.getD k8 0))))) := by
    intro h
    rw [fb_lt0 (by omega), fb_lef (by omega) (by omega), fx_ix_n (by omega) (by omega), fl_t (by omega)]
    exact h
  unfold wp_X5_wordingFor
  rw [k4_kind r1 (by omega) (by omega), s1]
  by_cases e : s.1 = 11
  · rw [fb_eqt e, k4_number2 r1 (by omega) (by omega) (by omega), s3]
    refine fb_eq0 (by omega) (fun e0 => ?_) (fun e0 => ?_)
    · rw [wd, if_pos ⟨e, e0⟩] at h
      exact h
    rw [fb_eqt e, k4_number2 r1 (by omega) (by omega) (by omega), s3]
    refine fb_eq (by omega) (by omega) (fun e1 => ?_) (fun e1 => ?_)
    · rw [wd, if_neg (fun z => absurd z.2 (by omega)), if_pos ⟨e, e1⟩] at h
      exact h
    · rw [wd, if_neg (fun z => absurd z.2 (by omega)), if_neg (fun z => e1 z.2)] at h
      exact fin h
  · rw [wd, if_neg (fun z => e z.1), if_neg (fun z => e z.1)] at h
    rw [fb_eqf e (by omega) (by omega), fb_eqf e (by omega) (by omega)]
    exact fin h
theorem gx_3 {s : Q4} {c : Nat} : (gx s c).length ≤ 3 := by
  unfold gx
  split
  · exact (by decide : 1 ≤ 3)
  · split
    · exact (by decide : 1 ≤ 3)
    · rw [dg_l]
      split
      · decide
      · split <;> decide
theorem fm_3 {s : Q4} : ∀ W : List Nat, (W.flatMap (gx s)).length ≤ 3 * W.length
  | [] => by simp
  | c :: W => by
    rw [List.flatMap_cons, List.length_append, List.length_cons]
    have := fm_3 (s := s) W
    have := gx_3 (s := s) (c := c)
    omega
theorem sx_b {s : Q4} (h : s.1 ≤ 12) : (sx s).length ≤ 147 := by
  have h1 := fm_3 (s := s) (fx_st.getD (wd s) [])
  have h2 : (fx_st.getD (wd s) []).length < 50 := st_l (wd_b h)
  unfold sx
  omega
theorem gd_e {W : List Nat} {i : Nat} (hi : i < W.length) : W.getD i 0 = W[i] := by
  rw [List.getD_eq_getElem?_getD, List.getElem?_eq_getElem hi]
  rfl
theorem sp_tellS {post : Int32 → Nat → (Nat → Int32) → Prop} {q T u r : Nat} {s : Q4} {K N f : Nat → Int32} {l : List Nat} (r1 : 1 ≤ r) (r2 : r ≤ 300) (hs : r3 K N r s) (hb : q_b s) (hT : T ≤ 300) (hl : l.length + (sx s).length ≤ T) (hq : q ≤ 600) (hu : q < T → u = 1) (hf : tv f q l)
    (h : ∀ q' f', gq q q' → tv f' q' (l ++ sx s) → post (nI (l ++ sx s).length) q' f') : wp_X5_tellStatement post (50 * u) (50 * (1300 * u)) K N (nI l.length) q f (nI r) := by
  unfold wp_X5_tellStatement
  refine sp_word r1 r2 hs hb ?_
  have hw := wd_b hb.1
  have hlw := st_l hw
  have nx : ∀ i, i < fx_sl (wd s) → (fx_st.getD (wd s) []).take (i + 1) = (fx_st.getD (wd s) []).take i ++ [fx_sc (wd s) i] := by
    intro i hi
    replace hi : i < (fx_st.getD (wd s) []).length := hi
    rw [List.take_add_one, List.getElem?_eq_getElem hi, fx_sc, gd_e hi]
    rfl
  have lt : ∀ i, (l ++ ((fx_st.getD (wd s) []).take i).flatMap (gx s)).length ≤ T := by
    intro i
    have : (sx s).length = (((fx_st.getD (wd s) []).take i).flatMap (gx s)).length + (((fx_st.getD (wd s) []).drop i).flatMap (gx s)).length := by
      rw [← List.length_append, ← List.flatMap_append, List.take_append_drop]
      rfl
    rw [List.length_append]
    omega
  obtain ⟨s1, s2, s3, s4⟩ := hs
  obtain ⟨b1, b2, b3, b4⟩ := hb
  refine wh6_up (fx_sl (wd s)) (fun i y1 y2 y3 y4 y5 => ∃ l', l' = l ++ ((fx_st.getD (wd s) []).take i).flatMap (gx s) ∧ y1 = nI l'.length ∧ gq q y2 ∧ tv y3 y2 l' ∧ y4 = i * u ∧ y5 = i * (1300 * u)) (fun rec i y1 y2 y3 y4 y5 hi hI hrec => ?_) 0 _ _ _ _ _ (by omega) ⟨l, by simp, rfl, gq_r hq, hf, (Nat.zero_mul _).symm, (Nat.zero_mul _).symm⟩
  obtain ⟨l', el, rfl, hg, hf', rfl, rfl⟩ := hI
  rw [fl_t hw, k_len hw]
  refine fb_le (by omega) (by omega) (fun he => ?_) (fun he => ?_)
  · have e : i = (fx_st.getD (wd s) []).length := Nat.le_antisymm hi he
    have e2 : l' = l ++ sx s := by rw [el, e, List.take_length, sx]
    rw [e2] at hf' ⊢
    exact h _ _ hg hf'
  rw [fl_t hw, k_charAt hw he]
  have hx := nx i he
  have hc := st_c hw he
  have hlt := lt (i + 1)
  have hy : (fx_st.getD (wd s) []).take (i + 1) = (fx_st.getD (wd s) []).take (i + 1) := rfl
  rw [hx] at hlt
  have hrec' := hrec
  generalize fx_sc (wd s) i = c at hx hc hlt ⊢
  have el' : l' ++ gx s c = l ++ ((fx_st.getD (wd s) []).take (i + 1)).flatMap (gx s) := by
    rw [el, hx, List.flatMap_append, List.append_assoc, List.flatMap_cons, List.flatMap_nil, List.append_nil]
  have hln : l'.length + (gx s c).length ≤ T := by
    rw [← List.length_append, el', hx]
    exact hlt
  have hq' : y2 ≤ 600 := hg.2
  have hu' : y2 < T → u = 1 := fun z => hu (by have := hg.1; omega)
  have a1 : i * u + u ≤ 50 * u := by
    rw [← Nat.succ_mul]
    exact Nat.mul_le_mul_right _ (by omega)
  have a2 : i * (1300 * u) + 1300 * u ≤ 50 * (1300 * u) := by
    rw [← Nat.succ_mul]
    exact Nat.mul_le_mul_right _ (by omega)
  have go : ∀ q' f', gq y2 q' → tv f' q' (l' ++ gx s c) → fx_nm (nI i + nI 1) (fun v => rec v (nI (l' ++ gx s c).length) q' f' (i * u + u) (i * (1300 * u) + 1300 * u)) := fun q' f' hg' hf'' => by
    rw [fx_nm_add]
    exact hrec _ _ _ _ _ he ⟨l' ++ gx s c, el', rfl, gq_t hg hg', hf'', (Nat.succ_mul _ _).symm, (Nat.succ_mul _ _).symm⟩
  clear hrec hrec'
  refine fb_lt (by omega) (by omega) (fun c1 => ?_) (fun c1 => ?_)
  · have e : gx s c = [c] := by rw [gx, if_pos c1]
    rw [e] at go hln
    exact ⟨u, 1300 * u, a1, a2, su_c hT hln hq' hu' hc hf' go⟩
  refine fb_lt (by omega) (by omega) (fun c2 => ?_) (fun c2 => ?_)
  · have e : gx s c = [c] := by rw [gx, if_neg (by omega), if_pos c2]
    rw [e] at go hln
    exact ⟨u, 1300 * u, a1, a2, su_c hT hln hq' hu' hc hf' go⟩
  have e : gx s c = dg (qw s (c - 64)) := by rw [gx, if_neg (by omega), if_neg (by omega)]
  rw [e] at go hln
  rcases (show c = 65 ∨ c = 66 ∨ c = 67 by omega) with z | z | z
  · rw [z] at go hln ⊢
    rw [fx_nm_sub (by decide), fx_nm_add]
    show wp_X4_number _ 301 903 N (nI r) (nI 1)
    rw [k4_number1 r1 (by omega) (by omega) (by omega), s2]
    exact ⟨u, 1300 * u, a1, a2, su_i hT b2 hln hq' hu' hf' go⟩
  · rw [z] at go hln ⊢
    rw [fx_nm_sub (by decide), fx_nm_add]
    show wp_X4_number _ 301 903 N (nI r) (nI 2)
    rw [k4_number2 r1 (by omega) (by omega) (by omega), s3]
    exact ⟨u, 1300 * u, a1, a2, su_i hT b3 hln hq' hu' hf' go⟩
  · rw [z] at go hln ⊢
    rw [fx_nm_sub (by decide), fx_nm_add]
    show wp_X4_number _ 301 903 N (nI r) (nI 3)
    rw [k4_number3 r1 (by omega) (by omega) (by omega), s4]
    exact ⟨u, 1300 * u, a1, a2, su_i hT b4 hln hq' hu' hf' go⟩
/-- the premises told -/
def tp (p : Nat → Nat) : Nat → List Nat
  | 0 => []
  | n + 1 => tp p n ++ fx_st.getD (if n = 0 then 4 else 5) [] ++ dg (p n)
theorem dg_3 (n : Nat) : (dg n).length ≤ 3 := by
  rw [dg_l]
  split
  · decide
  · split <;> decide
theorem st45 {i : Nat} : (fx_st.getD (if i = 0 then 4 else 5) []).length ≤ 6 := by
  split <;> decide
theorem tp_b {p : Nat → Nat} : ∀ n, (tp p n).length ≤ 9 * n
  | 0 => Nat.le_refl _
  | n + 1 => by
    have h1 := tp_b (p := p) n
    have h2 := dg_3 (p n)
    have h3 := st45 (i := n)
    rw [tp, List.length_append, List.length_append]
    omega
theorem tp_m {p : Nat → Nat} {i : Nat} : ∀ n, i ≤ n → (tp p i).length ≤ (tp p n).length
  | 0 => fun h => by rw [Nat.le_zero.mp h]; exact Nat.le_refl _
  | n + 1 => fun h => by
    by_cases e : i = n + 1
    · rw [e]; exact Nat.le_refl _
    · have h1 := tp_m (p := p) (i := i) n (by omega)
      rw [tp, List.length_append, List.length_append]
      omega
theorem sp_tellP {post : Int32 → Nat → (Nat → Int32) → Prop} {q T u r n c : Nat} {p : Nat → Nat} {C P f : Nat → Int32} {l : List Nat} (r1 : 1 ≤ r) (r2 : r ≤ n) (hn : n ≤ 300) (hC : C r = nI c) (hc : c ≤ 3) (hp : ∀ i, i < c → P (3 * r + i) = nI (p i) ∧ p i < 1000) (hT : T ≤ 300) (hl : l.length + (tp p c).length ≤ T) (hq : q ≤ 600) (hu : q < T → u = 1) (hf : tv f q l)
    (h : ∀ q' f', gq q q' → tv f' q' (l ++ tp p c) → post (nI (l ++ tp p c).length) q' f') : wp_X5_tellPremises post (6 * u) (6 * (1300 * u)) (nI n) C P (nI l.length) q f (nI r) := by
  unfold wp_X5_tellPremises
  refine wh6_up c (fun i y1 y2 y3 y4 y5 => ∃ l', l' = l ++ tp p i ∧ y1 = nI l'.length ∧ gq q y2 ∧ tv y3 y2 l' ∧ y4 = 2 * i * u ∧ y5 = 2 * i * (1300 * u)) (fun rec i y1 y2 y3 y4 y5 hi hI hrec => ?_) 0 _ _ _ _ _ (by omega) ⟨l, (List.append_nil _).symm, rfl, gq_r hq, hf, (Nat.zero_mul _).symm, (Nat.zero_mul _).symm⟩
  obtain ⟨l', el, rfl, hg, hf', rfl, rfl⟩ := hI
  rw [k2_count r1 r2 hn hC]
  refine fb_le (by omega) (by omega) (fun he => ?_) (fun he => ?_)
  · have e : i = c := by omega
    rw [e] at el
    rw [el] at hf' ⊢
    exact h _ _ hg hf'
  obtain ⟨p1, p2⟩ := hp i he
  have m1 := tp_m (p := p) (i := i + 1) c (by omega)
  have el' : l' ++ fx_st.getD (if i = 0 then 4 else 5) [] ++ dg (p i) = l ++ tp p (i + 1) := by
    rw [el, tp, List.append_assoc, List.append_assoc, List.append_assoc]
  have hln : l'.length + (fx_st.getD (if i = 0 then 4 else 5) []).length + (dg (p i)).length ≤ T := by
    rw [← List.length_append, ← List.length_append, el', List.length_append]
    omega
  have hq' : y2 ≤ 600 := hg.2
  have hu' : y2 < T → u = 1 := fun z => hu (by have := hg.1; omega)
  have a0 : 2 * (i + 1) * u ≤ 6 * u := Nat.mul_le_mul_right _ (by omega)
  have a0' : 2 * (i + 1) * (1300 * u) ≤ 6 * (1300 * u) := Nat.mul_le_mul_right _ (by omega)
  have a1 : 2 * (i + 1) * u = 2 * i * u + u + u := by
    rw [Nat.mul_succ, Nat.add_mul]; omega
  have a2 : 2 * (i + 1) * (1300 * u) = 2 * i * (1300 * u) + 1300 * u + 1300 * u := by
    rw [Nat.mul_succ, Nat.add_mul]; omega
  refine fj1_i (fun w => w = if i = 0 then 4 else 5) (fun w hw => ?_) (fun K' hK' => fb_eq0 (by omega) (fun e => hK' _ (by rw [if_pos e])) (fun e => hK' _ (by rw [if_neg (by omega)])))
  show fx_al _ _ _ _ _
  have hw6 : w < 66 := by rw [hw]; split <;> decide
  rw [← hw] at el' hln
  refine ⟨u, 1300 * u, by omega, by omega, su_s hT hw6 (by omega) hq' hu' hf' (fun q' f' hg' hf'' => ?_)⟩
  rw [k2_at r1 r2 hn hC hc he p1]
  refine ⟨u, 1300 * u, by omega, by omega, su_i hT p2 (by rw [List.length_append]; omega) hg'.2 (fun z => hu' (by have := hg'.1; omega)) hf'' (fun q'' f'' hg'' hf3 => ?_)⟩
  rw [fx_nm_add]
  exact hrec _ _ _ _ _ he ⟨_, el', rfl, gq_t hg (gq_t hg' hg''), hf3, a1.symm, a2.symm⟩

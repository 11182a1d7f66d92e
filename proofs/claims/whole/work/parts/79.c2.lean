/-! LOGIC: all told bytes are small -/
def cm (l : List Nat) : Prop := ∀ c, c ∈ l → c < 128
theorem cm_a {a b : List Nat} (ha : cm a) (hb : cm b) : cm (a ++ b) := fun c hc => (List.mem_append.mp hc).elim (ha c) (hb c)
theorem cm_7 {l : List Nat} (h : cm l) : ch7 l := fun j hj => by
  rw [gd_e hj]
  exact h _ (List.getElem_mem hj)
theorem cm_st {p : Nat} (h : p < 66) : cm (fx_st.getD p []) := by
  have : ∀ p : Nat, p < 66 → ∀ c, c ∈ fx_st.getD p [] → c < 128 := by decide +kernel
  exact this p h
theorem cm_dg {n : Nat} (h : n < 1000) : cm (dg n) := by
  have : ∀ n : Nat, n < 1000 → ∀ c, c ∈ dg n → c < 128 := by decide +kernel
  exact this n h
theorem cm_sx {s : Q4} (hb : q_b s) : cm (sx s) := by
  obtain ⟨b1, b2, b3, b4⟩ := hb
  intro c hc
  obtain ⟨d, hd, hc⟩ := List.mem_flatMap.mp hc
  have d1 := cm_st (wd_b b1) d hd
  unfold gx at hc
  split at hc
  · rw [List.mem_singleton.mp hc]; exact d1
  · split at hc
    · rw [List.mem_singleton.mp hc]; exact d1
    · refine cm_dg ?_ c hc
      unfold qw
      split
      · omega
      · split
        · exact b2
        · split
          · exact b3
          · exact b4
theorem cm_tp {p : Nat → Nat} : ∀ n, (∀ i, i < n → p i < 1000) → cm (tp p n)
  | 0 => fun _ c hc => absurd hc List.not_mem_nil
  | n + 1 => fun h => cm_a (cm_a (cm_tp n (fun i hi => h i (by omega))) (cm_st (by split <;> decide))) (cm_dg (h n (by omega)))
theorem cm_se {S : Nat → Q4} {ru cn : Nat → Nat} {pr : Nat → Nat → Nat} {r : Nat} (hr : r < 1000) (h1 : q_b (S r)) (h2 : ru r < 18) (h3 : ∀ i, i < cn r → pr r i < 1000) : cm (se S ru cn pr r) :=
  cm_a (cm_a (cm_a (cm_a (cm_a (cm_a (cm_dg hr) (cm_st (by decide))) (cm_sx h1)) (cm_st (by decide))) (cm_st (rw_b h2))) (cm_tp _ h3)) (fun c hc => by rw [List.mem_singleton.mp hc]; decide)

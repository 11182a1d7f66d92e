/-! LOGIC: loops with a counter in front -/
theorem wh1_up {F : (Int32 → Prop) → Int32 → Prop} (e : Nat) (I : Nat → Prop) (step : ∀ (rec : Int32 → Prop) (i : Nat), i ≤ e → I i → (i < e → I (i + 1) → rec (nI (i + 1))) → F rec (nI i)) (i : Nat) (hi : i ≤ e) (h : I i) : fx_wh1 F (nI i) := by
  suffices hs : ∀ (d i : Nat), i + d = e → I i → fx_lp1 F (d + 1) (nI i) from ⟨_, hs (e - i) i (by omega) h⟩
  intro d
  induction d with
  | zero => exact fun i he hI => step _ i (by omega) hI (fun hl _ => absurd hl (by omega))
  | succ d ih => exact fun i he hI => step _ i (by omega) hI (fun _ hI' => ih (i + 1) (by omega) hI')
theorem wh1_dn {F : (Int32 → Prop) → Int32 → Prop} (I : Nat → Prop) (step : ∀ (rec : Int32 → Prop) (i : Nat), I i → (1 ≤ i → I (i - 1) → rec (nI (i - 1))) → F rec (nI i)) (i : Nat) (h : I i) : fx_wh1 F (nI i) := by
  suffices hs : ∀ (d i : Nat), i = d → I i → fx_lp1 F (d + 1) (nI i) from ⟨_, hs i i rfl h⟩
  intro d
  induction d with
  | zero => exact fun i he hI => step _ i hI (fun hl _ => absurd hl (by omega))
  | succ d ih => exact fun i he hI => step _ i hI (fun _ hI' => ih (i - 1) (by omega) hI')
theorem wh2_up {T1 : Type} {F : (Int32 → T1 → Prop) → Int32 → T1 → Prop} (e : Nat) (I : Nat → T1 → Prop) (step : ∀ (rec : Int32 → T1 → Prop) (i : Nat) (y1 : T1), i ≤ e → I i y1 → (∀ (y1' : T1), i < e → I (i + 1) y1' → rec (nI (i + 1)) y1') → F rec (nI i) y1) (i : Nat) (y1 : T1) (hi : i ≤ e) (h : I i y1) : fx_wh2 F (nI i) y1 := by
  suffices hs : ∀ (d i : Nat) (y1 : T1), i + d = e → I i y1 → fx_lp2 F (d + 1) (nI i) y1 from ⟨_, hs (e - i) i y1 (by omega) h⟩
  intro d
  induction d with
  | zero => exact fun i y1 he hI => step _ i y1 (by omega) hI (fun y1' hl _ => absurd hl (by omega))
  | succ d ih => exact fun i y1 he hI => step _ i y1 (by omega) hI (fun y1' _ hI' => ih (i + 1) y1' (by omega) hI')
theorem wh2_dn {T1 : Type} {F : (Int32 → T1 → Prop) → Int32 → T1 → Prop} (I : Nat → T1 → Prop) (step : ∀ (rec : Int32 → T1 → Prop) (i : Nat) (y1 : T1), I i y1 → (∀ (y1' : T1), 1 ≤ i → I (i - 1) y1' → rec (nI (i - 1)) y1') → F rec (nI i) y1) (i : Nat) (y1 : T1) (h : I i y1) : fx_wh2 F (nI i) y1 := by
  suffices hs : ∀ (d i : Nat) (y1 : T1), i = d → I i y1 → fx_lp2 F (d + 1) (nI i) y1 from ⟨_, hs i i y1 rfl h⟩
  intro d
  induction d with
  | zero => exact fun i y1 he hI => step _ i y1 hI (fun y1' hl _ => absurd hl (by omega))
  | succ d ih => exact fun i y1 he hI => step _ i y1 hI (fun y1' _ hI' => ih (i - 1) y1' (by omega) hI')
theorem wh3_up {T1 T2 : Type} {F : (Int32 → T1 → T2 → Prop) → Int32 → T1 → T2 → Prop} (e : Nat) (I : Nat → T1 → T2 → Prop) (step : ∀ (rec : Int32 → T1 → T2 → Prop) (i : Nat) (y1 : T1) (y2 : T2), i ≤ e → I i y1 y2 → (∀ (y1' : T1) (y2' : T2), i < e → I (i + 1) y1' y2' → rec (nI (i + 1)) y1' y2') → F rec (nI i) y1 y2) (i : Nat) (y1 : T1) (y2 : T2) (hi : i ≤ e) (h : I i y1 y2) : fx_wh3 F (nI i) y1 y2 := by
  suffices hs : ∀ (d i : Nat) (y1 : T1) (y2 : T2), i + d = e → I i y1 y2 → fx_lp3 F (d + 1) (nI i) y1 y2 from ⟨_, hs (e - i) i y1 y2 (by omega) h⟩
  intro d
  induction d with
  | zero => exact fun i y1 y2 he hI => step _ i y1 y2 (by omega) hI (fun y1' y2' hl _ => absurd hl (by omega))
  | succ d ih => exact fun i y1 y2 he hI => step _ i y1 y2 (by omega) hI (fun y1' y2' _ hI' => ih (i + 1) y1' y2' (by omega) hI')
theorem wh3_dn {T1 T2 : Type} {F : (Int32 → T1 → T2 → Prop) → Int32 → T1 → T2 → Prop} (I : Nat → T1 → T2 → Prop) (step : ∀ (rec : Int32 → T1 → T2 → Prop) (i : Nat) (y1 : T1) (y2 : T2), I i y1 y2 → (∀ (y1' : T1) (y2' : T2), 1 ≤ i → I (i - 1) y1' y2' → rec (nI (i - 1)) y1' y2') → F rec (nI i) y1 y2) (i : Nat) (y1 : T1) (y2 : T2) (h : I i y1 y2) : fx_wh3 F (nI i) y1 y2 := by
  suffices hs : ∀ (d i : Nat) (y1 : T1) (y2 : T2), i = d → I i y1 y2 → fx_lp3 F (d + 1) (nI i) y1 y2 from ⟨_, hs i i y1 y2 rfl h⟩
  intro d
  induction d with
  | zero => exact fun i y1 y2 he hI => step _ i y1 y2 hI (fun y1' y2' hl _ => absurd hl (by omega))
  | succ d ih => exact fun i y1 y2 he hI => step _ i y1 y2 hI (fun y1' y2' _ hI' => ih (i - 1) y1' y2' (by omega) hI')
theorem wh4_up {T1 T2 T3 : Type} {F : (Int32 → T1 → T2 → T3 → Prop) → Int32 → T1 → T2 → T3 → Prop} (e : Nat) (I : Nat → T1 → T2 → T3 → Prop) (step : ∀ (rec : Int32 → T1 → T2 → T3 → Prop) (i : Nat) (y1 : T1) (y2 : T2) (y3 : T3), i ≤ e → I i y1 y2 y3 → (∀ (y1' : T1) (y2' : T2) (y3' : T3), i < e → I (i + 1) y1' y2' y3' → rec (nI (i + 1)) y1' y2' y3') → F rec (nI i) y1 y2 y3) (i : Nat) (y1 : T1) (y2 : T2) (y3 : T3) (hi : i ≤ e) (h : I i y1 y2 y3) : fx_wh4 F (nI i) y1 y2 y3 := by
  suffices hs : ∀ (d i : Nat) (y1 : T1) (y2 : T2) (y3 : T3), i + d = e → I i y1 y2 y3 → fx_lp4 F (d + 1) (nI i) y1 y2 y3 from ⟨_, hs (e - i) i y1 y2 y3 (by omega) h⟩
  intro d
  induction d with
  | zero => exact fun i y1 y2 y3 he hI => step _ i y1 y2 y3 (by omega) hI (fun y1' y2' y3' hl _ => absurd hl (by omega))
  | succ d ih => exact fun i y1 y2 y3 he hI => step _ i y1 y2 y3 (by omega) hI (fun y1' y2' y3' _ hI' => ih (i + 1) y1' y2' y3' (by omega) hI')
theorem wh4_dn {T1 T2 T3 : Type} {F : (Int32 → T1 → T2 → T3 → Prop) → Int32 → T1 → T2 → T3 → Prop} (I : Nat → T1 → T2 → T3 → Prop) (step : ∀ (rec : Int32 → T1 → T2 → T3 → Prop) (i : Nat) (y1 : T1) (y2 : T2) (y3 : T3), I i y1 y2 y3 → (∀ (y1' : T1) (y2' : T2) (y3' : T3), 1 ≤ i → I (i - 1) y1' y2' y3' → rec (nI (i - 1)) y1' y2' y3') → F rec (nI i) y1 y2 y3) (i : Nat) (y1 : T1) (y2 : T2) (y3 : T3) (h : I i y1 y2 y3) : fx_wh4 F (nI i) y1 y2 y3 := by
  suffices hs : ∀ (d i : Nat) (y1 : T1) (y2 : T2) (y3 : T3), i = d → I i y1 y2 y3 → fx_lp4 F (d + 1) (nI i) y1 y2 y3 from ⟨_, hs i i y1 y2 y3 rfl h⟩
  intro d
  induction d with
  | zero => exact fun i y1 y2 y3 he hI => step _ i y1 y2 y3 hI (fun y1' y2' y3' hl _ => absurd hl (by omega))
  | succ d ih => exact fun i y1 y2 y3 he hI => step _ i y1 y2 y3 hI (fun y1' y2' y3' _ hI' => ih (i - 1) y1' y2' y3' (by omega) hI')
theorem wh5_up {T1 T2 T3 T4 : Type} {F : (Int32 → T1 → T2 → T3 → T4 → Prop) → Int32 → T1 → T2 → T3 → T4 → Prop} (e : Nat) (I : Nat → T1 → T2 → T3 → T4 → Prop) (step : ∀ (rec : Int32 → T1 → T2 → T3 → T4 → Prop) (i : Nat) (y1 : T1) (y2 : T2) (y3 : T3) (y4 : T4), i ≤ e → I i y1 y2 y3 y4 → (∀ (y1' : T1) (y2' : T2) (y3' : T3) (y4' : T4), i < e → I (i + 1) y1' y2' y3' y4' → rec (nI (i + 1)) y1' y2' y3' y4') → F rec (nI i) y1 y2 y3 y4) (i : Nat) (y1 : T1) (y2 : T2) (y3 : T3) (y4 : T4) (hi : i ≤ e) (h : I i y1 y2 y3 y4) : fx_wh5 F (nI i) y1 y2 y3 y4 := by
  suffices hs : ∀ (d i : Nat) (y1 : T1) (y2 : T2) (y3 : T3) (y4 : T4), i + d = e → I i y1 y2 y3 y4 → fx_lp5 F (d + 1) (nI i) y1 y2 y3 y4 from ⟨_, hs (e - i) i y1 y2 y3 y4 (by omega) h⟩
  intro d
  induction d with
  | zero => exact fun i y1 y2 y3 y4 he hI => step _ i y1 y2 y3 y4 (by omega) hI (fun y1' y2' y3' y4' hl _ => absurd hl (by omega))
  | succ d ih => exact fun i y1 y2 y3 y4 he hI => step _ i y1 y2 y3 y4 (by omega) hI (fun y1' y2' y3' y4' _ hI' => ih (i + 1) y1' y2' y3' y4' (by omega) hI')
theorem wh5_dn {T1 T2 T3 T4 : Type} {F : (Int32 → T1 → T2 → T3 → T4 → Prop) → Int32 → T1 → T2 → T3 → T4 → Prop} (I : Nat → T1 → T2 → T3 → T4 → Prop) (step : ∀ (rec : Int32 → T1 → T2 → T3 → T4 → Prop) (i : Nat) (y1 : T1) (y2 : T2) (y3 : T3) (y4 : T4), I i y1 y2 y3 y4 → (∀ (y1' : T1) (y2' : T2) (y3' : T3) (y4' : T4), 1 ≤ i → I (i - 1) y1' y2' y3' y4' → rec (nI (i - 1)) y1' y2' y3' y4') → F rec (nI i) y1 y2 y3 y4) (i : Nat) (y1 : T1) (y2 : T2) (y3 : T3) (y4 : T4) (h : I i y1 y2 y3 y4) : fx_wh5 F (nI i) y1 y2 y3 y4 := by
  suffices hs : ∀ (d i : Nat) (y1 : T1) (y2 : T2) (y3 : T3) (y4 : T4), i = d → I i y1 y2 y3 y4 → fx_lp5 F (d + 1) (nI i) y1 y2 y3 y4 from ⟨_, hs i i y1 y2 y3 y4 rfl h⟩
  intro d
  induction d with
  | zero => exact fun i y1 y2 y3 y4 he hI => step _ i y1 y2 y3 y4 hI (fun y1' y2' y3' y4' hl _ => absurd hl (by omega))
  | succ d ih => exact fun i y1 y2 y3 y4 he hI => step _ i y1 y2 y3 y4 hI (fun y1' y2' y3' y4' _ hI' => ih (i - 1) y1' y2' y3' y4' (by omega) hI')
theorem wh6_up {T1 T2 T3 T4 T5 : Type} {F : (Int32 → T1 → T2 → T3 → T4 → T5 → Prop) → Int32 → T1 → T2 → T3 → T4 → T5 → Prop} (e : Nat) (I : Nat → T1 → T2 → T3 → T4 → T5 → Prop) (step : ∀ (rec : Int32 → T1 → T2 → T3 → T4 → T5 → Prop) (i : Nat) (y1 : T1) (y2 : T2) (y3 : T3) (y4 : T4) (y5 : T5), i ≤ e → I i y1 y2 y3 y4 y5 → (∀ (y1' : T1) (y2' : T2) (y3' : T3) (y4' : T4) (y5' : T5), i < e → I (i + 1) y1' y2' y3' y4' y5' → rec (nI (i + 1)) y1' y2' y3' y4' y5') → F rec (nI i) y1 y2 y3 y4 y5) (i : Nat) (y1 : T1) (y2 : T2) (y3 : T3) (y4 : T4) (y5 : T5) (hi : i ≤ e) (h : I i y1 y2 y3 y4 y5) : fx_wh6 F (nI i) y1 y2 y3 y4 y5 := by
  suffices hs : ∀ (d i : Nat) (y1 : T1) (y2 : T2) (y3 : T3) (y4 : T4) (y5 : T5), i + d = e → I i y1 y2 y3 y4 y5 → fx_lp6 F (d + 1) (nI i) y1 y2 y3 y4 y5 from ⟨_, hs (e - i) i y1 y2 y3 y4 y5 (by omega) h⟩
  intro d
  induction d with
  | zero => exact fun i y1 y2 y3 y4 y5 he hI => step _ i y1 y2 y3 y4 y5 (by omega) hI (fun y1' y2' y3' y4' y5' hl _ => absurd hl (by omega))
  | succ d ih => exact fun i y1 y2 y3 y4 y5 he hI => step _ i y1 y2 y3 y4 y5 (by omega) hI (fun y1' y2' y3' y4' y5' _ hI' => ih (i + 1) y1' y2' y3' y4' y5' (by omega) hI')
theorem wh6_dn {T1 T2 T3 T4 T5 : Type} {F : (Int32 → T1 → T2 → T3 → T4 → T5 → Prop) → Int32 → T1 → T2 → T3 → T4 → T5 → Prop} (I : Nat → T1 → T2 → T3 → T4 → T5 → Prop) (step : ∀ (rec : Int32 → T1 → T2 → T3 → T4 → T5 → Prop) (i : Nat) (y1 : T1) (y2 : T2) (y3 : T3) (y4 : T4) (y5 : T5), I i y1 y2 y3 y4 y5 → (∀ (y1' : T1) (y2' : T2) (y3' : T3) (y4' : T4) (y5' : T5), 1 ≤ i → I (i - 1) y1' y2' y3' y4' y5' → rec (nI (i - 1)) y1' y2' y3' y4' y5') → F rec (nI i) y1 y2 y3 y4 y5) (i : Nat) (y1 : T1) (y2 : T2) (y3 : T3) (y4 : T4) (y5 : T5) (h : I i y1 y2 y3 y4 y5) : fx_wh6 F (nI i) y1 y2 y3 y4 y5 := by
  suffices hs : ∀ (d i : Nat) (y1 : T1) (y2 : T2) (y3 : T3) (y4 : T4) (y5 : T5), i = d → I i y1 y2 y3 y4 y5 → fx_lp6 F (d + 1) (nI i) y1 y2 y3 y4 y5 from ⟨_, hs i i y1 y2 y3 y4 y5 rfl h⟩
  intro d
  induction d with
  | zero => exact fun i y1 y2 y3 y4 y5 he hI => step _ i y1 y2 y3 y4 y5 hI (fun y1' y2' y3' y4' y5' hl _ => absurd hl (by omega))
  | succ d ih => exact fun i y1 y2 y3 y4 y5 he hI => step _ i y1 y2 y3 y4 y5 hI (fun y1' y2' y3' y4' y5' _ hI' => ih (i - 1) y1' y2' y3' y4' y5' (by omega) hI')
theorem wh7_up {T1 T2 T3 T4 T5 T6 : Type} {F : (Int32 → T1 → T2 → T3 → T4 → T5 → T6 → Prop) → Int32 → T1 → T2 → T3 → T4 → T5 → T6 → Prop} (e : Nat) (I : Nat → T1 → T2 → T3 → T4 → T5 → T6 → Prop) (step : ∀ (rec : Int32 → T1 → T2 → T3 → T4 → T5 → T6 → Prop) (i : Nat) (y1 : T1) (y2 : T2) (y3 : T3) (y4 : T4) (y5 : T5) (y6 : T6), i ≤ e → I i y1 y2 y3 y4 y5 y6 → (∀ (y1' : T1) (y2' : T2) (y3' : T3) (y4' : T4) (y5' : T5) (y6' : T6), i < e → I (i + 1) y1' y2' y3' y4' y5' y6' → rec (nI (i + 1)) y1' y2' y3' y4' y5' y6') → F rec (nI i) y1 y2 y3 y4 y5 y6) (i : Nat) (y1 : T1) (y2 : T2) (y3 : T3) (y4 : T4) (y5 : T5) (y6 : T6) (hi : i ≤ e) (h : I i y1 y2 y3 y4 y5 y6) : fx_wh7 F (nI i) y1 y2 y3 y4 y5 y6 := by
  suffices hs : ∀ (d i : Nat) (y1 : T1) (y2 : T2) (y3 : T3) (y4 : T4) (y5 : T5) (y6 : T6), i + d = e → I i y1 y2 y3 y4 y5 y6 → fx_lp7 F (d + 1) (nI i) y1 y2 y3 y4 y5 y6 from ⟨_, hs (e - i) i y1 y2 y3 y4 y5 y6 (by omega) h⟩
  intro d
  induction d with
  | zero => exact fun i y1 y2 y3 y4 y5 y6 he hI => step _ i y1 y2 y3 y4 y5 y6 (by omega) hI (fun y1' y2' y3' y4' y5' y6' hl _ => absurd hl (by omega))
  | succ d ih => exact fun i y1 y2 y3 y4 y5 y6 he hI => step _ i y1 y2 y3 y4 y5 y6 (by omega) hI (fun y1' y2' y3' y4' y5' y6' _ hI' => ih (i + 1) y1' y2' y3' y4' y5' y6' (by omega) hI')
theorem wh7_dn {T1 T2 T3 T4 T5 T6 : Type} {F : (Int32 → T1 → T2 → T3 → T4 → T5 → T6 → Prop) → Int32 → T1 → T2 → T3 → T4 → T5 → T6 → Prop} (I : Nat → T1 → T2 → T3 → T4 → T5 → T6 → Prop) (step : ∀ (rec : Int32 → T1 → T2 → T3 → T4 → T5 → T6 → Prop) (i : Nat) (y1 : T1) (y2 : T2) (y3 : T3) (y4 : T4) (y5 : T5) (y6 : T6), I i y1 y2 y3 y4 y5 y6 → (∀ (y1' : T1) (y2' : T2) (y3' : T3) (y4' : T4) (y5' : T5) (y6' : T6), 1 ≤ i → I (i - 1) y1' y2' y3' y4' y5' y6' → rec (nI (i - 1)) y1' y2' y3' y4' y5' y6') → F rec (nI i) y1 y2 y3 y4 y5 y6) (i : Nat) (y1 : T1) (y2 : T2) (y3 : T3) (y4 : T4) (y5 : T5) (y6 : T6) (h : I i y1 y2 y3 y4 y5 y6) : fx_wh7 F (nI i) y1 y2 y3 y4 y5 y6 := by
  suffices hs : ∀ (d i : Nat) (y1 : T1) (y2 : T2) (y3 : T3) (y4 : T4) (y5 : T5) (y6 : T6), i = d → I i y1 y2 y3 y4 y5 y6 → fx_lp7 F (d + 1) (nI i) y1 y2 y3 y4 y5 y6 from ⟨_, hs i i y1 y2 y3 y4 y5 y6 rfl h⟩
  intro d
  induction d with
  | zero => exact fun i y1 y2 y3 y4 y5 y6 he hI => step _ i y1 y2 y3 y4 y5 y6 hI (fun y1' y2' y3' y4' y5' y6' hl _ => absurd hl (by omega))
  | succ d ih => exact fun i y1 y2 y3 y4 y5 y6 he hI => step _ i y1 y2 y3 y4 y5 y6 hI (fun y1' y2' y3' y4' y5' y6' _ hI' => ih (i - 1) y1' y2' y3' y4' y5' y6' (by omega) hI')
theorem wh8_up {T1 T2 T3 T4 T5 T6 T7 : Type} {F : (Int32 → T1 → T2 → T3 → T4 → T5 → T6 → T7 → Prop) → Int32 → T1 → T2 → T3 → T4 → T5 → T6 → T7 → Prop} (e : Nat) (I : Nat → T1 → T2 → T3 → T4 → T5 → T6 → T7 → Prop) (step : ∀ (rec : Int32 → T1 → T2 → T3 → T4 → T5 → T6 → T7 → Prop) (i : Nat) (y1 : T1) (y2 : T2) (y3 : T3) (y4 : T4) (y5 : T5) (y6 : T6) (y7 : T7), i ≤ e → I i y1 y2 y3 y4 y5 y6 y7 → (∀ (y1' : T1) (y2' : T2) (y3' : T3) (y4' : T4) (y5' : T5) (y6' : T6) (y7' : T7), i < e → I (i + 1) y1' y2' y3' y4' y5' y6' y7' → rec (nI (i + 1)) y1' y2' y3' y4' y5' y6' y7') → F rec (nI i) y1 y2 y3 y4 y5 y6 y7) (i : Nat) (y1 : T1) (y2 : T2) (y3 : T3) (y4 : T4) (y5 : T5) (y6 : T6) (y7 : T7) (hi : i ≤ e) (h : I i y1 y2 y3 y4 y5 y6 y7) : fx_wh8 F (nI i) y1 y2 y3 y4 y5 y6 y7 := by
  suffices hs : ∀ (d i : Nat) (y1 : T1) (y2 : T2) (y3 : T3) (y4 : T4) (y5 : T5) (y6 : T6) (y7 : T7), i + d = e → I i y1 y2 y3 y4 y5 y6 y7 → fx_lp8 F (d + 1) (nI i) y1 y2 y3 y4 y5 y6 y7 from ⟨_, hs (e - i) i y1 y2 y3 y4 y5 y6 y7 (by omega) h⟩
  intro d
  induction d with
  | zero => exact fun i y1 y2 y3 y4 y5 y6 y7 he hI => step _ i y1 y2 y3 y4 y5 y6 y7 (by omega) hI (fun y1' y2' y3' y4' y5' y6' y7' hl _ => absurd hl (by omega))
  | succ d ih => exact fun i y1 y2 y3 y4 y5 y6 y7 he hI => step _ i y1 y2 y3 y4 y5 y6 y7 (by omega) hI (fun y1' y2' y3' y4' y5' y6' y7' _ hI' => ih (i + 1) y1' y2' y3' y4' y5' y6' y7' (by omega) hI')
theorem wh8_dn {T1 T2 T3 T4 T5 T6 T7 : Type} {F : (Int32 → T1 → T2 → T3 → T4 → T5 → T6 → T7 → Prop) → Int32 → T1 → T2 → T3 → T4 → T5 → T6 → T7 → Prop} (I : Nat → T1 → T2 → T3 → T4 → T5 → T6 → T7 → Prop) (step : ∀ (rec : Int32 → T1 → T2 → T3 → T4 → T5 → T6 → T7 → Prop) (i : Nat) (y1 : T1) (y2 : T2) (y3 : T3) (y4 : T4) (y5 : T5) (y6 : T6) (y7 : T7), I i y1 y2 y3 y4 y5 y6 y7 → (∀ (y1' : T1) (y2' : T2) (y3' : T3) (y4' : T4) (y5' : T5) (y6' : T6) (y7' : T7), 1 ≤ i → I (i - 1) y1' y2' y3' y4' y5' y6' y7' → rec (nI (i - 1)) y1' y2' y3' y4' y5' y6' y7') → F rec (nI i) y1 y2 y3 y4 y5 y6 y7) (i : Nat) (y1 : T1) (y2 : T2) (y3 : T3) (y4 : T4) (y5 : T5) (y6 : T6) (y7 : T7) (h : I i y1 y2 y3 y4 y5 y6 y7) : fx_wh8 F (nI i) y1 y2 y3 y4 y5 y6 y7 := by
  suffices hs : ∀ (d i : Nat) (y1 : T1) (y2 : T2) (y3 : T3) (y4 : T4) (y5 : T5) (y6 : T6) (y7 : T7), i = d → I i y1 y2 y3 y4 y5 y6 y7 → fx_lp8 F (d + 1) (nI i) y1 y2 y3 y4 y5 y6 y7 from ⟨_, hs i i y1 y2 y3 y4 y5 y6 y7 rfl h⟩
  intro d
  induction d with
  | zero => exact fun i y1 y2 y3 y4 y5 y6 y7 he hI => step _ i y1 y2 y3 y4 y5 y6 y7 hI (fun y1' y2' y3' y4' y5' y6' y7' hl _ => absurd hl (by omega))
  | succ d ih => exact fun i y1 y2 y3 y4 y5 y6 y7 he hI => step _ i y1 y2 y3 y4 y5 y6 y7 hI (fun y1' y2' y3' y4' y5' y6' y7' _ hI' => ih (i - 1) y1' y2' y3' y4' y5' y6' y7' (by omega) hI')
theorem wh9_up {T1 T2 T3 T4 T5 T6 T7 T8 : Type} {F : (Int32 → T1 → T2 → T3 → T4 → T5 → T6 → T7 → T8 → Prop) → Int32 → T1 → T2 → T3 → T4 → T5 → T6 → T7 → T8 → Prop} (e : Nat) (I : Nat → T1 → T2 → T3 → T4 → T5 → T6 → T7 → T8 → Prop) (step : ∀ (rec : Int32 → T1 → T2 → T3 → T4 → T5 → T6 → T7 → T8 → Prop) (i : Nat) (y1 : T1) (y2 : T2) (y3 : T3) (y4 : T4) (y5 : T5) (y6 : T6) (y7 : T7) (y8 : T8), i ≤ e → I i y1 y2 y3 y4 y5 y6 y7 y8 → (∀ (y1' : T1) (y2' : T2) (y3' : T3) (y4' : T4) (y5' : T5) (y6' : T6) (y7' : T7) (y8' : T8), i < e → I (i + 1) y1' y2' y3' y4' y5' y6' y7' y8' → rec (nI (i + 1)) y1' y2' y3' y4' y5' y6' y7' y8') → F rec (nI i) y1 y2 y3 y4 y5 y6 y7 y8) (i : Nat) (y1 : T1) (y2 : T2) (y3 : T3) (y4 : T4) (y5 : T5) (y6 : T6) (y7 : T7) (y8 : T8) (hi : i ≤ e) (h : I i y1 y2 y3 y4 y5 y6 y7 y8) : fx_wh9 F (nI i) y1 y2 y3 y4 y5 y6 y7 y8 := by
  suffices hs : ∀ (d i : Nat) (y1 : T1) (y2 : T2) (y3 : T3) (y4 : T4) (y5 : T5) (y6 : T6) (y7 : T7) (y8 : T8), i + d = e → I i y1 y2 y3 y4 y5 y6 y7 y8 → fx_lp9 F (d + 1) (nI i) y1 y2 y3 y4 y5 y6 y7 y8 from ⟨_, hs (e - i) i y1 y2 y3 y4 y5 y6 y7 y8 (by omega) h⟩
  intro d
  induction d with
  | zero => exact fun i y1 y2 y3 y4 y5 y6 y7 y8 he hI => step _ i y1 y2 y3 y4 y5 y6 y7 y8 (by omega) hI (fun y1' y2' y3' y4' y5' y6' y7' y8' hl _ => absurd hl (by omega))
  | succ d ih => exact fun i y1 y2 y3 y4 y5 y6 y7 y8 he hI => step _ i y1 y2 y3 y4 y5 y6 y7 y8 (by omega) hI (fun y1' y2' y3' y4' y5' y6' y7' y8' _ hI' => ih (i + 1) y1' y2' y3' y4' y5' y6' y7' y8' (by omega) hI')
theorem wh9_dn {T1 T2 T3 T4 T5 T6 T7 T8 : Type} {F : (Int32 → T1 → T2 → T3 → T4 → T5 → T6 → T7 → T8 → Prop) → Int32 → T1 → T2 → T3 → T4 → T5 → T6 → T7 → T8 → Prop} (I : Nat → T1 → T2 → T3 → T4 → T5 → T6 → T7 → T8 → Prop) (step : ∀ (rec : Int32 → T1 → T2 → T3 → T4 → T5 → T6 → T7 → T8 → Prop) (i : Nat) (y1 : T1) (y2 : T2) (y3 : T3) (y4 : T4) (y5 : T5) (y6 : T6) (y7 : T7) (y8 : T8), I i y1 y2 y3 y4 y5 y6 y7 y8 → (∀ (y1' : T1) (y2' : T2) (y3' : T3) (y4' : T4) (y5' : T5) (y6' : T6) (y7' : T7) (y8' : T8), 1 ≤ i → I (i - 1) y1' y2' y3' y4' y5' y6' y7' y8' → rec (nI (i - 1)) y1' y2' y3' y4' y5' y6' y7' y8') → F rec (nI i) y1 y2 y3 y4 y5 y6 y7 y8) (i : Nat) (y1 : T1) (y2 : T2) (y3 : T3) (y4 : T4) (y5 : T5) (y6 : T6) (y7 : T7) (y8 : T8) (h : I i y1 y2 y3 y4 y5 y6 y7 y8) : fx_wh9 F (nI i) y1 y2 y3 y4 y5 y6 y7 y8 := by
  suffices hs : ∀ (d i : Nat) (y1 : T1) (y2 : T2) (y3 : T3) (y4 : T4) (y5 : T5) (y6 : T6) (y7 : T7) (y8 : T8), i = d → I i y1 y2 y3 y4 y5 y6 y7 y8 → fx_lp9 F (d + 1) (nI i) y1 y2 y3 y4 y5 y6 y7 y8 from ⟨_, hs i i y1 y2 y3 y4 y5 y6 y7 y8 rfl h⟩
  intro d
  induction d with
  | zero => exact fun i y1 y2 y3 y4 y5 y6 y7 y8 he hI => step _ i y1 y2 y3 y4 y5 y6 y7 y8 hI (fun y1' y2' y3' y4' y5' y6' y7' y8' hl _ => absurd hl (by omega))
  | succ d ih => exact fun i y1 y2 y3 y4 y5 y6 y7 y8 he hI => step _ i y1 y2 y3 y4 y5 y6 y7 y8 hI (fun y1' y2' y3' y4' y5' y6' y7' y8' _ hI' => ih (i - 1) y1' y2' y3' y4' y5' y6' y7' y8' (by omega) hI')

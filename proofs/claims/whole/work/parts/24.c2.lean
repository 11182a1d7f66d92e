set_option maxRecDepth 100000 in
def wp_X6_init (post : (Nat → Int64) → Prop) : Prop :=
  fx_ix (nI 0) 98 (fun k1 => fx_nm (vp_updL (fun _ => (0 : Int64)) k1 (lN 418632003437)) (fun g1 => fx_ix (nI 1) 98 (fun k2 => fx_nm (vp_updL g1 k2 (lN 0)) (fun g2 => fx_ix (nI 2) 98 (fun k3 => fx_nm (vp_updL g2 k3 (lN 444150998382)) (fun g3 => fx_ix (nI 3) 98 (fun k4 => fx_nm (vp_updL g3 k4 (lN 0)) (fun g4 => fx_ix (nI 4) 98 (fun k5 => fx_nm (vp_updL g4 k5 (lN 115948873149542)) (fun g5 => fx_ix (nI 5) 98 (fun k6 => fx_nm (vp_updL g5 k6 (lN 0)) (fun g6 => fx_ix (nI 6) 98 (fun k7 => fx_nm (vp_updL g6 k7 (lN 422608400247)) (fun g7 => fx_ix (nI 7) 98 (fun k8 => fx_nm (vp_updL g7 k8 (lN 0)) (fun g8 => fx_ix (nI 8) 98 (fun k9 => fx_nm (vp_updL g8 k9 (lN 8102661208121963625)) (fun g9 => fx_ix (nI 9) 98 (fun k10 => fx_nm (vp_updL g9 k10 (lN 25971)) (fun g10 => fx_ix (nI 10) 98 (fun k11 => fx_nm (vp_updL g10 k11 (lN 0)) (fun g11 => fx_ix (nI 11) 98 (fun k12 => fx_nm (vp_updL g11 k12 (lN 427020088179)) (fun g12 => fx_ix (nI 12) 98 (fun k13 => fx_nm (vp_updL g12 k13 (lN 0)) (fun g13 => fx_ix (nI 13) 98 (fun k14 => fx_nm (vp_updL g13 k14 (lN 8102661208121963641)) (fun g14 => fx_ix (nI 14) 98 (fun k15 => fx_nm (vp_updL g14 k15 (lN 0)) (fun g15 => fx_ix (nI 15) 98 (fun k16 => fx_nm (vp_updL g15 k16 (lN 108187666181747)) (fun g16 => fx_ix (nI 16) 98 (fun k17 => fx_nm (vp_updL g16 k17 (lN 0)) (fun g17 => fx_ix (nI 17) 98 (fun k18 => fx_nm (vp_updL g17 k18 (lN 465557349491)) (fun g18 => fx_ix (nI 18) 98 (fun k19 => fx_nm (vp_updL g18 k19 (lN 0)) (fun g19 => fx_ix (nI 19) 98 (fun k20 => fx_nm (vp_updL g19 k20 (lN 111503598970226)) (fun g20 => fx_ix (nI 20) 98 (fun k21 => fx_nm (vp_updL g20 k21 (lN 0)) (fun g21 => fx_ix (nI 21) 98 (fun k22 => fx_nm (vp_updL g21 k22 (lN 32765938003961704)) (fun g22 => fx_ix (nI 22) 98 (fun k23 => fx_nm (vp_updL g22 k23 (lN 0)) (fun g23 => fx_ix (nI 23) 98 (fun k24 => fx_nm (vp_updL g23 k24 (lN 478694368626)) (fun g24 => fx_ix (nI 24) 98 (fun k25 => fx_nm (vp_updL g24 k25 (lN 0)) (fun g25 => fx_ix (nI 25) 98 (fun k26 => fx_nm (vp_updL g25 k26 (lN 1937203568)) (fun g26 => fx_ix (nI 26) 98 (fun k27 => fx_nm (vp_updL g26 k27 (lN 0)) (fun g27 => fx_ix (nI 27) 98 (fun k28 => fx_nm (vp_updL g27 k28 (lN 435695214956)) (fun g28 => fx_ix (nI 28) 98 (fun k29 => fx_nm (vp_updL g28 k29 (lN 0)) (fun g29 => fx_ix (nI 29) 98 (fun k30 => fx_nm (vp_updL g29 k30 (lN 7302757)) (fun g30 => fx_ix (nI 30) 98 (fun k31 => fx_nm (vp_updL g30 k31 (lN 0)) (fun g31 => fx_ix (nI 31) 98 (fun k32 => fx_nm (vp_updL g31 k32 (lN 418497262196)) (fun g32 => fx_ix (nI 32) 98 (fun k33 => fx_nm (vp_updL g32 k33 (lN 0)) (fun g33 => fx_ix (nI 33) 98 (fun k34 => fx_nm (vp_updL g33 k34 (lN 7237492)) (fun g34 => fx_ix (nI 34) 98 (fun k35 => fx_nm (vp_updL g34 k35 (lN 0)) (fun g35 => fx_ix (nI 35) 98 (fun k36 => fx_nm (vp_updL g35 k36 (lN 7020682409992089191)) (fun g36 => fx_ix (nI 36) 98 (fun k37 => fx_nm (vp_updL g36 k37 (lN 0)) (fun g37 => fx_ix (nI 37) 98 (fun k38 => fx_nm (vp_updL g37 k38 (lN 31084793196801639)) (fun g38 => fx_ix (nI 38) 98 (fun k39 => fx_nm (vp_updL g38 k39 (lN 0)) (fun g39 => fx_ix (nI 39) 98 (fun k40 => fx_nm (vp_updL g39 k40 (lN 7165066978583995497)) (fun g40 => fx_ix (nI 40) 98 (fun k41 => fx_nm (vp_updL g40 k41 (lN 427154829166)) (fun g41 => fx_ix (nI 41) 98 (fun k42 => fx_nm (vp_updL g41 k42 (lN 0)) (fun g42 => fx_ix (nI 42) 98 (fun k43 => fx_nm (vp_updL g42 k43 (lN 109317142573856)) (fun g43 => fx_ix (nI 43) 98 (fun k44 => fx_nm (vp_updL g43 k44 (lN 0)) (fun g44 => fx_ix (nI 44) 98 (fun k45 => fx_nm (vp_updL g44 k45 (lN 512852325408)) (fun g45 => fx_ix (nI 45) 98 (fun k46 => fx_nm (vp_updL g45 k46 (lN 0)) (fun g46 => fx_ix (nI 46) 98 (fun k47 => fx_nm (vp_updL g46 k47 (lN 2335524464695274607)) (fun g47 => fx_ix (nI 47) 98 (fun k48 => fx_nm (vp_updL g47 k48 (lN 8583970206910739232)) (fun g48 => fx_ix (nI 48) 98 (fun k49 => fx_nm (vp_updL g48 k49 (lN 0)) (fun g49 => fx_ix (nI 49) 98 (fun k50 => fx_nm (vp_updL g49 k50 (lN 2335524464695274607)) (fun g50 => fx_ix (nI 50) 98 (fun k51 => fx_nm (vp_updL g50 k51 (lN 30496)) (fun g51 => fx_ix (nI 51) 98 (fun k52 => fx_nm (vp_updL g51 k52 (lN 0)) (fun g52 => fx_ix (nI 52) 98 (fun k53 => fx_nm (vp_updL g52 k53 (lN 2333539051756221216)) (fun g53 => fx_ix (nI 53) 98 (fun k54 => fx_nm (vp_updL g53 k54 (lN 7022273356252603244)) (fun g54 => fx_ix (nI 54) 98 (fun k55 => fx_nm (vp_updL g54 k55 (lN 1634956064)) (fun g55 => fx_ix (nI 55) 98 (fun k56 => fx_nm (vp_updL g55 k56 (lN 0)) (fun g56 => fx_ix (nI 56) 98 (fun k57 => fx_nm (vp_updL g56 k57 (lN 2336353775669944436)) (fun g57 => fx_ix (nI 57) 98 (fun k58 => fx_nm (vp_updL g57 k58 (lN 8007516080650284129)) (fun g58 => fx_ix (nI 58) 98 (fun k59 => fx_nm (vp_updL g58 k59 (lN 7566112)) (fun g59 => fx_ix (nI 59) 98 (fun k60 => fx_nm (vp_updL g59 k60 (lN 0)) (fun g60 => fx_ix (nI 60) 98 (fun k61 => fx_nm (vp_updL g60 k61 (lN 2333267458273799265)) (fun g61 => fx_ix (nI 61) 98 (fun k62 => fx_nm (vp_updL g61 k62 (lN 7566112)) (fun g62 => fx_ix (nI 62) 98 (fun k63 => fx_nm (vp_updL g62 k63 (lN 0)) (fun g63 => fx_ix (nI 63) 98 (fun k64 => fx_nm (vp_updL g63 k64 (lN 2334957413328778344)) (fun g64 => fx_ix (nI 64) 98 (fun k65 => fx_nm (vp_updL g64 k65 (lN 491496236904)) (fun g65 => fx_ix (nI 65) 98 (fun k66 => fx_nm (vp_updL g65 k66 (lN 0)) (fun g66 => fx_ix (nI 66) 98 (fun k67 => fx_nm (vp_updL g66 k67 (lN 2334957413328774505)) (fun g67 => fx_ix (nI 67) 98 (fun k68 => fx_nm (vp_updL g67 k68 (lN 8388065846822920569)) (fun g68 => fx_ix (nI 68) 98 (fun k69 => fx_nm (vp_updL g68 k69 (lN 0)) (fun g69 => fx_ix (nI 69) 98 (fun k70 => fx_nm (vp_updL g69 k70 (lN 543781664)) (fun g70 => fx_ix (nI 70) 98 (fun k71 => fx_nm (vp_updL g70 k71 (lN 0)) (fun g71 => fx_ix (nI 71) 98 (fun k72 => fx_nm (vp_updL g71 k72 (lN 2336353775669944436)) (fun g72 => fx_ix (nI 72) 98 (fun k73 => fx_nm (vp_updL g72 k73 (lN 477285543525)) (fun g73 => fx_ix (nI 73) 98 (fun k74 => fx_nm (vp_updL g73 k74 (lN 0)) (fun g74 => fx_ix (nI 74) 98 (fun k75 => fx_nm (vp_updL g74 k75 (lN 2335524464897258528)) (fun g75 => fx_ix (nI 75) 98 (fun k76 => fx_nm (vp_updL g75 k76 (lN 0)) (fun g76 => fx_ix (nI 76) 98 (fun k77 => fx_nm (vp_updL g76 k77 (lN 2335524464712507763)) (fun g77 => fx_ix (nI 77) 98 (fun k78 => fx_nm (vp_updL g77 k78 (lN 29472)) (fun g78 => fx_ix (nI 78) 98 (fun k79 => fx_nm (vp_updL g78 k79 (lN 0)) (fun g79 => fx_ix (nI 79) 98 (fun k80 => fx_nm (vp_updL g79 k80 (lN 32)) (fun g80 => fx_ix (nI 80) 98 (fun k81 => fx_nm (vp_updL g80 k81 (lN 0)) (fun g81 => fx_ix (nI 81) 98 (fun k82 => fx_nm (vp_updL g81 k82 (lN 2335223567922261615)) (fun g82 => fx_ix (nI 82) 98 (fun k83 => fx_nm (vp_updL g82 k83 (lN 8388070228875045230)) (fun g83 => fx_ix (nI 83) 98 (fun k84 => fx_nm (vp_updL g83 k84 (lN 9116529483149166)) (fun g84 => fx_ix (nI 84) 98 (fun k85 => fx_nm (vp_updL g84 k85 (lN 0)) (fun g85 => fx_ix (nI 85) 98 (fun k86 => fx_nm (vp_updL g85 k86 (lN 2338608890057290856)) (fun g86 => fx_ix (nI 86) 98 (fun k87 => fx_nm (vp_updL g86 k87 (lN 111540845371769)) (fun g87 => fx_ix (nI 87) 98 (fun k88 => fx_nm (vp_updL g87 k88 (lN 0)) (fun g88 => fx_ix (nI 88) 98 (fun k89 => fx_nm (vp_updL g88 k89 (lN 11808)) (fun g89 => fx_ix (nI 89) 98 (fun k90 => fx_nm (vp_updL g89 k90 (lN 0)) (fun g90 => fx_ix (nI 90) 98 (fun k91 => fx_nm (vp_updL g90 k91 (lN 189521885472)) (fun g91 => fx_ix (nI 91) 98 (fun k92 => fx_nm (vp_updL g91 k92 (lN 0)) (fun g92 => fx_ix (nI 92) 98 (fun k93 => fx_nm (vp_updL g92 k93 (lN 35624378658080)) (fun g93 => fx_ix (nI 93) 98 (fun k94 => fx_nm (vp_updL g93 k94 (lN 0)) (fun g94 => fx_ix (nI 94) 98 (fun k95 => fx_nm (vp_updL g94 k95 (lN 139073578016)) (fun g95 => fx_ix (nI 95) 98 (fun k96 => fx_nm (vp_updL g95 k96 (lN 0)) (fun g96 => fx_ix (nI 96) 98 (fun k97 => fx_nm (vp_updL g96 k97 (lN 46)) (fun g97 => fx_ix (nI 97) 98 (fun k98 => fx_nm (vp_updL g97 k98 (lN 0)) (fun g98 => post g98))))))))))))))))))))))))))))))))))))))))))))))))))))))))))))))))))))))))))))))))))))))))))))))))))))))))))))))))))))))))))))))))))))))))))))))))))))))))))))))))))))))))))))))))))))))))))))))))))))
theorem im_X6_init_X6 : ∀ w ∈ u_ws RX6 TX6 17, w ∈ wsX6_init := by decide +kernel
set_option maxHeartbeats 4000000 in
set_option maxRecDepth 100000 in
theorem cw_X6_init (l : Launch) (X : fx_X) (a_o sz : Nat) (post : (Nat → Int64) → Prop) (h : wp_X6_init post) : Met l yX6_init wsX6_init ({ frames := 1, cells := 12, slots := 5219, locals := 12 }) (va_Pc [.ref a_o] (fx_PW X [(a_o, .inr (5, [.null, .null, .int 0, .null, .int 0, .null, .null, .null, .null, .int 0, .null, .null, .int 0, .null, .int 0, .null, .null]))] sz)) (va_Qv (fun (u : (Nat → Int64) × Nat × Nat × Nat × Nat × Nat × Nat × Nat × Nat × Nat × Nat × Nat × Nat) => post u.1) (fun (u : (Nat → Int64) × Nat × Nat × Nat × Nat × Nat × Nat × Nat × Nat × Nat × Nat × Nat × Nat) t => fx_EW X (va_A [(a_o, .inr (5, [.null, .null, .int 0, .null, .int 0, .null, .null, .null, .null, .int 0, .null, .null, .int 0, .null, .int 0, .null, .null]))] sz) [(a_o, .inr (5, [.ref u.2.1, .ref u.2.2.1, .int 0, .ref u.2.2.2.1, .int 0, .ref u.2.2.2.2.1, .ref u.2.2.2.2.2.1, .ref u.2.2.2.2.2.2.1, .ref u.2.2.2.2.2.2.2.1, .int 0, .ref u.2.2.2.2.2.2.2.2.1, .ref u.2.2.2.2.2.2.2.2.2.1, .int 0, .ref u.2.2.2.2.2.2.2.2.2.2.1, .int 0, .ref u.2.2.2.2.2.2.2.2.2.2.2.1, .ref u.2.2.2.2.2.2.2.2.2.2.2.2])), (u.2.1, .inl (fx_cJ X, 98, .inr (.inl u.1))), (u.2.2.1, .inl (fx_cI X, 404, .inl (fun _ => 0))), (u.2.2.2.1, .inl (fx_cI X, 404, .inl (fun _ => 0))), (u.2.2.2.2.1, .inl (fx_cI X, 301, .inl (fun _ => 0))), (u.2.2.2.2.2.1, .inl (fx_cI X, 301, .inl (fun _ => 0))), (u.2.2.2.2.2.2.1, .inl (fx_cI X, 301, .inl (fun _ => 0))), (u.2.2.2.2.2.2.2.1, .inl (fx_cI X, 903, .inl (fun _ => 0))), (u.2.2.2.2.2.2.2.2.1, .inl (fx_cI X, 1204, .inl (fun _ => 0))), (u.2.2.2.2.2.2.2.2.2.1, .inl (fx_cZ X, 301, .inl (fun _ => 0))), (u.2.2.2.2.2.2.2.2.2.2.1, .inl (fx_cI X, 400, .inl (fun _ => 0))), (u.2.2.2.2.2.2.2.2.2.2.2.1, .inl (fx_cI X, 301, .inl (fun _ => 0))), (u.2.2.2.2.2.2.2.2.2.2.2.2, .inl (fx_cI X, 301, .inl (fun _ => 0)))] t) (va_A [(a_o, .inr (5, [.null, .null, .int 0, .null, .int 0, .null, .null, .null, .null, .int 0, .null, .null, .int 0, .null, .int 0, .null, .null]))] sz)) 12 5219 (va_A [(a_o, .inr (5, [.null, .null, .int 0, .null, .int 0, .null, .null, .null, .null, .int 0, .null, .null, .int 0, .null, .int 0, .null, .null]))] sz) := by
  refine Met.ofW (cc := cX6_init) (maxL := 1) (ret := none) (by decide) rfl ?_
  intro p e s m args below meth c s₁ B hml hv
  obtain ⟨rfl, hsz, hP, hK, hD0, hG⟩ := hv
  have hx := B.exec
  have hb := B.bytes
  have hr := B.returns
  have hts := atoms_spec (ws := wsX6_init) B.pre
  have hown : s.vm.findClass RX6 = some m.cls := findClass_of_methodNamed B.named
  have hlocks := B.notSynchronized
  have hin : meth.name = "<init>" := (name_of_methodNamed B.named B.method).1
  subst hsz
  have hD := hD0.self (sz := s.heap.size)
  generalize hAe : va_A [(a_o, .inr (5, [.null, .null, .int 0, .null, .int 0, .null, .null, .null, .null, .int 0, .null, .null, .int 0, .null, .int 0, .null, .null]))] s.heap.size = A at hD hG ⊢
  have hA : ∀ q : Nat, s.heap.size ≤ q → A q := fun q h => by rw [← hAe]; exact Or.inr h
  have hS : va_S A s.heap s.heap [] := va_S.rf
  have hl := lv_entry ([.ref a_o]) (n := 1) (Nat.le_of_ble_eq_true rfl)
  rw [lg_entry_eq]
  generalize (lg_sl ([.ref a_o]) ++ List.replicate (1 - (lg_sl ([.ref a_o])).length) Slot.unset).toArray = ls at hl ⊢
  have hl : lv_has ls 1 [(0, .ref a_o)] := hl
  unfold wp_X6_init at h
  refine lv_aload_n hx hb dX6_init_0 rfl (lv_at hl 0 rfl) ?_
  refine W.objInit hx hb hown (hts (.methodLink RX6 1 objectInit) (by decide +kernel)) (hts (.instanceMethod objectInit) (by decide +kernel)) (hts (.code objectInit ⟨#[0xb1]⟩ 1 none) (by decide +kernel)) rfl (by rw [hml]; exact hl.1) rfl dX6_init_1 (Nat.le_of_ble_eq_true rfl) (Nat.le_of_ble_eq_true rfl) ?_
  refine W.eq (g2 := F0 m 4 ls []) rfl ?_
  refine lv_aload_n hx hb dX6_init_4 rfl (lv_at hl 0 rfl) ?_
  refine lv_bipush (v := (nI 98)) hx hb dX6_init_5 (by decide) ?_
  refine fx_newJ hx hb (hts (.arrayClass .long) (by decide +kernel)) hK hP hD hS hA 98 (by omega) (Nat.le_of_ble_eq_true rfl) (Nat.le_of_ble_eq_true rfl) dX6_init_7 (fun q1 H hP hD hS => ?_)
  have hP : va_P (fx_D X) vwCl [(a_o, .inr (5, [.null, .null, .int 0, .null, .int 0, .null, .null, .null, .null, .int 0, .null, .null, .int 0, .null, .int 0, .null, .null])), (q1, .inl (fx_cJ X, 98, .inr (.inl (fun _ => 0))))] H := hP
  have hD : va_D A [(a_o, .inr (5, [.null, .null, .int 0, .null, .int 0, .null, .null, .null, .null, .int 0, .null, .null, .int 0, .null, .int 0, .null, .null])), (q1, .inl (fx_cJ X, 98, .inr (.inl (fun _ => 0))))] := hD
  refine lv_dup hx hb dX6_init_9 rfl ?_
  refine lv_iconst (v := (nI 0)) hx hb dX6_init_10 (by decide) ?_
  refine lv_ldc2 (v := lN 418632003437) hx hb hown (hts (.constantLong RX6 7 (418632003437)) (by decide +kernel)) dX6_init_11 ?_
  refine fx_last hx hb hK hP hD hS 1 1 rfl rfl h dX6_init_14 (fun g1 => [(a_o, .inr (5, [.null, .null, .int 0, .null, .int 0, .null, .null, .null, .null, .int 0, .null, .null, .int 0, .null, .int 0, .null, .null])), (q1, .inl (fx_cJ X, 98, .inr (.inl g1)))]) (fun _ => rfl) (fun H locs g1 h hP hD hS => ?_)
  refine lv_dup hx hb dX6_init_15 rfl ?_
  refine lv_iconst (v := (nI 1)) hx hb dX6_init_16 (by decide) ?_
  refine lv_lconst (v := lN 0) hx hb dX6_init_17 (by decide) ?_
  refine fx_last hx hb hK hP hD hS 1 1 rfl rfl h dX6_init_18 (fun g2 => [(a_o, .inr (5, [.null, .null, .int 0, .null, .int 0, .null, .null, .null, .null, .int 0, .null, .null, .int 0, .null, .int 0, .null, .null])), (q1, .inl (fx_cJ X, 98, .inr (.inl g2)))]) (fun _ => rfl) (fun H locs g2 h hP hD hS => ?_)
  refine lv_dup hx hb dX6_init_19 rfl ?_
  refine lv_iconst (v := (nI 2)) hx hb dX6_init_20 (by decide) ?_
  refine lv_ldc2 (v := lN 444150998382) hx hb hown (hts (.constantLong RX6 9 (444150998382)) (by decide +kernel)) dX6_init_21 ?_
  refine fx_last hx hb hK hP hD hS 1 1 rfl rfl h dX6_init_24 (fun g3 => [(a_o, .inr (5, [.null, .null, .int 0, .null, .int 0, .null, .null, .null, .null, .int 0, .null, .null, .int 0, .null, .int 0, .null, .null])), (q1, .inl (fx_cJ X, 98, .inr (.inl g3)))]) (fun _ => rfl) (fun H locs g3 h hP hD hS => ?_)
  refine lv_dup hx hb dX6_init_25 rfl ?_
  refine lv_iconst (v := (nI 3)) hx hb dX6_init_26 (by decide) ?_
  refine lv_lconst (v := lN 0) hx hb dX6_init_27 (by decide) ?_
  refine fx_last hx hb hK hP hD hS 1 1 rfl rfl h dX6_init_28 (fun g4 => [(a_o, .inr (5, [.null, .null, .int 0, .null, .int 0, .null, .null, .null, .null, .int 0, .null, .null, .int 0, .null, .int 0, .null, .null])), (q1, .inl (fx_cJ X, 98, .inr (.inl g4)))]) (fun _ => rfl) (fun H locs g4 h hP hD hS => ?_)
  refine lv_dup hx hb dX6_init_29 rfl ?_
  refine lv_iconst (v := (nI 4)) hx hb dX6_init_30 (by decide) ?_
  refine lv_ldc2 (v := lN 115948873149542) hx hb hown (hts (.constantLong RX6 11 (115948873149542)) (by decide +kernel)) dX6_init_31 ?_
  refine fx_last hx hb hK hP hD hS 1 1 rfl rfl h dX6_init_34 (fun g5 => [(a_o, .inr (5, [.null, .null, .int 0, .null, .int 0, .null, .null, .null, .null, .int 0, .null, .null, .int 0, .null, .int 0, .null, .null])), (q1, .inl (fx_cJ X, 98, .inr (.inl g5)))]) (fun _ => rfl) (fun H locs g5 h hP hD hS => ?_)
  refine lv_dup hx hb dX6_init_35 rfl ?_
  refine lv_iconst (v := (nI 5)) hx hb dX6_init_36 (by decide) ?_
  refine lv_lconst (v := lN 0) hx hb dX6_init_37 (by decide) ?_
  refine fx_last hx hb hK hP hD hS 1 1 rfl rfl h dX6_init_38 (fun g6 => [(a_o, .inr (5, [.null, .null, .int 0, .null, .int 0, .null, .null, .null, .null, .int 0, .null, .null, .int 0, .null, .int 0, .null, .null])), (q1, .inl (fx_cJ X, 98, .inr (.inl g6)))]) (fun _ => rfl) (fun H locs g6 h hP hD hS => ?_)
  refine lv_dup hx hb dX6_init_39 rfl ?_
  refine lv_bipush (v := (nI 6)) hx hb dX6_init_40 (by decide) ?_
  refine lv_ldc2 (v := lN 422608400247) hx hb hown (hts (.constantLong RX6 13 (422608400247)) (by decide +kernel)) dX6_init_42 ?_
  refine fx_last hx hb hK hP hD hS 1 1 rfl rfl h dX6_init_45 (fun g7 => [(a_o, .inr (5, [.null, .null, .int 0, .null, .int 0, .null, .null, .null, .null, .int 0, .null, .null, .int 0, .null, .int 0, .null, .null])), (q1, .inl (fx_cJ X, 98, .inr (.inl g7)))]) (fun _ => rfl) (fun H locs g7 h hP hD hS => ?_)
  refine lv_dup hx hb dX6_init_46 rfl ?_
  refine lv_bipush (v := (nI 7)) hx hb dX6_init_47 (by decide) ?_
  refine lv_lconst (v := lN 0) hx hb dX6_init_49 (by decide) ?_
  refine fx_last hx hb hK hP hD hS 1 1 rfl rfl h dX6_init_50 (fun g8 => [(a_o, .inr (5, [.null, .null, .int 0, .null, .int 0, .null, .null, .null, .null, .int 0, .null, .null, .int 0, .null, .int 0, .null, .null])), (q1, .inl (fx_cJ X, 98, .inr (.inl g8)))]) (fun _ => rfl) (fun H locs g8 h hP hD hS => ?_)
  refine lv_dup hx hb dX6_init_51 rfl ?_
  refine lv_bipush (v := (nI 8)) hx hb dX6_init_52 (by decide) ?_
  refine lv_ldc2 (v := lN 8102661208121963625) hx hb hown (hts (.constantLong RX6 15 (8102661208121963625)) (by decide +kernel)) dX6_init_54 ?_
  refine fx_last hx hb hK hP hD hS 1 1 rfl rfl h dX6_init_57 (fun g9 => [(a_o, .inr (5, [.null, .null, .int 0, .null, .int 0, .null, .null, .null, .null, .int 0, .null, .null, .int 0, .null, .int 0, .null, .null])), (q1, .inl (fx_cJ X, 98, .inr (.inl g9)))]) (fun _ => rfl) (fun H locs g9 h hP hD hS => ?_)
  refine lv_dup hx hb dX6_init_58 rfl ?_
  refine lv_bipush (v := (nI 9)) hx hb dX6_init_59 (by decide) ?_
  refine lv_ldc2 (v := lN 25971) hx hb hown (hts (.constantLong RX6 17 (25971)) (by decide +kernel)) dX6_init_61 ?_
  refine fx_last hx hb hK hP hD hS 1 1 rfl rfl h dX6_init_64 (fun g10 => [(a_o, .inr (5, [.null, .null, .int 0, .null, .int 0, .null, .null, .null, .null, .int 0, .null, .null, .int 0, .null, .int 0, .null, .null])), (q1, .inl (fx_cJ X, 98, .inr (.inl g10)))]) (fun _ => rfl) (fun H locs g10 h hP hD hS => ?_)
  refine lv_dup hx hb dX6_init_65 rfl ?_
  refine lv_bipush (v := (nI 10)) hx hb dX6_init_66 (by decide) ?_
  refine lv_lconst (v := lN 0) hx hb dX6_init_68 (by decide) ?_
  refine fx_last hx hb hK hP hD hS 1 1 rfl rfl h dX6_init_69 (fun g11 => [(a_o, .inr (5, [.null, .null, .int 0, .null, .int 0, .null, .null, .null, .null, .int 0, .null, .null, .int 0, .null, .int 0, .null, .null])), (q1, .inl (fx_cJ X, 98, .inr (.inl g11)))]) (fun _ => rfl) (fun H locs g11 h hP hD hS => ?_)
  refine lv_dup hx hb dX6_init_70 rfl ?_
  refine lv_bipush (v := (nI 11)) hx hb dX6_init_71 (by decide) ?_
  refine lv_ldc2 (v := lN 427020088179) hx hb hown (hts (.constantLong RX6 19 (427020088179)) (by decide +kernel)) dX6_init_73 ?_
  refine fx_last hx hb hK hP hD hS 1 1 rfl rfl h dX6_init_76 (fun g12 => [(a_o, .inr (5, [.null, .null, .int 0, .null, .int 0, .null, .null, .null, .null, .int 0, .null, .null, .int 0, .null, .int 0, .null, .null])), (q1, .inl (fx_cJ X, 98, .inr (.inl g12)))]) (fun _ => rfl) (fun H locs g12 h hP hD hS => ?_)
  refine lv_dup hx hb dX6_init_77 rfl ?_
  refine lv_bipush (v := (nI 12)) hx hb dX6_init_78 (by decide) ?_
  refine lv_lconst (v := lN 0) hx hb dX6_init_80 (by decide) ?_
  refine fx_last hx hb hK hP hD hS 1 1 rfl rfl h dX6_init_81 (fun g13 => [(a_o, .inr (5, [.null, .null, .int 0, .null, .int 0, .null, .null, .null, .null, .int 0, .null, .null, .int 0, .null, .int 0, .null, .null])), (q1, .inl (fx_cJ X, 98, .inr (.inl g13)))]) (fun _ => rfl) (fun H locs g13 h hP hD hS => ?_)
  refine lv_dup hx hb dX6_init_82 rfl ?_
  refine lv_bipush (v := (nI 13)) hx hb dX6_init_83 (by decide) ?_
  refine lv_ldc2 (v := lN 8102661208121963641) hx hb hown (hts (.constantLong RX6 21 (8102661208121963641)) (by decide +kernel)) dX6_init_85 ?_
  refine fx_last hx hb hK hP hD hS 1 1 rfl rfl h dX6_init_88 (fun g14 => [(a_o, .inr (5, [.null, .null, .int 0, .null, .int 0, .null, .null, .null, .null, .int 0, .null, .null, .int 0, .null, .int 0, .null, .null])), (q1, .inl (fx_cJ X, 98, .inr (.inl g14)))]) (fun _ => rfl) (fun H locs g14 h hP hD hS => ?_)
  refine lv_dup hx hb dX6_init_89 rfl ?_
  refine lv_bipush (v := (nI 14)) hx hb dX6_init_90 (by decide) ?_
  refine lv_lconst (v := lN 0) hx hb dX6_init_92 (by decide) ?_
  refine fx_last hx hb hK hP hD hS 1 1 rfl rfl h dX6_init_93 (fun g15 => [(a_o, .inr (5, [.null, .null, .int 0, .null, .int 0, .null, .null, .null, .null, .int 0, .null, .null, .int 0, .null, .int 0, .null, .null])), (q1, .inl (fx_cJ X, 98, .inr (.inl g15)))]) (fun _ => rfl) (fun H locs g15 h hP hD hS => ?_)
  refine lv_dup hx hb dX6_init_94 rfl ?_
  refine lv_bipush (v := (nI 15)) hx hb dX6_init_95 (by decide) ?_
  refine lv_ldc2 (v := lN 108187666181747) hx hb hown (hts (.constantLong RX6 23 (108187666181747)) (by decide +kernel)) dX6_init_97 ?_
  refine fx_last hx hb hK hP hD hS 1 1 rfl rfl h dX6_init_100 (fun g16 => [(a_o, .inr (5, [.null, .null, .int 0, .null, .int 0, .null, .null, .null, .null, .int 0, .null, .null, .int 0, .null, .int 0, .null, .null])), (q1, .inl (fx_cJ X, 98, .inr (.inl g16)))]) (fun _ => rfl) (fun H locs g16 h hP hD hS => ?_)
  refine lv_dup hx hb dX6_init_101 rfl ?_
  refine lv_bipush (v := (nI 16)) hx hb dX6_init_102 (by decide) ?_
  refine lv_lconst (v := lN 0) hx hb dX6_init_104 (by decide) ?_
  refine fx_last hx hb hK hP hD hS 1 1 rfl rfl h dX6_init_105 (fun g17 => [(a_o, .inr (5, [.null, .null, .int 0, .null, .int 0, .null, .null, .null, .null, .int 0, .null, .null, .int 0, .null, .int 0, .null, .null])), (q1, .inl (fx_cJ X, 98, .inr (.inl g17)))]) (fun _ => rfl) (fun H locs g17 h hP hD hS => ?_)
  refine lv_dup hx hb dX6_init_106 rfl ?_
  refine lv_bipush (v := (nI 17)) hx hb dX6_init_107 (by decide) ?_
  refine lv_ldc2 (v := lN 465557349491) hx hb hown (hts (.constantLong RX6 25 (465557349491)) (by decide +kernel)) dX6_init_109 ?_
  refine fx_last hx hb hK hP hD hS 1 1 rfl rfl h dX6_init_112 (fun g18 => [(a_o, .inr (5, [.null, .null, .int 0, .null, .int 0, .null, .null, .null, .null, .int 0, .null, .null, .int 0, .null, .int 0, .null, .null])), (q1, .inl (fx_cJ X, 98, .inr (.inl g18)))]) (fun _ => rfl) (fun H locs g18 h hP hD hS => ?_)
  refine lv_dup hx hb dX6_init_113 rfl ?_
  refine lv_bipush (v := (nI 18)) hx hb dX6_init_114 (by decide) ?_
  refine lv_lconst (v := lN 0) hx hb dX6_init_116 (by decide) ?_
  refine fx_last hx hb hK hP hD hS 1 1 rfl rfl h dX6_init_117 (fun g19 => [(a_o, .inr (5, [.null, .null, .int 0, .null, .int 0, .null, .null, .null, .null, .int 0, .null, .null, .int 0, .null, .int 0, .null, .null])), (q1, .inl (fx_cJ X, 98, .inr (.inl g19)))]) (fun _ => rfl) (fun H locs g19 h hP hD hS => ?_)
  refine lv_dup hx hb dX6_init_118 rfl ?_
  refine lv_bipush (v := (nI 19)) hx hb dX6_init_119 (by decide) ?_
  refine lv_ldc2 (v := lN 111503598970226) hx hb hown (hts (.constantLong RX6 27 (111503598970226)) (by decide +kernel)) dX6_init_121 ?_
  refine fx_last hx hb hK hP hD hS 1 1 rfl rfl h dX6_init_124 (fun g20 => [(a_o, .inr (5, [.null, .null, .int 0, .null, .int 0, .null, .null, .null, .null, .int 0, .null, .null, .int 0, .null, .int 0, .null, .null])), (q1, .inl (fx_cJ X, 98, .inr (.inl g20)))]) (fun _ => rfl) (fun H locs g20 h hP hD hS => ?_)
  refine lv_dup hx hb dX6_init_125 rfl ?_
  refine lv_bipush (v := (nI 20)) hx hb dX6_init_126 (by decide) ?_
  refine lv_lconst (v := lN 0) hx hb dX6_init_128 (by decide) ?_
  refine fx_last hx hb hK hP hD hS 1 1 rfl rfl h dX6_init_129 (fun g21 => [(a_o, .inr (5, [.null, .null, .int 0, .null, .int 0, .null, .null, .null, .null, .int 0, .null, .null, .int 0, .null, .int 0, .null, .null])), (q1, .inl (fx_cJ X, 98, .inr (.inl g21)))]) (fun _ => rfl) (fun H locs g21 h hP hD hS => ?_)
  refine lv_dup hx hb dX6_init_130 rfl ?_
  refine lv_bipush (v := (nI 21)) hx hb dX6_init_131 (by decide) ?_
  refine lv_ldc2 (v := lN 32765938003961704) hx hb hown (hts (.constantLong RX6 29 (32765938003961704)) (by decide +kernel)) dX6_init_133 ?_
  refine fx_last hx hb hK hP hD hS 1 1 rfl rfl h dX6_init_136 (fun g22 => [(a_o, .inr (5, [.null, .null, .int 0, .null, .int 0, .null, .null, .null, .null, .int 0, .null, .null, .int 0, .null, .int 0, .null, .null])), (q1, .inl (fx_cJ X, 98, .inr (.inl g22)))]) (fun _ => rfl) (fun H locs g22 h hP hD hS => ?_)
  refine lv_dup hx hb dX6_init_137 rfl ?_
  refine lv_bipush (v := (nI 22)) hx hb dX6_init_138 (by decide) ?_
  refine lv_lconst (v := lN 0) hx hb dX6_init_140 (by decide) ?_
  refine fx_last hx hb hK hP hD hS 1 1 rfl rfl h dX6_init_141 (fun g23 => [(a_o, .inr (5, [.null, .null, .int 0, .null, .int 0, .null, .null, .null, .null, .int 0, .null, .null, .int 0, .null, .int 0, .null, .null])), (q1, .inl (fx_cJ X, 98, .inr (.inl g23)))]) (fun _ => rfl) (fun H locs g23 h hP hD hS => ?_)
  refine lv_dup hx hb dX6_init_142 rfl ?_
  refine lv_bipush (v := (nI 23)) hx hb dX6_init_143 (by decide) ?_
  refine lv_ldc2 (v := lN 478694368626) hx hb hown (hts (.constantLong RX6 31 (478694368626)) (by decide +kernel)) dX6_init_145 ?_
  refine fx_last hx hb hK hP hD hS 1 1 rfl rfl h dX6_init_148 (fun g24 => [(a_o, .inr (5, [.null, .null, .int 0, .null, .int 0, .null, .null, .null, .null, .int 0, .null, .null, .int 0, .null, .int 0, .null, .null])), (q1, .inl (fx_cJ X, 98, .inr (.inl g24)))]) (fun _ => rfl) (fun H locs g24 h hP hD hS => ?_)
  refine lv_dup hx hb dX6_init_149 rfl ?_
  refine lv_bipush (v := (nI 24)) hx hb dX6_init_150 (by decide) ?_
  refine lv_lconst (v := lN 0) hx hb dX6_init_152 (by decide) ?_
  refine fx_last hx hb hK hP hD hS 1 1 rfl rfl h dX6_init_153 (fun g25 => [(a_o, .inr (5, [.null, .null, .int 0, .null, .int 0, .null, .null, .null, .null, .int 0, .null, .null, .int 0, .null, .int 0, .null, .null])), (q1, .inl (fx_cJ X, 98, .inr (.inl g25)))]) (fun _ => rfl) (fun H locs g25 h hP hD hS => ?_)
  refine lv_dup hx hb dX6_init_154 rfl ?_
  refine lv_bipush (v := (nI 25)) hx hb dX6_init_155 (by decide) ?_
  refine lv_ldc2 (v := lN 1937203568) hx hb hown (hts (.constantLong RX6 33 (1937203568)) (by decide +kernel)) dX6_init_157 ?_
  refine fx_last hx hb hK hP hD hS 1 1 rfl rfl h dX6_init_160 (fun g26 => [(a_o, .inr (5, [.null, .null, .int 0, .null, .int 0, .null, .null, .null, .null, .int 0, .null, .null, .int 0, .null, .int 0, .null, .null])), (q1, .inl (fx_cJ X, 98, .inr (.inl g26)))]) (fun _ => rfl) (fun H locs g26 h hP hD hS => ?_)
  refine lv_dup hx hb dX6_init_161 rfl ?_
  refine lv_bipush (v := (nI 26)) hx hb dX6_init_162 (by decide) ?_
  refine lv_lconst (v := lN 0) hx hb dX6_init_164 (by decide) ?_
  refine fx_last hx hb hK hP hD hS 1 1 rfl rfl h dX6_init_165 (fun g27 => [(a_o, .inr (5, [.null, .null, .int 0, .null, .int 0, .null, .null, .null, .null, .int 0, .null, .null, .int 0, .null, .int 0, .null, .null])), (q1, .inl (fx_cJ X, 98, .inr (.inl g27)))]) (fun _ => rfl) (fun H locs g27 h hP hD hS => ?_)
  refine lv_dup hx hb dX6_init_166 rfl ?_
  refine lv_bipush (v := (nI 27)) hx hb dX6_init_167 (by decide) ?_
  refine lv_ldc2 (v := lN 435695214956) hx hb hown (hts (.constantLong RX6 35 (435695214956)) (by decide +kernel)) dX6_init_169 ?_
  refine fx_last hx hb hK hP hD hS 1 1 rfl rfl h dX6_init_172 (fun g28 => [(a_o, .inr (5, [.null, .null, .int 0, .null, .int 0, .null, .null, .null, .null, .int 0, .null, .null, .int 0, .null, .int 0, .null, .null])), (q1, .inl (fx_cJ X, 98, .inr (.inl g28)))]) (fun _ => rfl) (fun H locs g28 h hP hD hS => ?_)
  refine lv_dup hx hb dX6_init_173 rfl ?_
  refine lv_bipush (v := (nI 28)) hx hb dX6_init_174 (by decide) ?_
  refine lv_lconst (v := lN 0) hx hb dX6_init_176 (by decide) ?_
  refine fx_last hx hb hK hP hD hS 1 1 rfl rfl h dX6_init_177 (fun g29 => [(a_o, .inr (5, [.null, .null, .int 0, .null, .int 0, .null, .null, .null, .null, .int 0, .null, .null, .int 0, .null, .int 0, .null, .null])), (q1, .inl (fx_cJ X, 98, .inr (.inl g29)))]) (fun _ => rfl) (fun H locs g29 h hP hD hS => ?_)
  refine lv_dup hx hb dX6_init_178 rfl ?_
  refine lv_bipush (v := (nI 29)) hx hb dX6_init_179 (by decide) ?_
  refine lv_ldc2 (v := lN 7302757) hx hb hown (hts (.constantLong RX6 37 (7302757)) (by decide +kernel)) dX6_init_181 ?_
  refine fx_last hx hb hK hP hD hS 1 1 rfl rfl h dX6_init_184 (fun g30 => [(a_o, .inr (5, [.null, .null, .int 0, .null, .int 0, .null, .null, .null, .null, .int 0, .null, .null, .int 0, .null, .int 0, .null, .null])), (q1, .inl (fx_cJ X, 98, .inr (.inl g30)))]) (fun _ => rfl) (fun H locs g30 h hP hD hS => ?_)
  refine lv_dup hx hb dX6_init_185 rfl ?_
  refine lv_bipush (v := (nI 30)) hx hb dX6_init_186 (by decide) ?_
  refine lv_lconst (v := lN 0) hx hb dX6_init_188 (by decide) ?_
  refine fx_last hx hb hK hP hD hS 1 1 rfl rfl h dX6_init_189 (fun g31 => [(a_o, .inr (5, [.null, .null, .int 0, .null, .int 0, .null, .null, .null, .null, .int 0, .null, .null, .int 0, .null, .int 0, .null, .null])), (q1, .inl (fx_cJ X, 98, .inr (.inl g31)))]) (fun _ => rfl) (fun H locs g31 h hP hD hS => ?_)
  refine lv_dup hx hb dX6_init_190 rfl ?_
  refine lv_bipush (v := (nI 31)) hx hb dX6_init_191 (by decide) ?_
  refine lv_ldc2 (v := lN 418497262196) hx hb hown (hts (.constantLong RX6 39 (418497262196)) (by decide +kernel)) dX6_init_193 ?_
  refine fx_last hx hb hK hP hD hS 1 1 rfl rfl h dX6_init_196 (fun g32 => [(a_o, .inr (5, [.null, .null, .int 0, .null, .int 0, .null, .null, .null, .null, .int 0, .null, .null, .int 0, .null, .int 0, .null, .null])), (q1, .inl (fx_cJ X, 98, .inr (.inl g32)))]) (fun _ => rfl) (fun H locs g32 h hP hD hS => ?_)
  refine lv_dup hx hb dX6_init_197 rfl ?_
  refine lv_bipush (v := (nI 32)) hx hb dX6_init_198 (by decide) ?_
  refine lv_lconst (v := lN 0) hx hb dX6_init_200 (by decide) ?_
  refine fx_last hx hb hK hP hD hS 1 1 rfl rfl h dX6_init_201 (fun g33 => [(a_o, .inr (5, [.null, .null, .int 0, .null, .int 0, .null, .null, .null, .null, .int 0, .null, .null, .int 0, .null, .int 0, .null, .null])), (q1, .inl (fx_cJ X, 98, .inr (.inl g33)))]) (fun _ => rfl) (fun H locs g33 h hP hD hS => ?_)
  refine lv_dup hx hb dX6_init_202 rfl ?_
  refine lv_bipush (v := (nI 33)) hx hb dX6_init_203 (by decide) ?_
  refine lv_ldc2 (v := lN 7237492) hx hb hown (hts (.constantLong RX6 41 (7237492)) (by decide +kernel)) dX6_init_205 ?_
  refine fx_last hx hb hK hP hD hS 1 1 rfl rfl h dX6_init_208 (fun g34 => [(a_o, .inr (5, [.null, .null, .int 0, .null, .int 0, .null, .null, .null, .null, .int 0, .null, .null, .int 0, .null, .int 0, .null, .null])), (q1, .inl (fx_cJ X, 98, .inr (.inl g34)))]) (fun _ => rfl) (fun H locs g34 h hP hD hS => ?_)
  refine lv_dup hx hb dX6_init_209 rfl ?_
  refine lv_bipush (v := (nI 34)) hx hb dX6_init_210 (by decide) ?_
  refine lv_lconst (v := lN 0) hx hb dX6_init_212 (by decide) ?_
  refine fx_last hx hb hK hP hD hS 1 1 rfl rfl h dX6_init_213 (fun g35 => [(a_o, .inr (5, [.null, .null, .int 0, .null, .int 0, .null, .null, .null, .null, .int 0, .null, .null, .int 0, .null, .int 0, .null, .null])), (q1, .inl (fx_cJ X, 98, .inr (.inl g35)))]) (fun _ => rfl) (fun H locs g35 h hP hD hS => ?_)
  refine lv_dup hx hb dX6_init_214 rfl ?_
  refine lv_bipush (v := (nI 35)) hx hb dX6_init_215 (by decide) ?_
  refine lv_ldc2 (v := lN 7020682409992089191) hx hb hown (hts (.constantLong RX6 43 (7020682409992089191)) (by decide +kernel)) dX6_init_217 ?_
  refine fx_last hx hb hK hP hD hS 1 1 rfl rfl h dX6_init_220 (fun g36 => [(a_o, .inr (5, [.null, .null, .int 0, .null, .int 0, .null, .null, .null, .null, .int 0, .null, .null, .int 0, .null, .int 0, .null, .null])), (q1, .inl (fx_cJ X, 98, .inr (.inl g36)))]) (fun _ => rfl) (fun H locs g36 h hP hD hS => ?_)
  refine lv_dup hx hb dX6_init_221 rfl ?_
  refine lv_bipush (v := (nI 36)) hx hb dX6_init_222 (by decide) ?_
  refine lv_lconst (v := lN 0) hx hb dX6_init_224 (by decide) ?_
  refine fx_last hx hb hK hP hD hS 1 1 rfl rfl h dX6_init_225 (fun g37 => [(a_o, .inr (5, [.null, .null, .int 0, .null, .int 0, .null, .null, .null, .null, .int 0, .null, .null, .int 0, .null, .int 0, .null, .null])), (q1, .inl (fx_cJ X, 98, .inr (.inl g37)))]) (fun _ => rfl) (fun H locs g37 h hP hD hS => ?_)
  refine lv_dup hx hb dX6_init_226 rfl ?_
  refine lv_bipush (v := (nI 37)) hx hb dX6_init_227 (by decide) ?_
  refine lv_ldc2 (v := lN 31084793196801639) hx hb hown (hts (.constantLong RX6 45 (31084793196801639)) (by decide +kernel)) dX6_init_229 ?_
  refine fx_last hx hb hK hP hD hS 1 1 rfl rfl h dX6_init_232 (fun g38 => [(a_o, .inr (5, [.null, .null, .int 0, .null, .int 0, .null, .null, .null, .null, .int 0, .null, .null, .int 0, .null, .int 0, .null, .null])), (q1, .inl (fx_cJ X, 98, .inr (.inl g38)))]) (fun _ => rfl) (fun H locs g38 h hP hD hS => ?_)
  refine lv_dup hx hb dX6_init_233 rfl ?_
  refine lv_bipush (v := (nI 38)) hx hb dX6_init_234 (by decide) ?_
  refine lv_lconst (v := lN 0) hx hb dX6_init_236 (by decide) ?_
  refine fx_last hx hb hK hP hD hS 1 1 rfl rfl h dX6_init_237 (fun g39 => [(a_o, .inr (5, [.null, .null, .int 0, .null, .int 0, .null, .null, .null, .null, .int 0, .null, .null, .int 0, .null, .int 0, .null, .null])), (q1, .inl (fx_cJ X, 98, .inr (.inl g39)))]) (fun _ => rfl) (fun H locs g39 h hP hD hS => ?_)
  refine lv_dup hx hb dX6_init_238 rfl ?_
  refine lv_bipush (v := (nI 39)) hx hb dX6_init_239 (by decide) ?_
  refine lv_ldc2 (v := lN 7165066978583995497) hx hb hown (hts (.constantLong RX6 47 (7165066978583995497)) (by decide +kernel)) dX6_init_241 ?_
  refine fx_last hx hb hK hP hD hS 1 1 rfl rfl h dX6_init_244 (fun g40 => [(a_o, .inr (5, [.null, .null, .int 0, .null, .int 0, .null, .null, .null, .null, .int 0, .null, .null, .int 0, .null, .int 0, .null, .null])), (q1, .inl (fx_cJ X, 98, .inr (.inl g40)))]) (fun _ => rfl) (fun H locs g40 h hP hD hS => ?_)
  refine lv_dup hx hb dX6_init_245 rfl ?_
  refine lv_bipush (v := (nI 40)) hx hb dX6_init_246 (by decide) ?_
  refine lv_ldc2 (v := lN 427154829166) hx hb hown (hts (.constantLong RX6 49 (427154829166)) (by decide +kernel)) dX6_init_248 ?_
  refine fx_last hx hb hK hP hD hS 1 1 rfl rfl h dX6_init_251 (fun g41 => [(a_o, .inr (5, [.null, .null, .int 0, .null, .int 0, .null, .null, .null, .null, .int 0, .null, .null, .int 0, .null, .int 0, .null, .null])), (q1, .inl (fx_cJ X, 98, .inr (.inl g41)))]) (fun _ => rfl) (fun H locs g41 h hP hD hS => ?_)
  refine lv_dup hx hb dX6_init_252 rfl ?_
  refine lv_bipush (v := (nI 41)) hx hb dX6_init_253 (by decide) ?_
  refine lv_lconst (v := lN 0) hx hb dX6_init_255 (by decide) ?_
  refine fx_last hx hb hK hP hD hS 1 1 rfl rfl h dX6_init_256 (fun g42 => [(a_o, .inr (5, [.null, .null, .int 0, .null, .int 0, .null, .null, .null, .null, .int 0, .null, .null, .int 0, .null, .int 0, .null, .null])), (q1, .inl (fx_cJ X, 98, .inr (.inl g42)))]) (fun _ => rfl) (fun H locs g42 h hP hD hS => ?_)
  refine lv_dup hx hb dX6_init_257 rfl ?_
  refine lv_bipush (v := (nI 42)) hx hb dX6_init_258 (by decide) ?_
  refine lv_ldc2 (v := lN 109317142573856) hx hb hown (hts (.constantLong RX6 51 (109317142573856)) (by decide +kernel)) dX6_init_260 ?_
  refine fx_last hx hb hK hP hD hS 1 1 rfl rfl h dX6_init_263 (fun g43 => [(a_o, .inr (5, [.null, .null, .int 0, .null, .int 0, .null, .null, .null, .null, .int 0, .null, .null, .int 0, .null, .int 0, .null, .null])), (q1, .inl (fx_cJ X, 98, .inr (.inl g43)))]) (fun _ => rfl) (fun H locs g43 h hP hD hS => ?_)
  refine lv_dup hx hb dX6_init_264 rfl ?_
  refine lv_bipush (v := (nI 43)) hx hb dX6_init_265 (by decide) ?_
  refine lv_lconst (v := lN 0) hx hb dX6_init_267 (by decide) ?_
  refine fx_last hx hb hK hP hD hS 1 1 rfl rfl h dX6_init_268 (fun g44 => [(a_o, .inr (5, [.null, .null, .int 0, .null, .int 0, .null, .null, .null, .null, .int 0, .null, .null, .int 0, .null, .int 0, .null, .null])), (q1, .inl (fx_cJ X, 98, .inr (.inl g44)))]) (fun _ => rfl) (fun H locs g44 h hP hD hS => ?_)
  refine lv_dup hx hb dX6_init_269 rfl ?_
  refine lv_bipush (v := (nI 44)) hx hb dX6_init_270 (by decide) ?_
  refine lv_ldc2 (v := lN 512852325408) hx hb hown (hts (.constantLong RX6 53 (512852325408)) (by decide +kernel)) dX6_init_272 ?_
  refine fx_last hx hb hK hP hD hS 1 1 rfl rfl h dX6_init_275 (fun g45 => [(a_o, .inr (5, [.null, .null, .int 0, .null, .int 0, .null, .null, .null, .null, .int 0, .null, .null, .int 0, .null, .int 0, .null, .null])), (q1, .inl (fx_cJ X, 98, .inr (.inl g45)))]) (fun _ => rfl) (fun H locs g45 h hP hD hS => ?_)
  refine lv_dup hx hb dX6_init_276 rfl ?_
  refine lv_bipush (v := (nI 45)) hx hb dX6_init_277 (by decide) ?_
  refine lv_lconst (v := lN 0) hx hb dX6_init_279 (by decide) ?_
  refine fx_last hx hb hK hP hD hS 1 1 rfl rfl h dX6_init_280 (fun g46 => [(a_o, .inr (5, [.null, .null, .int 0, .null, .int 0, .null, .null, .null, .null, .int 0, .null, .null, .int 0, .null, .int 0, .null, .null])), (q1, .inl (fx_cJ X, 98, .inr (.inl g46)))]) (fun _ => rfl) (fun H locs g46 h hP hD hS => ?_)
  refine lv_dup hx hb dX6_init_281 rfl ?_
  refine lv_bipush (v := (nI 46)) hx hb dX6_init_282 (by decide) ?_
  refine lv_ldc2 (v := lN 2335524464695274607) hx hb hown (hts (.constantLong RX6 55 (2335524464695274607)) (by decide +kernel)) dX6_init_284 ?_
  refine fx_last hx hb hK hP hD hS 1 1 rfl rfl h dX6_init_287 (fun g47 => [(a_o, .inr (5, [.null, .null, .int 0, .null, .int 0, .null, .null, .null, .null, .int 0, .null, .null, .int 0, .null, .int 0, .null, .null])), (q1, .inl (fx_cJ X, 98, .inr (.inl g47)))]) (fun _ => rfl) (fun H locs g47 h hP hD hS => ?_)
  refine lv_dup hx hb dX6_init_288 rfl ?_
  refine lv_bipush (v := (nI 47)) hx hb dX6_init_289 (by decide) ?_
  refine lv_ldc2 (v := lN 8583970206910739232) hx hb hown (hts (.constantLong RX6 57 (8583970206910739232)) (by decide +kernel)) dX6_init_291 ?_
  refine fx_last hx hb hK hP hD hS 1 1 rfl rfl h dX6_init_294 (fun g48 => [(a_o, .inr (5, [.null, .null, .int 0, .null, .int 0, .null, .null, .null, .null, .int 0, .null, .null, .int 0, .null, .int 0, .null, .null])), (q1, .inl (fx_cJ X, 98, .inr (.inl g48)))]) (fun _ => rfl) (fun H locs g48 h hP hD hS => ?_)
  refine lv_dup hx hb dX6_init_295 rfl ?_
  refine lv_bipush (v := (nI 48)) hx hb dX6_init_296 (by decide) ?_
  refine lv_lconst (v := lN 0) hx hb dX6_init_298 (by decide) ?_
  refine fx_last hx hb hK hP hD hS 1 1 rfl rfl h dX6_init_299 (fun g49 => [(a_o, .inr (5, [.null, .null, .int 0, .null, .int 0, .null, .null, .null, .null, .int 0, .null, .null, .int 0, .null, .int 0, .null, .null])), (q1, .inl (fx_cJ X, 98, .inr (.inl g49)))]) (fun _ => rfl) (fun H locs g49 h hP hD hS => ?_)
  refine lv_dup hx hb dX6_init_300 rfl ?_
  refine lv_bipush (v := (nI 49)) hx hb dX6_init_301 (by decide) ?_
  refine lv_ldc2 (v := lN 2335524464695274607) hx hb hown (hts (.constantLong RX6 55 (2335524464695274607)) (by decide +kernel)) dX6_init_303 ?_
  refine fx_last hx hb hK hP hD hS 1 1 rfl rfl h dX6_init_306 (fun g50 => [(a_o, .inr (5, [.null, .null, .int 0, .null, .int 0, .null, .null, .null, .null, .int 0, .null, .null, .int 0, .null, .int 0, .null, .null])), (q1, .inl (fx_cJ X, 98, .inr (.inl g50)))]) (fun _ => rfl) (fun H locs g50 h hP hD hS => ?_)
  refine lv_dup hx hb dX6_init_307 rfl ?_
  refine lv_bipush (v := (nI 50)) hx hb dX6_init_308 (by decide) ?_
  refine lv_ldc2 (v := lN 30496) hx hb hown (hts (.constantLong RX6 59 (30496)) (by decide +kernel)) dX6_init_310 ?_
  refine fx_last hx hb hK hP hD hS 1 1 rfl rfl h dX6_init_313 (fun g51 => [(a_o, .inr (5, [.null, .null, .int 0, .null, .int 0, .null, .null, .null, .null, .int 0, .null, .null, .int 0, .null, .int 0, .null, .null])), (q1, .inl (fx_cJ X, 98, .inr (.inl g51)))]) (fun _ => rfl) (fun H locs g51 h hP hD hS => ?_)
  refine lv_dup hx hb dX6_init_314 rfl ?_
  refine lv_bipush (v := (nI 51)) hx hb dX6_init_315 (by decide) ?_
  refine lv_lconst (v := lN 0) hx hb dX6_init_317 (by decide) ?_
  refine fx_last hx hb hK hP hD hS 1 1 rfl rfl h dX6_init_318 (fun g52 => [(a_o, .inr (5, [.null, .null, .int 0, .null, .int 0, .null, .null, .null, .null, .int 0, .null, .null, .int 0, .null, .int 0, .null, .null])), (q1, .inl (fx_cJ X, 98, .inr (.inl g52)))]) (fun _ => rfl) (fun H locs g52 h hP hD hS => ?_)
  refine lv_dup hx hb dX6_init_319 rfl ?_
  refine lv_bipush (v := (nI 52)) hx hb dX6_init_320 (by decide) ?_
  refine lv_ldc2 (v := lN 2333539051756221216) hx hb hown (hts (.constantLong RX6 61 (2333539051756221216)) (by decide +kernel)) dX6_init_322 ?_
  refine fx_last hx hb hK hP hD hS 1 1 rfl rfl h dX6_init_325 (fun g53 => [(a_o, .inr (5, [.null, .null, .int 0, .null, .int 0, .null, .null, .null, .null, .int 0, .null, .null, .int 0, .null, .int 0, .null, .null])), (q1, .inl (fx_cJ X, 98, .inr (.inl g53)))]) (fun _ => rfl) (fun H locs g53 h hP hD hS => ?_)
  refine lv_dup hx hb dX6_init_326 rfl ?_
  refine lv_bipush (v := (nI 53)) hx hb dX6_init_327 (by decide) ?_
  refine lv_ldc2 (v := lN 7022273356252603244) hx hb hown (hts (.constantLong RX6 63 (7022273356252603244)) (by decide +kernel)) dX6_init_329 ?_
  refine fx_last hx hb hK hP hD hS 1 1 rfl rfl h dX6_init_332 (fun g54 => [(a_o, .inr (5, [.null, .null, .int 0, .null, .int 0, .null, .null, .null, .null, .int 0, .null, .null, .int 0, .null, .int 0, .null, .null])), (q1, .inl (fx_cJ X, 98, .inr (.inl g54)))]) (fun _ => rfl) (fun H locs g54 h hP hD hS => ?_)
  refine lv_dup hx hb dX6_init_333 rfl ?_
  refine lv_bipush (v := (nI 54)) hx hb dX6_init_334 (by decide) ?_
  refine lv_ldc2 (v := lN 1634956064) hx hb hown (hts (.constantLong RX6 65 (1634956064)) (by decide +kernel)) dX6_init_336 ?_
  refine fx_last hx hb hK hP hD hS 1 1 rfl rfl h dX6_init_339 (fun g55 => [(a_o, .inr (5, [.null, .null, .int 0, .null, .int 0, .null, .null, .null, .null, .int 0, .null, .null, .int 0, .null, .int 0, .null, .null])), (q1, .inl (fx_cJ X, 98, .inr (.inl g55)))]) (fun _ => rfl) (fun H locs g55 h hP hD hS => ?_)
  refine lv_dup hx hb dX6_init_340 rfl ?_
  refine lv_bipush (v := (nI 55)) hx hb dX6_init_341 (by decide) ?_
  refine lv_lconst (v := lN 0) hx hb dX6_init_343 (by decide) ?_
  refine fx_last hx hb hK hP hD hS 1 1 rfl rfl h dX6_init_344 (fun g56 => [(a_o, .inr (5, [.null, .null, .int 0, .null, .int 0, .null, .null, .null, .null, .int 0, .null, .null, .int 0, .null, .int 0, .null, .null])), (q1, .inl (fx_cJ X, 98, .inr (.inl g56)))]) (fun _ => rfl) (fun H locs g56 h hP hD hS => ?_)
  refine lv_dup hx hb dX6_init_345 rfl ?_
  refine lv_bipush (v := (nI 56)) hx hb dX6_init_346 (by decide) ?_
  refine lv_ldc2 (v := lN 2336353775669944436) hx hb hown (hts (.constantLong RX6 67 (2336353775669944436)) (by decide +kernel)) dX6_init_348 ?_
  refine fx_last hx hb hK hP hD hS 1 1 rfl rfl h dX6_init_351 (fun g57 => [(a_o, .inr (5, [.null, .null, .int 0, .null, .int 0, .null, .null, .null, .null, .int 0, .null, .null, .int 0, .null, .int 0, .null, .null])), (q1, .inl (fx_cJ X, 98, .inr (.inl g57)))]) (fun _ => rfl) (fun H locs g57 h hP hD hS => ?_)
  refine lv_dup hx hb dX6_init_352 rfl ?_
  refine lv_bipush (v := (nI 57)) hx hb dX6_init_353 (by decide) ?_
  refine lv_ldc2 (v := lN 8007516080650284129) hx hb hown (hts (.constantLong RX6 69 (8007516080650284129)) (by decide +kernel)) dX6_init_355 ?_
  refine fx_last hx hb hK hP hD hS 1 1 rfl rfl h dX6_init_358 (fun g58 => [(a_o, .inr (5, [.null, .null, .int 0, .null, .int 0, .null, .null, .null, .null, .int 0, .null, .null, .int 0, .null, .int 0, .null, .null])), (q1, .inl (fx_cJ X, 98, .inr (.inl g58)))]) (fun _ => rfl) (fun H locs g58 h hP hD hS => ?_)
  refine lv_dup hx hb dX6_init_359 rfl ?_
  refine lv_bipush (v := (nI 58)) hx hb dX6_init_360 (by decide) ?_
  refine lv_ldc2 (v := lN 7566112) hx hb hown (hts (.constantLong RX6 71 (7566112)) (by decide +kernel)) dX6_init_362 ?_
  refine fx_last hx hb hK hP hD hS 1 1 rfl rfl h dX6_init_365 (fun g59 => [(a_o, .inr (5, [.null, .null, .int 0, .null, .int 0, .null, .null, .null, .null, .int 0, .null, .null, .int 0, .null, .int 0, .null, .null])), (q1, .inl (fx_cJ X, 98, .inr (.inl g59)))]) (fun _ => rfl) (fun H locs g59 h hP hD hS => ?_)
  refine lv_dup hx hb dX6_init_366 rfl ?_
  refine lv_bipush (v := (nI 59)) hx hb dX6_init_367 (by decide) ?_
  refine lv_lconst (v := lN 0) hx hb dX6_init_369 (by decide) ?_
  refine fx_last hx hb hK hP hD hS 1 1 rfl rfl h dX6_init_370 (fun g60 => [(a_o, .inr (5, [.null, .null, .int 0, .null, .int 0, .null, .null, .null, .null, .int 0, .null, .null, .int 0, .null, .int 0, .null, .null])), (q1, .inl (fx_cJ X, 98, .inr (.inl g60)))]) (fun _ => rfl) (fun H locs g60 h hP hD hS => ?_)
  refine lv_dup hx hb dX6_init_371 rfl ?_
  refine lv_bipush (v := (nI 60)) hx hb dX6_init_372 (by decide) ?_
  refine lv_ldc2 (v := lN 2333267458273799265) hx hb hown (hts (.constantLong RX6 73 (2333267458273799265)) (by decide +kernel)) dX6_init_374 ?_
  refine fx_last hx hb hK hP hD hS 1 1 rfl rfl h dX6_init_377 (fun g61 => [(a_o, .inr (5, [.null, .null, .int 0, .null, .int 0, .null, .null, .null, .null, .int 0, .null, .null, .int 0, .null, .int 0, .null, .null])), (q1, .inl (fx_cJ X, 98, .inr (.inl g61)))]) (fun _ => rfl) (fun H locs g61 h hP hD hS => ?_)
  refine lv_dup hx hb dX6_init_378 rfl ?_
  refine lv_bipush (v := (nI 61)) hx hb dX6_init_379 (by decide) ?_
  refine lv_ldc2 (v := lN 7566112) hx hb hown (hts (.constantLong RX6 71 (7566112)) (by decide +kernel)) dX6_init_381 ?_
  refine fx_last hx hb hK hP hD hS 1 1 rfl rfl h dX6_init_384 (fun g62 => [(a_o, .inr (5, [.null, .null, .int 0, .null, .int 0, .null, .null, .null, .null, .int 0, .null, .null, .int 0, .null, .int 0, .null, .null])), (q1, .inl (fx_cJ X, 98, .inr (.inl g62)))]) (fun _ => rfl) (fun H locs g62 h hP hD hS => ?_)
  refine lv_dup hx hb dX6_init_385 rfl ?_
  refine lv_bipush (v := (nI 62)) hx hb dX6_init_386 (by decide) ?_
  refine lv_lconst (v := lN 0) hx hb dX6_init_388 (by decide) ?_
  refine fx_last hx hb hK hP hD hS 1 1 rfl rfl h dX6_init_389 (fun g63 => [(a_o, .inr (5, [.null, .null, .int 0, .null, .int 0, .null, .null, .null, .null, .int 0, .null, .null, .int 0, .null, .int 0, .null, .null])), (q1, .inl (fx_cJ X, 98, .inr (.inl g63)))]) (fun _ => rfl) (fun H locs g63 h hP hD hS => ?_)
  refine lv_dup hx hb dX6_init_390 rfl ?_
  refine lv_bipush (v := (nI 63)) hx hb dX6_init_391 (by decide) ?_
  refine lv_ldc2 (v := lN 2334957413328778344) hx hb hown (hts (.constantLong RX6 75 (2334957413328778344)) (by decide +kernel)) dX6_init_393 ?_
  refine fx_last hx hb hK hP hD hS 1 1 rfl rfl h dX6_init_396 (fun g64 => [(a_o, .inr (5, [.null, .null, .int 0, .null, .int 0, .null, .null, .null, .null, .int 0, .null, .null, .int 0, .null, .int 0, .null, .null])), (q1, .inl (fx_cJ X, 98, .inr (.inl g64)))]) (fun _ => rfl) (fun H locs g64 h hP hD hS => ?_)
  refine lv_dup hx hb dX6_init_397 rfl ?_
  refine lv_bipush (v := (nI 64)) hx hb dX6_init_398 (by decide) ?_
  refine lv_ldc2 (v := lN 491496236904) hx hb hown (hts (.constantLong RX6 77 (491496236904)) (by decide +kernel)) dX6_init_400 ?_
  refine fx_last hx hb hK hP hD hS 1 1 rfl rfl h dX6_init_403 (fun g65 => [(a_o, .inr (5, [.null, .null, .int 0, .null, .int 0, .null, .null, .null, .null, .int 0, .null, .null, .int 0, .null, .int 0, .null, .null])), (q1, .inl (fx_cJ X, 98, .inr (.inl g65)))]) (fun _ => rfl) (fun H locs g65 h hP hD hS => ?_)
  refine lv_dup hx hb dX6_init_404 rfl ?_
  refine lv_bipush (v := (nI 65)) hx hb dX6_init_405 (by decide) ?_
  refine lv_lconst (v := lN 0) hx hb dX6_init_407 (by decide) ?_
  refine fx_last hx hb hK hP hD hS 1 1 rfl rfl h dX6_init_408 (fun g66 => [(a_o, .inr (5, [.null, .null, .int 0, .null, .int 0, .null, .null, .null, .null, .int 0, .null, .null, .int 0, .null, .int 0, .null, .null])), (q1, .inl (fx_cJ X, 98, .inr (.inl g66)))]) (fun _ => rfl) (fun H locs g66 h hP hD hS => ?_)
  refine lv_dup hx hb dX6_init_409 rfl ?_
  refine lv_bipush (v := (nI 66)) hx hb dX6_init_410 (by decide) ?_
  refine lv_ldc2 (v := lN 2334957413328774505) hx hb hown (hts (.constantLong RX6 79 (2334957413328774505)) (by decide +kernel)) dX6_init_412 ?_
  refine fx_last hx hb hK hP hD hS 1 1 rfl rfl h dX6_init_415 (fun g67 => [(a_o, .inr (5, [.null, .null, .int 0, .null, .int 0, .null, .null, .null, .null, .int 0, .null, .null, .int 0, .null, .int 0, .null, .null])), (q1, .inl (fx_cJ X, 98, .inr (.inl g67)))]) (fun _ => rfl) (fun H locs g67 h hP hD hS => ?_)
  refine lv_dup hx hb dX6_init_416 rfl ?_
  refine lv_bipush (v := (nI 67)) hx hb dX6_init_417 (by decide) ?_
  refine lv_ldc2 (v := lN 8388065846822920569) hx hb hown (hts (.constantLong RX6 81 (8388065846822920569)) (by decide +kernel)) dX6_init_419 ?_
  refine fx_last hx hb hK hP hD hS 1 1 rfl rfl h dX6_init_422 (fun g68 => [(a_o, .inr (5, [.null, .null, .int 0, .null, .int 0, .null, .null, .null, .null, .int 0, .null, .null, .int 0, .null, .int 0, .null, .null])), (q1, .inl (fx_cJ X, 98, .inr (.inl g68)))]) (fun _ => rfl) (fun H locs g68 h hP hD hS => ?_)
  refine lv_dup hx hb dX6_init_423 rfl ?_
  refine lv_bipush (v := (nI 68)) hx hb dX6_init_424 (by decide) ?_
  refine lv_lconst (v := lN 0) hx hb dX6_init_426 (by decide) ?_
  refine fx_last hx hb hK hP hD hS 1 1 rfl rfl h dX6_init_427 (fun g69 => [(a_o, .inr (5, [.null, .null, .int 0, .null, .int 0, .null, .null, .null, .null, .int 0, .null, .null, .int 0, .null, .int 0, .null, .null])), (q1, .inl (fx_cJ X, 98, .inr (.inl g69)))]) (fun _ => rfl) (fun H locs g69 h hP hD hS => ?_)
  refine lv_dup hx hb dX6_init_428 rfl ?_
  refine lv_bipush (v := (nI 69)) hx hb dX6_init_429 (by decide) ?_
  refine lv_ldc2 (v := lN 543781664) hx hb hown (hts (.constantLong RX6 83 (543781664)) (by decide +kernel)) dX6_init_431 ?_
  refine fx_last hx hb hK hP hD hS 1 1 rfl rfl h dX6_init_434 (fun g70 => [(a_o, .inr (5, [.null, .null, .int 0, .null, .int 0, .null, .null, .null, .null, .int 0, .null, .null, .int 0, .null, .int 0, .null, .null])), (q1, .inl (fx_cJ X, 98, .inr (.inl g70)))]) (fun _ => rfl) (fun H locs g70 h hP hD hS => ?_)
  refine lv_dup hx hb dX6_init_435 rfl ?_
  refine lv_bipush (v := (nI 70)) hx hb dX6_init_436 (by decide) ?_
  refine lv_lconst (v := lN 0) hx hb dX6_init_438 (by decide) ?_
  refine fx_last hx hb hK hP hD hS 1 1 rfl rfl h dX6_init_439 (fun g71 => [(a_o, .inr (5, [.null, .null, .int 0, .null, .int 0, .null, .null, .null, .null, .int 0, .null, .null, .int 0, .null, .int 0, .null, .null])), (q1, .inl (fx_cJ X, 98, .inr (.inl g71)))]) (fun _ => rfl) (fun H locs g71 h hP hD hS => ?_)
  refine lv_dup hx hb dX6_init_440 rfl ?_
  refine lv_bipush (v := (nI 71)) hx hb dX6_init_441 (by decide) ?_
  refine lv_ldc2 (v := lN 2336353775669944436) hx hb hown (hts (.constantLong RX6 67 (2336353775669944436)) (by decide +kernel)) dX6_init_443 ?_
  refine fx_last hx hb hK hP hD hS 1 1 rfl rfl h dX6_init_446 (fun g72 => [(a_o, .inr (5, [.null, .null, .int 0, .null, .int 0, .null, .null, .null, .null, .int 0, .null, .null, .int 0, .null, .int 0, .null, .null])), (q1, .inl (fx_cJ X, 98, .inr (.inl g72)))]) (fun _ => rfl) (fun H locs g72 h hP hD hS => ?_)
  refine lv_dup hx hb dX6_init_447 rfl ?_
  refine lv_bipush (v := (nI 72)) hx hb dX6_init_448 (by decide) ?_
  refine lv_ldc2 (v := lN 477285543525) hx hb hown (hts (.constantLong RX6 85 (477285543525)) (by decide +kernel)) dX6_init_450 ?_
  refine fx_last hx hb hK hP hD hS 1 1 rfl rfl h dX6_init_453 (fun g73 => [(a_o, .inr (5, [.null, .null, .int 0, .null, .int 0, .null, .null, .null, .null, .int 0, .null, .null, .int 0, .null, .int 0, .null, .null])), (q1, .inl (fx_cJ X, 98, .inr (.inl g73)))]) (fun _ => rfl) (fun H locs g73 h hP hD hS => ?_)
  refine lv_dup hx hb dX6_init_454 rfl ?_
  refine lv_bipush (v := (nI 73)) hx hb dX6_init_455 (by decide) ?_
  refine lv_lconst (v := lN 0) hx hb dX6_init_457 (by decide) ?_
  refine fx_last hx hb hK hP hD hS 1 1 rfl rfl h dX6_init_458 (fun g74 => [(a_o, .inr (5, [.null, .null, .int 0, .null, .int 0, .null, .null, .null, .null, .int 0, .null, .null, .int 0, .null, .int 0, .null, .null])), (q1, .inl (fx_cJ X, 98, .inr (.inl g74)))]) (fun _ => rfl) (fun H locs g74 h hP hD hS => ?_)
  refine lv_dup hx hb dX6_init_459 rfl ?_
  refine lv_bipush (v := (nI 74)) hx hb dX6_init_460 (by decide) ?_
  refine lv_ldc2 (v := lN 2335524464897258528) hx hb hown (hts (.constantLong RX6 87 (2335524464897258528)) (by decide +kernel)) dX6_init_462 ?_
  refine fx_last hx hb hK hP hD hS 1 1 rfl rfl h dX6_init_465 (fun g75 => [(a_o, .inr (5, [.null, .null, .int 0, .null, .int 0, .null, .null, .null, .null, .int 0, .null, .null, .int 0, .null, .int 0, .null, .null])), (q1, .inl (fx_cJ X, 98, .inr (.inl g75)))]) (fun _ => rfl) (fun H locs g75 h hP hD hS => ?_)
  refine lv_dup hx hb dX6_init_466 rfl ?_
  refine lv_bipush (v := (nI 75)) hx hb dX6_init_467 (by decide) ?_
  refine lv_lconst (v := lN 0) hx hb dX6_init_469 (by decide) ?_
  refine fx_last hx hb hK hP hD hS 1 1 rfl rfl h dX6_init_470 (fun g76 => [(a_o, .inr (5, [.null, .null, .int 0, .null, .int 0, .null, .null, .null, .null, .int 0, .null, .null, .int 0, .null, .int 0, .null, .null])), (q1, .inl (fx_cJ X, 98, .inr (.inl g76)))]) (fun _ => rfl) (fun H locs g76 h hP hD hS => ?_)
  refine lv_dup hx hb dX6_init_471 rfl ?_
  refine lv_bipush (v := (nI 76)) hx hb dX6_init_472 (by decide) ?_
  refine lv_ldc2 (v := lN 2335524464712507763) hx hb hown (hts (.constantLong RX6 89 (2335524464712507763)) (by decide +kernel)) dX6_init_474 ?_
  refine fx_last hx hb hK hP hD hS 1 1 rfl rfl h dX6_init_477 (fun g77 => [(a_o, .inr (5, [.null, .null, .int 0, .null, .int 0, .null, .null, .null, .null, .int 0, .null, .null, .int 0, .null, .int 0, .null, .null])), (q1, .inl (fx_cJ X, 98, .inr (.inl g77)))]) (fun _ => rfl) (fun H locs g77 h hP hD hS => ?_)
  refine lv_dup hx hb dX6_init_478 rfl ?_
  refine lv_bipush (v := (nI 77)) hx hb dX6_init_479 (by decide) ?_
  refine lv_ldc2 (v := lN 29472) hx hb hown (hts (.constantLong RX6 91 (29472)) (by decide +kernel)) dX6_init_481 ?_
  refine fx_last hx hb hK hP hD hS 1 1 rfl rfl h dX6_init_484 (fun g78 => [(a_o, .inr (5, [.null, .null, .int 0, .null, .int 0, .null, .null, .null, .null, .int 0, .null, .null, .int 0, .null, .int 0, .null, .null])), (q1, .inl (fx_cJ X, 98, .inr (.inl g78)))]) (fun _ => rfl) (fun H locs g78 h hP hD hS => ?_)
  refine lv_dup hx hb dX6_init_485 rfl ?_
  refine lv_bipush (v := (nI 78)) hx hb dX6_init_486 (by decide) ?_
  refine lv_lconst (v := lN 0) hx hb dX6_init_488 (by decide) ?_
  refine fx_last hx hb hK hP hD hS 1 1 rfl rfl h dX6_init_489 (fun g79 => [(a_o, .inr (5, [.null, .null, .int 0, .null, .int 0, .null, .null, .null, .null, .int 0, .null, .null, .int 0, .null, .int 0, .null, .null])), (q1, .inl (fx_cJ X, 98, .inr (.inl g79)))]) (fun _ => rfl) (fun H locs g79 h hP hD hS => ?_)
  refine lv_dup hx hb dX6_init_490 rfl ?_
  refine lv_bipush (v := (nI 79)) hx hb dX6_init_491 (by decide) ?_
  refine lv_ldc2 (v := lN 32) hx hb hown (hts (.constantLong RX6 93 (32)) (by decide +kernel)) dX6_init_493 ?_
  refine fx_last hx hb hK hP hD hS 1 1 rfl rfl h dX6_init_496 (fun g80 => [(a_o, .inr (5, [.null, .null, .int 0, .null, .int 0, .null, .null, .null, .null, .int 0, .null, .null, .int 0, .null, .int 0, .null, .null])), (q1, .inl (fx_cJ X, 98, .inr (.inl g80)))]) (fun _ => rfl) (fun H locs g80 h hP hD hS => ?_)
  refine lv_dup hx hb dX6_init_497 rfl ?_
  refine lv_bipush (v := (nI 80)) hx hb dX6_init_498 (by decide) ?_
  refine lv_lconst (v := lN 0) hx hb dX6_init_500 (by decide) ?_
  refine fx_last hx hb hK hP hD hS 1 1 rfl rfl h dX6_init_501 (fun g81 => [(a_o, .inr (5, [.null, .null, .int 0, .null, .int 0, .null, .null, .null, .null, .int 0, .null, .null, .int 0, .null, .int 0, .null, .null])), (q1, .inl (fx_cJ X, 98, .inr (.inl g81)))]) (fun _ => rfl) (fun H locs g81 h hP hD hS => ?_)
  refine lv_dup hx hb dX6_init_502 rfl ?_
  refine lv_bipush (v := (nI 81)) hx hb dX6_init_503 (by decide) ?_
  refine lv_ldc2 (v := lN 2335223567922261615) hx hb hown (hts (.constantLong RX6 95 (2335223567922261615)) (by decide +kernel)) dX6_init_505 ?_
  refine fx_last hx hb hK hP hD hS 1 1 rfl rfl h dX6_init_508 (fun g82 => [(a_o, .inr (5, [.null, .null, .int 0, .null, .int 0, .null, .null, .null, .null, .int 0, .null, .null, .int 0, .null, .int 0, .null, .null])), (q1, .inl (fx_cJ X, 98, .inr (.inl g82)))]) (fun _ => rfl) (fun H locs g82 h hP hD hS => ?_)
  refine lv_dup hx hb dX6_init_509 rfl ?_
  refine lv_bipush (v := (nI 82)) hx hb dX6_init_510 (by decide) ?_
  refine lv_ldc2 (v := lN 8388070228875045230) hx hb hown (hts (.constantLong RX6 97 (8388070228875045230)) (by decide +kernel)) dX6_init_512 ?_
  refine fx_last hx hb hK hP hD hS 1 1 rfl rfl h dX6_init_515 (fun g83 => [(a_o, .inr (5, [.null, .null, .int 0, .null, .int 0, .null, .null, .null, .null, .int 0, .null, .null, .int 0, .null, .int 0, .null, .null])), (q1, .inl (fx_cJ X, 98, .inr (.inl g83)))]) (fun _ => rfl) (fun H locs g83 h hP hD hS => ?_)
  refine lv_dup hx hb dX6_init_516 rfl ?_
  refine lv_bipush (v := (nI 83)) hx hb dX6_init_517 (by decide) ?_
  refine lv_ldc2 (v := lN 9116529483149166) hx hb hown (hts (.constantLong RX6 99 (9116529483149166)) (by decide +kernel)) dX6_init_519 ?_
  refine fx_last hx hb hK hP hD hS 1 1 rfl rfl h dX6_init_522 (fun g84 => [(a_o, .inr (5, [.null, .null, .int 0, .null, .int 0, .null, .null, .null, .null, .int 0, .null, .null, .int 0, .null, .int 0, .null, .null])), (q1, .inl (fx_cJ X, 98, .inr (.inl g84)))]) (fun _ => rfl) (fun H locs g84 h hP hD hS => ?_)
  refine lv_dup hx hb dX6_init_523 rfl ?_
  refine lv_bipush (v := (nI 84)) hx hb dX6_init_524 (by decide) ?_
  refine lv_lconst (v := lN 0) hx hb dX6_init_526 (by decide) ?_
  refine fx_last hx hb hK hP hD hS 1 1 rfl rfl h dX6_init_527 (fun g85 => [(a_o, .inr (5, [.null, .null, .int 0, .null, .int 0, .null, .null, .null, .null, .int 0, .null, .null, .int 0, .null, .int 0, .null, .null])), (q1, .inl (fx_cJ X, 98, .inr (.inl g85)))]) (fun _ => rfl) (fun H locs g85 h hP hD hS => ?_)
  refine lv_dup hx hb dX6_init_528 rfl ?_
  refine lv_bipush (v := (nI 85)) hx hb dX6_init_529 (by decide) ?_
  refine lv_ldc2 (v := lN 2338608890057290856) hx hb hown (hts (.constantLong RX6 101 (2338608890057290856)) (by decide +kernel)) dX6_init_531 ?_
  refine fx_last hx hb hK hP hD hS 1 1 rfl rfl h dX6_init_534 (fun g86 => [(a_o, .inr (5, [.null, .null, .int 0, .null, .int 0, .null, .null, .null, .null, .int 0, .null, .null, .int 0, .null, .int 0, .null, .null])), (q1, .inl (fx_cJ X, 98, .inr (.inl g86)))]) (fun _ => rfl) (fun H locs g86 h hP hD hS => ?_)
  refine lv_dup hx hb dX6_init_535 rfl ?_
  refine lv_bipush (v := (nI 86)) hx hb dX6_init_536 (by decide) ?_
  refine lv_ldc2 (v := lN 111540845371769) hx hb hown (hts (.constantLong RX6 103 (111540845371769)) (by decide +kernel)) dX6_init_538 ?_
  refine fx_last hx hb hK hP hD hS 1 1 rfl rfl h dX6_init_541 (fun g87 => [(a_o, .inr (5, [.null, .null, .int 0, .null, .int 0, .null, .null, .null, .null, .int 0, .null, .null, .int 0, .null, .int 0, .null, .null])), (q1, .inl (fx_cJ X, 98, .inr (.inl g87)))]) (fun _ => rfl) (fun H locs g87 h hP hD hS => ?_)
  refine lv_dup hx hb dX6_init_542 rfl ?_
  refine lv_bipush (v := (nI 87)) hx hb dX6_init_543 (by decide) ?_
  refine lv_lconst (v := lN 0) hx hb dX6_init_545 (by decide) ?_
  refine fx_last hx hb hK hP hD hS 1 1 rfl rfl h dX6_init_546 (fun g88 => [(a_o, .inr (5, [.null, .null, .int 0, .null, .int 0, .null, .null, .null, .null, .int 0, .null, .null, .int 0, .null, .int 0, .null, .null])), (q1, .inl (fx_cJ X, 98, .inr (.inl g88)))]) (fun _ => rfl) (fun H locs g88 h hP hD hS => ?_)
  refine lv_dup hx hb dX6_init_547 rfl ?_
  refine lv_bipush (v := (nI 88)) hx hb dX6_init_548 (by decide) ?_
  refine lv_ldc2 (v := lN 11808) hx hb hown (hts (.constantLong RX6 105 (11808)) (by decide +kernel)) dX6_init_550 ?_
  refine fx_last hx hb hK hP hD hS 1 1 rfl rfl h dX6_init_553 (fun g89 => [(a_o, .inr (5, [.null, .null, .int 0, .null, .int 0, .null, .null, .null, .null, .int 0, .null, .null, .int 0, .null, .int 0, .null, .null])), (q1, .inl (fx_cJ X, 98, .inr (.inl g89)))]) (fun _ => rfl) (fun H locs g89 h hP hD hS => ?_)
  refine lv_dup hx hb dX6_init_554 rfl ?_
  refine lv_bipush (v := (nI 89)) hx hb dX6_init_555 (by decide) ?_
  refine lv_lconst (v := lN 0) hx hb dX6_init_557 (by decide) ?_
  refine fx_last hx hb hK hP hD hS 1 1 rfl rfl h dX6_init_558 (fun g90 => [(a_o, .inr (5, [.null, .null, .int 0, .null, .int 0, .null, .null, .null, .null, .int 0, .null, .null, .int 0, .null, .int 0, .null, .null])), (q1, .inl (fx_cJ X, 98, .inr (.inl g90)))]) (fun _ => rfl) (fun H locs g90 h hP hD hS => ?_)
  refine lv_dup hx hb dX6_init_559 rfl ?_
  refine lv_bipush (v := (nI 90)) hx hb dX6_init_560 (by decide) ?_
  refine lv_ldc2 (v := lN 189521885472) hx hb hown (hts (.constantLong RX6 107 (189521885472)) (by decide +kernel)) dX6_init_562 ?_
  refine fx_last hx hb hK hP hD hS 1 1 rfl rfl h dX6_init_565 (fun g91 => [(a_o, .inr (5, [.null, .null, .int 0, .null, .int 0, .null, .null, .null, .null, .int 0, .null, .null, .int 0, .null, .int 0, .null, .null])), (q1, .inl (fx_cJ X, 98, .inr (.inl g91)))]) (fun _ => rfl) (fun H locs g91 h hP hD hS => ?_)
  refine lv_dup hx hb dX6_init_566 rfl ?_
  refine lv_bipush (v := (nI 91)) hx hb dX6_init_567 (by decide) ?_
  refine lv_lconst (v := lN 0) hx hb dX6_init_569 (by decide) ?_
  refine fx_last hx hb hK hP hD hS 1 1 rfl rfl h dX6_init_570 (fun g92 => [(a_o, .inr (5, [.null, .null, .int 0, .null, .int 0, .null, .null, .null, .null, .int 0, .null, .null, .int 0, .null, .int 0, .null, .null])), (q1, .inl (fx_cJ X, 98, .inr (.inl g92)))]) (fun _ => rfl) (fun H locs g92 h hP hD hS => ?_)
  refine lv_dup hx hb dX6_init_571 rfl ?_
  refine lv_bipush (v := (nI 92)) hx hb dX6_init_572 (by decide) ?_
  refine lv_ldc2 (v := lN 35624378658080) hx hb hown (hts (.constantLong RX6 109 (35624378658080)) (by decide +kernel)) dX6_init_574 ?_
  refine fx_last hx hb hK hP hD hS 1 1 rfl rfl h dX6_init_577 (fun g93 => [(a_o, .inr (5, [.null, .null, .int 0, .null, .int 0, .null, .null, .null, .null, .int 0, .null, .null, .int 0, .null, .int 0, .null, .null])), (q1, .inl (fx_cJ X, 98, .inr (.inl g93)))]) (fun _ => rfl) (fun H locs g93 h hP hD hS => ?_)
  refine lv_dup hx hb dX6_init_578 rfl ?_
  refine lv_bipush (v := (nI 93)) hx hb dX6_init_579 (by decide) ?_
  refine lv_lconst (v := lN 0) hx hb dX6_init_581 (by decide) ?_
  refine fx_last hx hb hK hP hD hS 1 1 rfl rfl h dX6_init_582 (fun g94 => [(a_o, .inr (5, [.null, .null, .int 0, .null, .int 0, .null, .null, .null, .null, .int 0, .null, .null, .int 0, .null, .int 0, .null, .null])), (q1, .inl (fx_cJ X, 98, .inr (.inl g94)))]) (fun _ => rfl) (fun H locs g94 h hP hD hS => ?_)
  refine lv_dup hx hb dX6_init_583 rfl ?_
  refine lv_bipush (v := (nI 94)) hx hb dX6_init_584 (by decide) ?_
  refine lv_ldc2 (v := lN 139073578016) hx hb hown (hts (.constantLong RX6 111 (139073578016)) (by decide +kernel)) dX6_init_586 ?_
  refine fx_last hx hb hK hP hD hS 1 1 rfl rfl h dX6_init_589 (fun g95 => [(a_o, .inr (5, [.null, .null, .int 0, .null, .int 0, .null, .null, .null, .null, .int 0, .null, .null, .int 0, .null, .int 0, .null, .null])), (q1, .inl (fx_cJ X, 98, .inr (.inl g95)))]) (fun _ => rfl) (fun H locs g95 h hP hD hS => ?_)
  refine lv_dup hx hb dX6_init_590 rfl ?_
  refine lv_bipush (v := (nI 95)) hx hb dX6_init_591 (by decide) ?_
  refine lv_lconst (v := lN 0) hx hb dX6_init_593 (by decide) ?_
  refine fx_last hx hb hK hP hD hS 1 1 rfl rfl h dX6_init_594 (fun g96 => [(a_o, .inr (5, [.null, .null, .int 0, .null, .int 0, .null, .null, .null, .null, .int 0, .null, .null, .int 0, .null, .int 0, .null, .null])), (q1, .inl (fx_cJ X, 98, .inr (.inl g96)))]) (fun _ => rfl) (fun H locs g96 h hP hD hS => ?_)
  refine lv_dup hx hb dX6_init_595 rfl ?_
  refine lv_bipush (v := (nI 96)) hx hb dX6_init_596 (by decide) ?_
  refine lv_ldc2 (v := lN 46) hx hb hown (hts (.constantLong RX6 113 (46)) (by decide +kernel)) dX6_init_598 ?_
  refine fx_last hx hb hK hP hD hS 1 1 rfl rfl h dX6_init_601 (fun g97 => [(a_o, .inr (5, [.null, .null, .int 0, .null, .int 0, .null, .null, .null, .null, .int 0, .null, .null, .int 0, .null, .int 0, .null, .null])), (q1, .inl (fx_cJ X, 98, .inr (.inl g97)))]) (fun _ => rfl) (fun H locs g97 h hP hD hS => ?_)
  refine lv_dup hx hb dX6_init_602 rfl ?_
  refine lv_bipush (v := (nI 97)) hx hb dX6_init_603 (by decide) ?_
  refine lv_lconst (v := lN 0) hx hb dX6_init_605 (by decide) ?_
  refine fx_last hx hb hK hP hD hS 1 1 rfl rfl h dX6_init_606 (fun g98 => [(a_o, .inr (5, [.null, .null, .int 0, .null, .int 0, .null, .null, .null, .null, .int 0, .null, .null, .int 0, .null, .int 0, .null, .null])), (q1, .inl (fx_cJ X, 98, .inr (.inl g98)))]) (fun _ => rfl) (fun H locs g98 h hP hD hS => ?_)
  refine va_putF (D := fx_D X) (ci := 5) (v := .ref q1) (ty := (.array .long)) (C := RX6) (T := TX6) (N := 17) hx hb hts im_X6_init_X6 tyX6 tyX6_ok nmX6 hown hK hP hD hS 0 rfl rfl 0 (by decide) (hts (.fieldLink RX6 115 "ProofCheckerModel" "phrases" "[J") (by decide +kernel)) (fun _ h9 => h9) rfl hin rfl (by decide +kernel) rfl rfl (Nat.le_of_ble_eq_true rfl) dX6_init_607 (fun H locs hP hD hS => ?_)
  have hP : va_P (fx_D X) vwCl [(a_o, .inr (5, [.ref q1, .null, .int 0, .null, .int 0, .null, .null, .null, .null, .int 0, .null, .null, .int 0, .null, .int 0, .null, .null])), (q1, .inl (fx_cJ X, 98, .inr (.inl g98)))] H := hP
  have hD : va_D A [(a_o, .inr (5, [.ref q1, .null, .int 0, .null, .int 0, .null, .null, .null, .null, .int 0, .null, .null, .int 0, .null, .int 0, .null, .null])), (q1, .inl (fx_cJ X, 98, .inr (.inl g98)))] := hD
  refine lv_aload_n hx hb dX6_init_610 rfl (lv_at hl 0 rfl) ?_
  refine lv_sipush (v := (nI 404)) hx hb dX6_init_611 (by decide) ?_
  refine fx_newI hx hb (hts (.arrayClass .int) (by decide +kernel)) hK hP hD hS hA 404 (by omega) (Nat.le_of_ble_eq_true rfl) (Nat.le_of_ble_eq_true rfl) dX6_init_614 (fun q2 H hP hD hS => ?_)
  have hP : va_P (fx_D X) vwCl [(a_o, .inr (5, [.ref q1, .null, .int 0, .null, .int 0, .null, .null, .null, .null, .int 0, .null, .null, .int 0, .null, .int 0, .null, .null])), (q1, .inl (fx_cJ X, 98, .inr (.inl g98))), (q2, .inl (fx_cI X, 404, .inl (fun _ => 0)))] H := hP
  have hD : va_D A [(a_o, .inr (5, [.ref q1, .null, .int 0, .null, .int 0, .null, .null, .null, .null, .int 0, .null, .null, .int 0, .null, .int 0, .null, .null])), (q1, .inl (fx_cJ X, 98, .inr (.inl g98))), (q2, .inl (fx_cI X, 404, .inl (fun _ => 0)))] := hD
  refine va_putF (D := fx_D X) (ci := 5) (v := .ref q2) (ty := (.array .int)) (C := RX6) (T := TX6) (N := 17) hx hb hts im_X6_init_X6 tyX6 tyX6_ok nmX6 hown hK hP hD hS 0 rfl rfl 1 (by decide) (hts (.fieldLink RX6 121 "ProofCheckerModel" "axioms" "[I") (by decide +kernel)) (fun _ h9 => h9) rfl hin rfl (by decide +kernel) rfl rfl (Nat.le_of_ble_eq_true rfl) dX6_init_616 (fun H locs hP hD hS => ?_)
  have hP : va_P (fx_D X) vwCl [(a_o, .inr (5, [.ref q1, .ref q2, .int 0, .null, .int 0, .null, .null, .null, .null, .int 0, .null, .null, .int 0, .null, .int 0, .null, .null])), (q1, .inl (fx_cJ X, 98, .inr (.inl g98))), (q2, .inl (fx_cI X, 404, .inl (fun _ => 0)))] H := hP
  have hD : va_D A [(a_o, .inr (5, [.ref q1, .ref q2, .int 0, .null, .int 0, .null, .null, .null, .null, .int 0, .null, .null, .int 0, .null, .int 0, .null, .null])), (q1, .inl (fx_cJ X, 98, .inr (.inl g98))), (q2, .inl (fx_cI X, 404, .inl (fun _ => 0)))] := hD
  refine lv_aload_n hx hb dX6_init_619 rfl (lv_at hl 0 rfl) ?_
  refine lv_sipush (v := (nI 404)) hx hb dX6_init_620 (by decide) ?_
  refine fx_newI hx hb (hts (.arrayClass .int) (by decide +kernel)) hK hP hD hS hA 404 (by omega) (Nat.le_of_ble_eq_true rfl) (Nat.le_of_ble_eq_true rfl) dX6_init_623 (fun q3 H hP hD hS => ?_)
  have hP : va_P (fx_D X) vwCl [(a_o, .inr (5, [.ref q1, .ref q2, .int 0, .null, .int 0, .null, .null, .null, .null, .int 0, .null, .null, .int 0, .null, .int 0, .null, .null])), (q1, .inl (fx_cJ X, 98, .inr (.inl g98))), (q2, .inl (fx_cI X, 404, .inl (fun _ => 0))), (q3, .inl (fx_cI X, 404, .inl (fun _ => 0)))] H := hP
  have hD : va_D A [(a_o, .inr (5, [.ref q1, .ref q2, .int 0, .null, .int 0, .null, .null, .null, .null, .int 0, .null, .null, .int 0, .null, .int 0, .null, .null])), (q1, .inl (fx_cJ X, 98, .inr (.inl g98))), (q2, .inl (fx_cI X, 404, .inl (fun _ => 0))), (q3, .inl (fx_cI X, 404, .inl (fun _ => 0)))] := hD
  refine va_putF (D := fx_D X) (ci := 5) (v := .ref q3) (ty := (.array .int)) (C := RX6) (T := TX6) (N := 17) hx hb hts im_X6_init_X6 tyX6 tyX6_ok nmX6 hown hK hP hD hS 0 rfl rfl 3 (by decide) (hts (.fieldLink RX6 125 "ProofCheckerModel" "triples" "[I") (by decide +kernel)) (fun _ h9 => h9) rfl hin rfl (by decide +kernel) rfl rfl (Nat.le_of_ble_eq_true rfl) dX6_init_625 (fun H locs hP hD hS => ?_)
  have hP : va_P (fx_D X) vwCl [(a_o, .inr (5, [.ref q1, .ref q2, .int 0, .ref q3, .int 0, .null, .null, .null, .null, .int 0, .null, .null, .int 0, .null, .int 0, .null, .null])), (q1, .inl (fx_cJ X, 98, .inr (.inl g98))), (q2, .inl (fx_cI X, 404, .inl (fun _ => 0))), (q3, .inl (fx_cI X, 404, .inl (fun _ => 0)))] H := hP
  have hD : va_D A [(a_o, .inr (5, [.ref q1, .ref q2, .int 0, .ref q3, .int 0, .null, .null, .null, .null, .int 0, .null, .null, .int 0, .null, .int 0, .null, .null])), (q1, .inl (fx_cJ X, 98, .inr (.inl g98))), (q2, .inl (fx_cI X, 404, .inl (fun _ => 0))), (q3, .inl (fx_cI X, 404, .inl (fun _ => 0)))] := hD
  refine lv_aload_n hx hb dX6_init_628 rfl (lv_at hl 0 rfl) ?_
  refine lv_sipush (v := (nI 301)) hx hb dX6_init_629 (by decide) ?_
  refine fx_newI hx hb (hts (.arrayClass .int) (by decide +kernel)) hK hP hD hS hA 301 (by omega) (Nat.le_of_ble_eq_true rfl) (Nat.le_of_ble_eq_true rfl) dX6_init_632 (fun q4 H hP hD hS => ?_)
  have hP : va_P (fx_D X) vwCl [(a_o, .inr (5, [.ref q1, .ref q2, .int 0, .ref q3, .int 0, .null, .null, .null, .null, .int 0, .null, .null, .int 0, .null, .int 0, .null, .null])), (q1, .inl (fx_cJ X, 98, .inr (.inl g98))), (q2, .inl (fx_cI X, 404, .inl (fun _ => 0))), (q3, .inl (fx_cI X, 404, .inl (fun _ => 0))), (q4, .inl (fx_cI X, 301, .inl (fun _ => 0)))] H := hP
  have hD : va_D A [(a_o, .inr (5, [.ref q1, .ref q2, .int 0, .ref q3, .int 0, .null, .null, .null, .null, .int 0, .null, .null, .int 0, .null, .int 0, .null, .null])), (q1, .inl (fx_cJ X, 98, .inr (.inl g98))), (q2, .inl (fx_cI X, 404, .inl (fun _ => 0))), (q3, .inl (fx_cI X, 404, .inl (fun _ => 0))), (q4, .inl (fx_cI X, 301, .inl (fun _ => 0)))] := hD
  refine va_putF (D := fx_D X) (ci := 5) (v := .ref q4) (ty := (.array .int)) (C := RX6) (T := TX6) (N := 17) hx hb hts im_X6_init_X6 tyX6 tyX6_ok nmX6 hown hK hP hD hS 0 rfl rfl 5 (by decide) (hts (.fieldLink RX6 128 "ProofCheckerModel" "rules" "[I") (by decide +kernel)) (fun _ h9 => h9) rfl hin rfl (by decide +kernel) rfl rfl (Nat.le_of_ble_eq_true rfl) dX6_init_634 (fun H locs hP hD hS => ?_)
  have hP : va_P (fx_D X) vwCl [(a_o, .inr (5, [.ref q1, .ref q2, .int 0, .ref q3, .int 0, .ref q4, .null, .null, .null, .int 0, .null, .null, .int 0, .null, .int 0, .null, .null])), (q1, .inl (fx_cJ X, 98, .inr (.inl g98))), (q2, .inl (fx_cI X, 404, .inl (fun _ => 0))), (q3, .inl (fx_cI X, 404, .inl (fun _ => 0))), (q4, .inl (fx_cI X, 301, .inl (fun _ => 0)))] H := hP
  have hD : va_D A [(a_o, .inr (5, [.ref q1, .ref q2, .int 0, .ref q3, .int 0, .ref q4, .null, .null, .null, .int 0, .null, .null, .int 0, .null, .int 0, .null, .null])), (q1, .inl (fx_cJ X, 98, .inr (.inl g98))), (q2, .inl (fx_cI X, 404, .inl (fun _ => 0))), (q3, .inl (fx_cI X, 404, .inl (fun _ => 0))), (q4, .inl (fx_cI X, 301, .inl (fun _ => 0)))] := hD
  refine lv_aload_n hx hb dX6_init_637 rfl (lv_at hl 0 rfl) ?_
  refine lv_sipush (v := (nI 301)) hx hb dX6_init_638 (by decide) ?_
  refine fx_newI hx hb (hts (.arrayClass .int) (by decide +kernel)) hK hP hD hS hA 301 (by omega) (Nat.le_of_ble_eq_true rfl) (Nat.le_of_ble_eq_true rfl) dX6_init_641 (fun q5 H hP hD hS => ?_)
  have hP : va_P (fx_D X) vwCl [(a_o, .inr (5, [.ref q1, .ref q2, .int 0, .ref q3, .int 0, .ref q4, .null, .null, .null, .int 0, .null, .null, .int 0, .null, .int 0, .null, .null])), (q1, .inl (fx_cJ X, 98, .inr (.inl g98))), (q2, .inl (fx_cI X, 404, .inl (fun _ => 0))), (q3, .inl (fx_cI X, 404, .inl (fun _ => 0))), (q4, .inl (fx_cI X, 301, .inl (fun _ => 0))), (q5, .inl (fx_cI X, 301, .inl (fun _ => 0)))] H := hP
  have hD : va_D A [(a_o, .inr (5, [.ref q1, .ref q2, .int 0, .ref q3, .int 0, .ref q4, .null, .null, .null, .int 0, .null, .null, .int 0, .null, .int 0, .null, .null])), (q1, .inl (fx_cJ X, 98, .inr (.inl g98))), (q2, .inl (fx_cI X, 404, .inl (fun _ => 0))), (q3, .inl (fx_cI X, 404, .inl (fun _ => 0))), (q4, .inl (fx_cI X, 301, .inl (fun _ => 0))), (q5, .inl (fx_cI X, 301, .inl (fun _ => 0)))] := hD
  refine va_putF (D := fx_D X) (ci := 5) (v := .ref q5) (ty := (.array .int)) (C := RX6) (T := TX6) (N := 17) hx hb hts im_X6_init_X6 tyX6 tyX6_ok nmX6 hown hK hP hD hS 0 rfl rfl 6 (by decide) (hts (.fieldLink RX6 131 "ProofCheckerModel" "instances" "[I") (by decide +kernel)) (fun _ h9 => h9) rfl hin rfl (by decide +kernel) rfl rfl (Nat.le_of_ble_eq_true rfl) dX6_init_643 (fun H locs hP hD hS => ?_)
  have hP : va_P (fx_D X) vwCl [(a_o, .inr (5, [.ref q1, .ref q2, .int 0, .ref q3, .int 0, .ref q4, .ref q5, .null, .null, .int 0, .null, .null, .int 0, .null, .int 0, .null, .null])), (q1, .inl (fx_cJ X, 98, .inr (.inl g98))), (q2, .inl (fx_cI X, 404, .inl (fun _ => 0))), (q3, .inl (fx_cI X, 404, .inl (fun _ => 0))), (q4, .inl (fx_cI X, 301, .inl (fun _ => 0))), (q5, .inl (fx_cI X, 301, .inl (fun _ => 0)))] H := hP
  have hD : va_D A [(a_o, .inr (5, [.ref q1, .ref q2, .int 0, .ref q3, .int 0, .ref q4, .ref q5, .null, .null, .int 0, .null, .null, .int 0, .null, .int 0, .null, .null])), (q1, .inl (fx_cJ X, 98, .inr (.inl g98))), (q2, .inl (fx_cI X, 404, .inl (fun _ => 0))), (q3, .inl (fx_cI X, 404, .inl (fun _ => 0))), (q4, .inl (fx_cI X, 301, .inl (fun _ => 0))), (q5, .inl (fx_cI X, 301, .inl (fun _ => 0)))] := hD
  refine lv_aload_n hx hb dX6_init_646 rfl (lv_at hl 0 rfl) ?_
  refine lv_sipush (v := (nI 301)) hx hb dX6_init_647 (by decide) ?_
  refine fx_newI hx hb (hts (.arrayClass .int) (by decide +kernel)) hK hP hD hS hA 301 (by omega) (Nat.le_of_ble_eq_true rfl) (Nat.le_of_ble_eq_true rfl) dX6_init_650 (fun q6 H hP hD hS => ?_)
  have hP : va_P (fx_D X) vwCl [(a_o, .inr (5, [.ref q1, .ref q2, .int 0, .ref q3, .int 0, .ref q4, .ref q5, .null, .null, .int 0, .null, .null, .int 0, .null, .int 0, .null, .null])), (q1, .inl (fx_cJ X, 98, .inr (.inl g98))), (q2, .inl (fx_cI X, 404, .inl (fun _ => 0))), (q3, .inl (fx_cI X, 404, .inl (fun _ => 0))), (q4, .inl (fx_cI X, 301, .inl (fun _ => 0))), (q5, .inl (fx_cI X, 301, .inl (fun _ => 0))), (q6, .inl (fx_cI X, 301, .inl (fun _ => 0)))] H := hP
  have hD : va_D A [(a_o, .inr (5, [.ref q1, .ref q2, .int 0, .ref q3, .int 0, .ref q4, .ref q5, .null, .null, .int 0, .null, .null, .int 0, .null, .int 0, .null, .null])), (q1, .inl (fx_cJ X, 98, .inr (.inl g98))), (q2, .inl (fx_cI X, 404, .inl (fun _ => 0))), (q3, .inl (fx_cI X, 404, .inl (fun _ => 0))), (q4, .inl (fx_cI X, 301, .inl (fun _ => 0))), (q5, .inl (fx_cI X, 301, .inl (fun _ => 0))), (q6, .inl (fx_cI X, 301, .inl (fun _ => 0)))] := hD
  refine va_putF (D := fx_D X) (ci := 5) (v := .ref q6) (ty := (.array .int)) (C := RX6) (T := TX6) (N := 17) hx hb hts im_X6_init_X6 tyX6 tyX6_ok nmX6 hown hK hP hD hS 0 rfl rfl 7 (by decide) (hts (.fieldLink RX6 134 "ProofCheckerModel" "counts" "[I") (by decide +kernel)) (fun _ h9 => h9) rfl hin rfl (by decide +kernel) rfl rfl (Nat.le_of_ble_eq_true rfl) dX6_init_652 (fun H locs hP hD hS => ?_)
  have hP : va_P (fx_D X) vwCl [(a_o, .inr (5, [.ref q1, .ref q2, .int 0, .ref q3, .int 0, .ref q4, .ref q5, .ref q6, .null, .int 0, .null, .null, .int 0, .null, .int 0, .null, .null])), (q1, .inl (fx_cJ X, 98, .inr (.inl g98))), (q2, .inl (fx_cI X, 404, .inl (fun _ => 0))), (q3, .inl (fx_cI X, 404, .inl (fun _ => 0))), (q4, .inl (fx_cI X, 301, .inl (fun _ => 0))), (q5, .inl (fx_cI X, 301, .inl (fun _ => 0))), (q6, .inl (fx_cI X, 301, .inl (fun _ => 0)))] H := hP
  have hD : va_D A [(a_o, .inr (5, [.ref q1, .ref q2, .int 0, .ref q3, .int 0, .ref q4, .ref q5, .ref q6, .null, .int 0, .null, .null, .int 0, .null, .int 0, .null, .null])), (q1, .inl (fx_cJ X, 98, .inr (.inl g98))), (q2, .inl (fx_cI X, 404, .inl (fun _ => 0))), (q3, .inl (fx_cI X, 404, .inl (fun _ => 0))), (q4, .inl (fx_cI X, 301, .inl (fun _ => 0))), (q5, .inl (fx_cI X, 301, .inl (fun _ => 0))), (q6, .inl (fx_cI X, 301, .inl (fun _ => 0)))] := hD
  refine lv_aload_n hx hb dX6_init_655 rfl (lv_at hl 0 rfl) ?_
  refine lv_sipush (v := (nI 903)) hx hb dX6_init_656 (by decide) ?_
  refine fx_newI hx hb (hts (.arrayClass .int) (by decide +kernel)) hK hP hD hS hA 903 (by omega) (Nat.le_of_ble_eq_true rfl) (Nat.le_of_ble_eq_true rfl) dX6_init_659 (fun q7 H hP hD hS => ?_)
  have hP : va_P (fx_D X) vwCl [(a_o, .inr (5, [.ref q1, .ref q2, .int 0, .ref q3, .int 0, .ref q4, .ref q5, .ref q6, .null, .int 0, .null, .null, .int 0, .null, .int 0, .null, .null])), (q1, .inl (fx_cJ X, 98, .inr (.inl g98))), (q2, .inl (fx_cI X, 404, .inl (fun _ => 0))), (q3, .inl (fx_cI X, 404, .inl (fun _ => 0))), (q4, .inl (fx_cI X, 301, .inl (fun _ => 0))), (q5, .inl (fx_cI X, 301, .inl (fun _ => 0))), (q6, .inl (fx_cI X, 301, .inl (fun _ => 0))), (q7, .inl (fx_cI X, 903, .inl (fun _ => 0)))] H := hP
  have hD : va_D A [(a_o, .inr (5, [.ref q1, .ref q2, .int 0, .ref q3, .int 0, .ref q4, .ref q5, .ref q6, .null, .int 0, .null, .null, .int 0, .null, .int 0, .null, .null])), (q1, .inl (fx_cJ X, 98, .inr (.inl g98))), (q2, .inl (fx_cI X, 404, .inl (fun _ => 0))), (q3, .inl (fx_cI X, 404, .inl (fun _ => 0))), (q4, .inl (fx_cI X, 301, .inl (fun _ => 0))), (q5, .inl (fx_cI X, 301, .inl (fun _ => 0))), (q6, .inl (fx_cI X, 301, .inl (fun _ => 0))), (q7, .inl (fx_cI X, 903, .inl (fun _ => 0)))] := hD
  refine va_putF (D := fx_D X) (ci := 5) (v := .ref q7) (ty := (.array .int)) (C := RX6) (T := TX6) (N := 17) hx hb hts im_X6_init_X6 tyX6 tyX6_ok nmX6 hown hK hP hD hS 0 rfl rfl 8 (by decide) (hts (.fieldLink RX6 137 "ProofCheckerModel" "premises" "[I") (by decide +kernel)) (fun _ h9 => h9) rfl hin rfl (by decide +kernel) rfl rfl (Nat.le_of_ble_eq_true rfl) dX6_init_661 (fun H locs hP hD hS => ?_)
  have hP : va_P (fx_D X) vwCl [(a_o, .inr (5, [.ref q1, .ref q2, .int 0, .ref q3, .int 0, .ref q4, .ref q5, .ref q6, .ref q7, .int 0, .null, .null, .int 0, .null, .int 0, .null, .null])), (q1, .inl (fx_cJ X, 98, .inr (.inl g98))), (q2, .inl (fx_cI X, 404, .inl (fun _ => 0))), (q3, .inl (fx_cI X, 404, .inl (fun _ => 0))), (q4, .inl (fx_cI X, 301, .inl (fun _ => 0))), (q5, .inl (fx_cI X, 301, .inl (fun _ => 0))), (q6, .inl (fx_cI X, 301, .inl (fun _ => 0))), (q7, .inl (fx_cI X, 903, .inl (fun _ => 0)))] H := hP
  have hD : va_D A [(a_o, .inr (5, [.ref q1, .ref q2, .int 0, .ref q3, .int 0, .ref q4, .ref q5, .ref q6, .ref q7, .int 0, .null, .null, .int 0, .null, .int 0, .null, .null])), (q1, .inl (fx_cJ X, 98, .inr (.inl g98))), (q2, .inl (fx_cI X, 404, .inl (fun _ => 0))), (q3, .inl (fx_cI X, 404, .inl (fun _ => 0))), (q4, .inl (fx_cI X, 301, .inl (fun _ => 0))), (q5, .inl (fx_cI X, 301, .inl (fun _ => 0))), (q6, .inl (fx_cI X, 301, .inl (fun _ => 0))), (q7, .inl (fx_cI X, 903, .inl (fun _ => 0)))] := hD
  refine lv_aload_n hx hb dX6_init_664 rfl (lv_at hl 0 rfl) ?_
  refine lv_sipush (v := (nI 1204)) hx hb dX6_init_665 (by decide) ?_
  refine fx_newI hx hb (hts (.arrayClass .int) (by decide +kernel)) hK hP hD hS hA 1204 (by omega) (Nat.le_of_ble_eq_true rfl) (Nat.le_of_ble_eq_true rfl) dX6_init_668 (fun q8 H hP hD hS => ?_)
  have hP : va_P (fx_D X) vwCl [(a_o, .inr (5, [.ref q1, .ref q2, .int 0, .ref q3, .int 0, .ref q4, .ref q5, .ref q6, .ref q7, .int 0, .null, .null, .int 0, .null, .int 0, .null, .null])), (q1, .inl (fx_cJ X, 98, .inr (.inl g98))), (q2, .inl (fx_cI X, 404, .inl (fun _ => 0))), (q3, .inl (fx_cI X, 404, .inl (fun _ => 0))), (q4, .inl (fx_cI X, 301, .inl (fun _ => 0))), (q5, .inl (fx_cI X, 301, .inl (fun _ => 0))), (q6, .inl (fx_cI X, 301, .inl (fun _ => 0))), (q7, .inl (fx_cI X, 903, .inl (fun _ => 0))), (q8, .inl (fx_cI X, 1204, .inl (fun _ => 0)))] H := hP
  have hD : va_D A [(a_o, .inr (5, [.ref q1, .ref q2, .int 0, .ref q3, .int 0, .ref q4, .ref q5, .ref q6, .ref q7, .int 0, .null, .null, .int 0, .null, .int 0, .null, .null])), (q1, .inl (fx_cJ X, 98, .inr (.inl g98))), (q2, .inl (fx_cI X, 404, .inl (fun _ => 0))), (q3, .inl (fx_cI X, 404, .inl (fun _ => 0))), (q4, .inl (fx_cI X, 301, .inl (fun _ => 0))), (q5, .inl (fx_cI X, 301, .inl (fun _ => 0))), (q6, .inl (fx_cI X, 301, .inl (fun _ => 0))), (q7, .inl (fx_cI X, 903, .inl (fun _ => 0))), (q8, .inl (fx_cI X, 1204, .inl (fun _ => 0)))] := hD
  refine va_putF (D := fx_D X) (ci := 5) (v := .ref q8) (ty := (.array .int)) (C := RX6) (T := TX6) (N := 17) hx hb hts im_X6_init_X6 tyX6 tyX6_ok nmX6 hown hK hP hD hS 0 rfl rfl 10 (by decide) (hts (.fieldLink RX6 140 "ProofCheckerModel" "stated" "[I") (by decide +kernel)) (fun _ h9 => h9) rfl hin rfl (by decide +kernel) rfl rfl (Nat.le_of_ble_eq_true rfl) dX6_init_670 (fun H locs hP hD hS => ?_)
  have hP : va_P (fx_D X) vwCl [(a_o, .inr (5, [.ref q1, .ref q2, .int 0, .ref q3, .int 0, .ref q4, .ref q5, .ref q6, .ref q7, .int 0, .ref q8, .null, .int 0, .null, .int 0, .null, .null])), (q1, .inl (fx_cJ X, 98, .inr (.inl g98))), (q2, .inl (fx_cI X, 404, .inl (fun _ => 0))), (q3, .inl (fx_cI X, 404, .inl (fun _ => 0))), (q4, .inl (fx_cI X, 301, .inl (fun _ => 0))), (q5, .inl (fx_cI X, 301, .inl (fun _ => 0))), (q6, .inl (fx_cI X, 301, .inl (fun _ => 0))), (q7, .inl (fx_cI X, 903, .inl (fun _ => 0))), (q8, .inl (fx_cI X, 1204, .inl (fun _ => 0)))] H := hP
  have hD : va_D A [(a_o, .inr (5, [.ref q1, .ref q2, .int 0, .ref q3, .int 0, .ref q4, .ref q5, .ref q6, .ref q7, .int 0, .ref q8, .null, .int 0, .null, .int 0, .null, .null])), (q1, .inl (fx_cJ X, 98, .inr (.inl g98))), (q2, .inl (fx_cI X, 404, .inl (fun _ => 0))), (q3, .inl (fx_cI X, 404, .inl (fun _ => 0))), (q4, .inl (fx_cI X, 301, .inl (fun _ => 0))), (q5, .inl (fx_cI X, 301, .inl (fun _ => 0))), (q6, .inl (fx_cI X, 301, .inl (fun _ => 0))), (q7, .inl (fx_cI X, 903, .inl (fun _ => 0))), (q8, .inl (fx_cI X, 1204, .inl (fun _ => 0)))] := hD
  refine lv_aload_n hx hb dX6_init_673 rfl (lv_at hl 0 rfl) ?_
  refine lv_sipush (v := (nI 301)) hx hb dX6_init_674 (by decide) ?_
  refine fx_newZ hx hb (hts (.arrayClass .boolean) (by decide +kernel)) hK hP hD hS hA 301 (by omega) (Nat.le_of_ble_eq_true rfl) (Nat.le_of_ble_eq_true rfl) dX6_init_677 (fun q9 H hP hD hS => ?_)
  have hP : va_P (fx_D X) vwCl [(a_o, .inr (5, [.ref q1, .ref q2, .int 0, .ref q3, .int 0, .ref q4, .ref q5, .ref q6, .ref q7, .int 0, .ref q8, .null, .int 0, .null, .int 0, .null, .null])), (q1, .inl (fx_cJ X, 98, .inr (.inl g98))), (q2, .inl (fx_cI X, 404, .inl (fun _ => 0))), (q3, .inl (fx_cI X, 404, .inl (fun _ => 0))), (q4, .inl (fx_cI X, 301, .inl (fun _ => 0))), (q5, .inl (fx_cI X, 301, .inl (fun _ => 0))), (q6, .inl (fx_cI X, 301, .inl (fun _ => 0))), (q7, .inl (fx_cI X, 903, .inl (fun _ => 0))), (q8, .inl (fx_cI X, 1204, .inl (fun _ => 0))), (q9, .inl (fx_cZ X, 301, .inl (fun _ => 0)))] H := hP
  have hD : va_D A [(a_o, .inr (5, [.ref q1, .ref q2, .int 0, .ref q3, .int 0, .ref q4, .ref q5, .ref q6, .ref q7, .int 0, .ref q8, .null, .int 0, .null, .int 0, .null, .null])), (q1, .inl (fx_cJ X, 98, .inr (.inl g98))), (q2, .inl (fx_cI X, 404, .inl (fun _ => 0))), (q3, .inl (fx_cI X, 404, .inl (fun _ => 0))), (q4, .inl (fx_cI X, 301, .inl (fun _ => 0))), (q5, .inl (fx_cI X, 301, .inl (fun _ => 0))), (q6, .inl (fx_cI X, 301, .inl (fun _ => 0))), (q7, .inl (fx_cI X, 903, .inl (fun _ => 0))), (q8, .inl (fx_cI X, 1204, .inl (fun _ => 0))), (q9, .inl (fx_cZ X, 301, .inl (fun _ => 0)))] := hD
  refine va_putF (D := fx_D X) (ci := 5) (v := .ref q9) (ty := (.array .boolean)) (C := RX6) (T := TX6) (N := 17) hx hb hts im_X6_init_X6 tyX6 tyX6_ok nmX6 hown hK hP hD hS 0 rfl rfl 11 (by decide) (hts (.fieldLink RX6 143 "ProofCheckerModel" "marks" "[Z") (by decide +kernel)) (fun _ h9 => h9) rfl hin rfl (by decide +kernel) rfl rfl (Nat.le_of_ble_eq_true rfl) dX6_init_679 (fun H locs hP hD hS => ?_)
  have hP : va_P (fx_D X) vwCl [(a_o, .inr (5, [.ref q1, .ref q2, .int 0, .ref q3, .int 0, .ref q4, .ref q5, .ref q6, .ref q7, .int 0, .ref q8, .ref q9, .int 0, .null, .int 0, .null, .null])), (q1, .inl (fx_cJ X, 98, .inr (.inl g98))), (q2, .inl (fx_cI X, 404, .inl (fun _ => 0))), (q3, .inl (fx_cI X, 404, .inl (fun _ => 0))), (q4, .inl (fx_cI X, 301, .inl (fun _ => 0))), (q5, .inl (fx_cI X, 301, .inl (fun _ => 0))), (q6, .inl (fx_cI X, 301, .inl (fun _ => 0))), (q7, .inl (fx_cI X, 903, .inl (fun _ => 0))), (q8, .inl (fx_cI X, 1204, .inl (fun _ => 0))), (q9, .inl (fx_cZ X, 301, .inl (fun _ => 0)))] H := hP
  have hD : va_D A [(a_o, .inr (5, [.ref q1, .ref q2, .int 0, .ref q3, .int 0, .ref q4, .ref q5, .ref q6, .ref q7, .int 0, .ref q8, .ref q9, .int 0, .null, .int 0, .null, .null])), (q1, .inl (fx_cJ X, 98, .inr (.inl g98))), (q2, .inl (fx_cI X, 404, .inl (fun _ => 0))), (q3, .inl (fx_cI X, 404, .inl (fun _ => 0))), (q4, .inl (fx_cI X, 301, .inl (fun _ => 0))), (q5, .inl (fx_cI X, 301, .inl (fun _ => 0))), (q6, .inl (fx_cI X, 301, .inl (fun _ => 0))), (q7, .inl (fx_cI X, 903, .inl (fun _ => 0))), (q8, .inl (fx_cI X, 1204, .inl (fun _ => 0))), (q9, .inl (fx_cZ X, 301, .inl (fun _ => 0)))] := hD
  refine lv_aload_n hx hb dX6_init_682 rfl (lv_at hl 0 rfl) ?_
  refine lv_sipush (v := (nI 400)) hx hb dX6_init_683 (by decide) ?_
  refine fx_newI hx hb (hts (.arrayClass .int) (by decide +kernel)) hK hP hD hS hA 400 (by omega) (Nat.le_of_ble_eq_true rfl) (Nat.le_of_ble_eq_true rfl) dX6_init_686 (fun q10 H hP hD hS => ?_)
  have hP : va_P (fx_D X) vwCl [(a_o, .inr (5, [.ref q1, .ref q2, .int 0, .ref q3, .int 0, .ref q4, .ref q5, .ref q6, .ref q7, .int 0, .ref q8, .ref q9, .int 0, .null, .int 0, .null, .null])), (q1, .inl (fx_cJ X, 98, .inr (.inl g98))), (q2, .inl (fx_cI X, 404, .inl (fun _ => 0))), (q3, .inl (fx_cI X, 404, .inl (fun _ => 0))), (q4, .inl (fx_cI X, 301, .inl (fun _ => 0))), (q5, .inl (fx_cI X, 301, .inl (fun _ => 0))), (q6, .inl (fx_cI X, 301, .inl (fun _ => 0))), (q7, .inl (fx_cI X, 903, .inl (fun _ => 0))), (q8, .inl (fx_cI X, 1204, .inl (fun _ => 0))), (q9, .inl (fx_cZ X, 301, .inl (fun _ => 0))), (q10, .inl (fx_cI X, 400, .inl (fun _ => 0)))] H := hP
  have hD : va_D A [(a_o, .inr (5, [.ref q1, .ref q2, .int 0, .ref q3, .int 0, .ref q4, .ref q5, .ref q6, .ref q7, .int 0, .ref q8, .ref q9, .int 0, .null, .int 0, .null, .null])), (q1, .inl (fx_cJ X, 98, .inr (.inl g98))), (q2, .inl (fx_cI X, 404, .inl (fun _ => 0))), (q3, .inl (fx_cI X, 404, .inl (fun _ => 0))), (q4, .inl (fx_cI X, 301, .inl (fun _ => 0))), (q5, .inl (fx_cI X, 301, .inl (fun _ => 0))), (q6, .inl (fx_cI X, 301, .inl (fun _ => 0))), (q7, .inl (fx_cI X, 903, .inl (fun _ => 0))), (q8, .inl (fx_cI X, 1204, .inl (fun _ => 0))), (q9, .inl (fx_cZ X, 301, .inl (fun _ => 0))), (q10, .inl (fx_cI X, 400, .inl (fun _ => 0)))] := hD
  refine va_putF (D := fx_D X) (ci := 5) (v := .ref q10) (ty := (.array .int)) (C := RX6) (T := TX6) (N := 17) hx hb hts im_X6_init_X6 tyX6 tyX6_ok nmX6 hown hK hP hD hS 0 rfl rfl 13 (by decide) (hts (.fieldLink RX6 147 "ProofCheckerModel" "text" "[I") (by decide +kernel)) (fun _ h9 => h9) rfl hin rfl (by decide +kernel) rfl rfl (Nat.le_of_ble_eq_true rfl) dX6_init_688 (fun H locs hP hD hS => ?_)
  have hP : va_P (fx_D X) vwCl [(a_o, .inr (5, [.ref q1, .ref q2, .int 0, .ref q3, .int 0, .ref q4, .ref q5, .ref q6, .ref q7, .int 0, .ref q8, .ref q9, .int 0, .ref q10, .int 0, .null, .null])), (q1, .inl (fx_cJ X, 98, .inr (.inl g98))), (q2, .inl (fx_cI X, 404, .inl (fun _ => 0))), (q3, .inl (fx_cI X, 404, .inl (fun _ => 0))), (q4, .inl (fx_cI X, 301, .inl (fun _ => 0))), (q5, .inl (fx_cI X, 301, .inl (fun _ => 0))), (q6, .inl (fx_cI X, 301, .inl (fun _ => 0))), (q7, .inl (fx_cI X, 903, .inl (fun _ => 0))), (q8, .inl (fx_cI X, 1204, .inl (fun _ => 0))), (q9, .inl (fx_cZ X, 301, .inl (fun _ => 0))), (q10, .inl (fx_cI X, 400, .inl (fun _ => 0)))] H := hP
  have hD : va_D A [(a_o, .inr (5, [.ref q1, .ref q2, .int 0, .ref q3, .int 0, .ref q4, .ref q5, .ref q6, .ref q7, .int 0, .ref q8, .ref q9, .int 0, .ref q10, .int 0, .null, .null])), (q1, .inl (fx_cJ X, 98, .inr (.inl g98))), (q2, .inl (fx_cI X, 404, .inl (fun _ => 0))), (q3, .inl (fx_cI X, 404, .inl (fun _ => 0))), (q4, .inl (fx_cI X, 301, .inl (fun _ => 0))), (q5, .inl (fx_cI X, 301, .inl (fun _ => 0))), (q6, .inl (fx_cI X, 301, .inl (fun _ => 0))), (q7, .inl (fx_cI X, 903, .inl (fun _ => 0))), (q8, .inl (fx_cI X, 1204, .inl (fun _ => 0))), (q9, .inl (fx_cZ X, 301, .inl (fun _ => 0))), (q10, .inl (fx_cI X, 400, .inl (fun _ => 0)))] := hD
  refine lv_aload_n hx hb dX6_init_691 rfl (lv_at hl 0 rfl) ?_
  refine lv_sipush (v := (nI 301)) hx hb dX6_init_692 (by decide) ?_
  refine fx_newI hx hb (hts (.arrayClass .int) (by decide +kernel)) hK hP hD hS hA 301 (by omega) (Nat.le_of_ble_eq_true rfl) (Nat.le_of_ble_eq_true rfl) dX6_init_695 (fun q11 H hP hD hS => ?_)
  have hP : va_P (fx_D X) vwCl [(a_o, .inr (5, [.ref q1, .ref q2, .int 0, .ref q3, .int 0, .ref q4, .ref q5, .ref q6, .ref q7, .int 0, .ref q8, .ref q9, .int 0, .ref q10, .int 0, .null, .null])), (q1, .inl (fx_cJ X, 98, .inr (.inl g98))), (q2, .inl (fx_cI X, 404, .inl (fun _ => 0))), (q3, .inl (fx_cI X, 404, .inl (fun _ => 0))), (q4, .inl (fx_cI X, 301, .inl (fun _ => 0))), (q5, .inl (fx_cI X, 301, .inl (fun _ => 0))), (q6, .inl (fx_cI X, 301, .inl (fun _ => 0))), (q7, .inl (fx_cI X, 903, .inl (fun _ => 0))), (q8, .inl (fx_cI X, 1204, .inl (fun _ => 0))), (q9, .inl (fx_cZ X, 301, .inl (fun _ => 0))), (q10, .inl (fx_cI X, 400, .inl (fun _ => 0))), (q11, .inl (fx_cI X, 301, .inl (fun _ => 0)))] H := hP
  have hD : va_D A [(a_o, .inr (5, [.ref q1, .ref q2, .int 0, .ref q3, .int 0, .ref q4, .ref q5, .ref q6, .ref q7, .int 0, .ref q8, .ref q9, .int 0, .ref q10, .int 0, .null, .null])), (q1, .inl (fx_cJ X, 98, .inr (.inl g98))), (q2, .inl (fx_cI X, 404, .inl (fun _ => 0))), (q3, .inl (fx_cI X, 404, .inl (fun _ => 0))), (q4, .inl (fx_cI X, 301, .inl (fun _ => 0))), (q5, .inl (fx_cI X, 301, .inl (fun _ => 0))), (q6, .inl (fx_cI X, 301, .inl (fun _ => 0))), (q7, .inl (fx_cI X, 903, .inl (fun _ => 0))), (q8, .inl (fx_cI X, 1204, .inl (fun _ => 0))), (q9, .inl (fx_cZ X, 301, .inl (fun _ => 0))), (q10, .inl (fx_cI X, 400, .inl (fun _ => 0))), (q11, .inl (fx_cI X, 301, .inl (fun _ => 0)))] := hD
  refine va_putF (D := fx_D X) (ci := 5) (v := .ref q11) (ty := (.array .int)) (C := RX6) (T := TX6) (N := 17) hx hb hts im_X6_init_X6 tyX6 tyX6_ok nmX6 hown hK hP hD hS 0 rfl rfl 15 (by decide) (hts (.fieldLink RX6 150 "ProofCheckerModel" "sizes" "[I") (by decide +kernel)) (fun _ h9 => h9) rfl hin rfl (by decide +kernel) rfl rfl (Nat.le_of_ble_eq_true rfl) dX6_init_697 (fun H locs hP hD hS => ?_)
  have hP : va_P (fx_D X) vwCl [(a_o, .inr (5, [.ref q1, .ref q2, .int 0, .ref q3, .int 0, .ref q4, .ref q5, .ref q6, .ref q7, .int 0, .ref q8, .ref q9, .int 0, .ref q10, .int 0, .ref q11, .null])), (q1, .inl (fx_cJ X, 98, .inr (.inl g98))), (q2, .inl (fx_cI X, 404, .inl (fun _ => 0))), (q3, .inl (fx_cI X, 404, .inl (fun _ => 0))), (q4, .inl (fx_cI X, 301, .inl (fun _ => 0))), (q5, .inl (fx_cI X, 301, .inl (fun _ => 0))), (q6, .inl (fx_cI X, 301, .inl (fun _ => 0))), (q7, .inl (fx_cI X, 903, .inl (fun _ => 0))), (q8, .inl (fx_cI X, 1204, .inl (fun _ => 0))), (q9, .inl (fx_cZ X, 301, .inl (fun _ => 0))), (q10, .inl (fx_cI X, 400, .inl (fun _ => 0))), (q11, .inl (fx_cI X, 301, .inl (fun _ => 0)))] H := hP
  have hD : va_D A [(a_o, .inr (5, [.ref q1, .ref q2, .int 0, .ref q3, .int 0, .ref q4, .ref q5, .ref q6, .ref q7, .int 0, .ref q8, .ref q9, .int 0, .ref q10, .int 0, .ref q11, .null])), (q1, .inl (fx_cJ X, 98, .inr (.inl g98))), (q2, .inl (fx_cI X, 404, .inl (fun _ => 0))), (q3, .inl (fx_cI X, 404, .inl (fun _ => 0))), (q4, .inl (fx_cI X, 301, .inl (fun _ => 0))), (q5, .inl (fx_cI X, 301, .inl (fun _ => 0))), (q6, .inl (fx_cI X, 301, .inl (fun _ => 0))), (q7, .inl (fx_cI X, 903, .inl (fun _ => 0))), (q8, .inl (fx_cI X, 1204, .inl (fun _ => 0))), (q9, .inl (fx_cZ X, 301, .inl (fun _ => 0))), (q10, .inl (fx_cI X, 400, .inl (fun _ => 0))), (q11, .inl (fx_cI X, 301, .inl (fun _ => 0)))] := hD
  refine lv_aload_n hx hb dX6_init_700 rfl (lv_at hl 0 rfl) ?_
  refine lv_sipush (v := (nI 301)) hx hb dX6_init_701 (by decide) ?_
  refine fx_newI hx hb (hts (.arrayClass .int) (by decide +kernel)) hK hP hD hS hA 301 (by omega) (Nat.le_of_ble_eq_true rfl) (Nat.le_of_ble_eq_true rfl) dX6_init_704 (fun q12 H hP hD hS => ?_)
  have hP : va_P (fx_D X) vwCl [(a_o, .inr (5, [.ref q1, .ref q2, .int 0, .ref q3, .int 0, .ref q4, .ref q5, .ref q6, .ref q7, .int 0, .ref q8, .ref q9, .int 0, .ref q10, .int 0, .ref q11, .null])), (q1, .inl (fx_cJ X, 98, .inr (.inl g98))), (q2, .inl (fx_cI X, 404, .inl (fun _ => 0))), (q3, .inl (fx_cI X, 404, .inl (fun _ => 0))), (q4, .inl (fx_cI X, 301, .inl (fun _ => 0))), (q5, .inl (fx_cI X, 301, .inl (fun _ => 0))), (q6, .inl (fx_cI X, 301, .inl (fun _ => 0))), (q7, .inl (fx_cI X, 903, .inl (fun _ => 0))), (q8, .inl (fx_cI X, 1204, .inl (fun _ => 0))), (q9, .inl (fx_cZ X, 301, .inl (fun _ => 0))), (q10, .inl (fx_cI X, 400, .inl (fun _ => 0))), (q11, .inl (fx_cI X, 301, .inl (fun _ => 0))), (q12, .inl (fx_cI X, 301, .inl (fun _ => 0)))] H := hP
  have hD : va_D A [(a_o, .inr (5, [.ref q1, .ref q2, .int 0, .ref q3, .int 0, .ref q4, .ref q5, .ref q6, .ref q7, .int 0, .ref q8, .ref q9, .int 0, .ref q10, .int 0, .ref q11, .null])), (q1, .inl (fx_cJ X, 98, .inr (.inl g98))), (q2, .inl (fx_cI X, 404, .inl (fun _ => 0))), (q3, .inl (fx_cI X, 404, .inl (fun _ => 0))), (q4, .inl (fx_cI X, 301, .inl (fun _ => 0))), (q5, .inl (fx_cI X, 301, .inl (fun _ => 0))), (q6, .inl (fx_cI X, 301, .inl (fun _ => 0))), (q7, .inl (fx_cI X, 903, .inl (fun _ => 0))), (q8, .inl (fx_cI X, 1204, .inl (fun _ => 0))), (q9, .inl (fx_cZ X, 301, .inl (fun _ => 0))), (q10, .inl (fx_cI X, 400, .inl (fun _ => 0))), (q11, .inl (fx_cI X, 301, .inl (fun _ => 0))), (q12, .inl (fx_cI X, 301, .inl (fun _ => 0)))] := hD
  refine va_putF (D := fx_D X) (ci := 5) (v := .ref q12) (ty := (.array .int)) (C := RX6) (T := TX6) (N := 17) hx hb hts im_X6_init_X6 tyX6 tyX6_ok nmX6 hown hK hP hD hS 0 rfl rfl 16 (by decide) (hts (.fieldLink RX6 153 "ProofCheckerModel" "places" "[I") (by decide +kernel)) (fun _ h9 => h9) rfl hin rfl (by decide +kernel) rfl rfl (Nat.le_of_ble_eq_true rfl) dX6_init_706 (fun H locs hP hD hS => ?_)
  have hP : va_P (fx_D X) vwCl [(a_o, .inr (5, [.ref q1, .ref q2, .int 0, .ref q3, .int 0, .ref q4, .ref q5, .ref q6, .ref q7, .int 0, .ref q8, .ref q9, .int 0, .ref q10, .int 0, .ref q11, .ref q12])), (q1, .inl (fx_cJ X, 98, .inr (.inl g98))), (q2, .inl (fx_cI X, 404, .inl (fun _ => 0))), (q3, .inl (fx_cI X, 404, .inl (fun _ => 0))), (q4, .inl (fx_cI X, 301, .inl (fun _ => 0))), (q5, .inl (fx_cI X, 301, .inl (fun _ => 0))), (q6, .inl (fx_cI X, 301, .inl (fun _ => 0))), (q7, .inl (fx_cI X, 903, .inl (fun _ => 0))), (q8, .inl (fx_cI X, 1204, .inl (fun _ => 0))), (q9, .inl (fx_cZ X, 301, .inl (fun _ => 0))), (q10, .inl (fx_cI X, 400, .inl (fun _ => 0))), (q11, .inl (fx_cI X, 301, .inl (fun _ => 0))), (q12, .inl (fx_cI X, 301, .inl (fun _ => 0)))] H := hP
  have hD : va_D A [(a_o, .inr (5, [.ref q1, .ref q2, .int 0, .ref q3, .int 0, .ref q4, .ref q5, .ref q6, .ref q7, .int 0, .ref q8, .ref q9, .int 0, .ref q10, .int 0, .ref q11, .ref q12])), (q1, .inl (fx_cJ X, 98, .inr (.inl g98))), (q2, .inl (fx_cI X, 404, .inl (fun _ => 0))), (q3, .inl (fx_cI X, 404, .inl (fun _ => 0))), (q4, .inl (fx_cI X, 301, .inl (fun _ => 0))), (q5, .inl (fx_cI X, 301, .inl (fun _ => 0))), (q6, .inl (fx_cI X, 301, .inl (fun _ => 0))), (q7, .inl (fx_cI X, 903, .inl (fun _ => 0))), (q8, .inl (fx_cI X, 1204, .inl (fun _ => 0))), (q9, .inl (fx_cZ X, 301, .inl (fun _ => 0))), (q10, .inl (fx_cI X, 400, .inl (fun _ => 0))), (q11, .inl (fx_cI X, 301, .inl (fun _ => 0))), (q12, .inl (fx_cI X, 301, .inl (fun _ => 0)))] := hD
  refine W.widen (k := 12) (n := 5219) (by omega) (by omega) ?_
  exact W.vret hx hb hr (fun t ht hW => ⟨⟨(g98, q1, q2, q3, q4, q5, q6, q7, q8, q9, q10, q11, q12), rfl, h, by rw [ht]; exact hP, va_K.moved hW.alike hK, hD⟩, hS.F ht⟩) hS.2.2 dX6_init_709

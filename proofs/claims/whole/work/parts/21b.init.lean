theorem c_X3_init (l : Launch) (G : pw_G) (X : va_W) (L : List Nat) (F : Nat → va_E) (b : Nat) : PM l yX3_init wsX3_init ⟨1, 0, 0, 40⟩ G [.ref b] X L F 0 0 (po_d none X L F) := by
  refine pm_entry (by decide) rfl rfl (Nat.le_of_ble_eq_true rfl) ?_
  intro Z Q C hl0 hG0 hnm hE
  subst hl0
  subst hG0
  have w0_ : Cond.methodLink RX3 3 objectInit ∈ wsX3_init := by decide +kernel
  have w1_ : Cond.instanceMethod objectInit ∈ wsX3_init := by decide +kernel
  have w2_ : Cond.code objectInit ⟨#[0xb1]⟩ 1 none ∈ wsX3_init := by decide +kernel
  show PW Z X L F 0 0 Q 0 [(0, .ref b)] []
  refine pk_aload_n C 0 dX3_init_0 rfl rfl (pc2 := 1) rfl ?_
  refine pk_objInit C w0_ w1_ w2_ (Nat.le_of_ble_eq_true rfl) (Nat.le_of_ble_eq_true rfl) dX3_init_1 (pc2 := 4) rfl ?_
  exact pr_void C hE ⟨rfl, rfl, rfl, rfl⟩ dX3_init_4
set_option maxRecDepth 100000 in
set_option maxHeartbeats 2000000 in
theorem c_X0_init (l : Launch) (G : pw_G) (F : Nat → va_E) (a : Nat) : PM l yX0_init wsX0_init ⟨2, 1, 6, 80⟩ G [.ref a] [(a, .inr (0, [.null, .int 0, .int 0, .long 0, .long 0, .long 0, .long 0, .long 0, .int 0, .int 0, .int 0, .int 0, .long 0, .long 0, .long 0]))] [] F 1 6 (fun v X' L' F' => v = none ∧ (∃ b : Nat, X' = [(a, cC b (C_mk 0 0 0 0 0 0 0 0 0 0 0 0 0 0)), (b, cS (S_mk 0 0 0 0 0 0))]) ∧ L' = [] ∧ F' = F) := by
  refine pm_entry (by decide) rfl rfl (Nat.le_of_ble_eq_true rfl) ?_
  intro Z Q C hl0 hG0 hnm hE
  subst hl0
  subst hG0
  have i3_ : ∀ w ∈ wsX30, w ∈ wsX0_init := by decide +kernel
  have i0_ : ∀ w ∈ wsX00, w ∈ wsX0_init := by decide +kernel
  have w0_ : Cond.methodLink RX0 3 objectInit ∈ wsX0_init := by decide +kernel
  have w1_ : Cond.instanceMethod objectInit ∈ wsX0_init := by decide +kernel
  have w2_ : Cond.code objectInit ⟨#[0xb1]⟩ 1 none ∈ wsX0_init := by decide +kernel
  have w3_ : Cond.classLink RX0 9 RX3 ∈ wsX0_init := by decide +kernel
  have w4_ : Cond.instantiable RX3 6 ∈ wsX0_init := by decide +kernel
  have w5_ : Cond.initialized RX3 ∈ wsX0_init := by decide +kernel
  have w6_ : Cond.methodLinkNest RX0 11 yX3_init RX4 ∈ pw_N := by decide +kernel
  have w7_ : Cond.instanceMethod yX3_init ∈ wsX0_init := by decide +kernel
  have w8_ : Cond.fieldLink RX0 12 "AgedAssets$Course" "stretch" "LAgedAssets$Stretch;" ∈ wsX0_init := by decide +kernel
  show PW Z [(a, .inr (0, [.null, .int 0, .int 0, .long 0, .long 0, .long 0, .long 0, .long 0, .int 0, .int 0, .int 0, .int 0, .long 0, .long 0, .long 0]))] [] F 0 0 Q 0 [(0, .ref a)] []
  refine pk_aload_n C 0 dX0_init_0 rfl rfl (pc2 := 1) rfl ?_
  refine pk_objInit C w0_ w1_ w2_ (Nat.le_of_ble_eq_true rfl) (Nat.le_of_ble_eq_true rfl) dX0_init_1 (pc2 := 4) rfl ?_
  refine pk_aload_n C 0 dX0_init_4 rfl rfl (pc2 := 5) rfl ?_
  refine pk_newX (X := [(a, .inr (0, [.null, .int 0, .int 0, .long 0, .long 0, .long 0, .long 0, .long 0, .int 0, .int 0, .int 0, .int 0, .long 0, .long 0, .long 0]))]) (ci := 3) (fs := [.long 0, .long 0, .long 0, .long 0, .long 0, .long 0]) C tyX3 i3_ tyX3_ok w3_ w4_ w5_ rfl (fun j hj => by rcases (show j = 0 ∨ j = 1 ∨ j = 2 ∨ j = 3 ∨ j = 4 ∨ j = 5 by omega) with rfl | rfl | rfl | rfl | rfl | rfl <;> rfl) (Nat.le_of_ble_eq_true rfl) (Nat.le_of_ble_eq_true rfl) dX0_init_5 (pc2 := 8) rfl (fun b => ?_)
  refine pk_dup C dX0_init_8 rfl (pc2 := 9) rfl ?_
  refine pk_callIN (X := [(a, .inr (0, [.null, .int 0, .int 0, .long 0, .long 0, .long 0, .long 0, .long 0, .int 0, .int 0, .int 0, .int 0, .long 0, .long 0, .long 0])), (b, .inr (3, [.long 0, .long 0, .long 0, .long 0, .long 0, .long 0]))]) (cx := [(b, .inr (3, [.long 0, .long 0, .long 0, .long 0, .long 0, .long 0]))]) (wr := [(a, .inr (0, [.null, .int 0, .int 0, .long 0, .long 0, .long 0, .long 0, .long 0, .int 0, .int 0, .int 0, .int 0, .long 0, .long 0, .long 0]))]) (As := []) (st := [.ref b, .ref a]) C (c_X3_init (zl Z) (zG Z) [(b, .inr (3, [.long 0, .long 0, .long 0, .long 0, .long 0, .long 0]))] [] F b) gX0_init_X3_init_n11 rfl w6_ w7_ w5_ rfl rfl rfl 0 (by decide +kernel) ⟨(Nat.le_of_ble_eq_true rfl), (Nat.le_of_ble_eq_true rfl)⟩ rfl rfl (Nat.le_of_ble_eq_true rfl) ⟨(Nat.le_of_ble_eq_true rfl), (Nat.le_of_ble_eq_true rfl)⟩ [1] [0] rfl rfl rfl rfl (by decide) dX0_init_9 (pc2 := 12) rfl (fun v X' L' F' ho => ?_)
  obtain ⟨rfl, rfl, rfl, rfl⟩ := ho
  refine pk_putFX (X := [(a, .inr (0, [.null, .int 0, .int 0, .long 0, .long 0, .long 0, .long 0, .long 0, .int 0, .int 0, .int 0, .int 0, .long 0, .long 0, .long 0])), (b, .inr (3, [.long 0, .long 0, .long 0, .long 0, .long 0, .long 0]))]) (X' := [(a, .inr (0, [.ref b, .int 0, .int 0, .long 0, .long 0, .long 0, .long 0, .long 0, .int 0, .int 0, .int 0, .int 0, .long 0, .long 0, .long 0])), (b, .inr (3, [.long 0, .long 0, .long 0, .long 0, .long 0, .long 0]))]) C hnm i0_ tyX0_ok nmX0 0 rfl (ci := 0) rfl 0 (by decide) w8_ rfl rfl rfl rfl rfl rfl (Nat.le_of_ble_eq_true rfl) rfl dX0_init_12 (pc2 := 15) rfl ?_
  exact pr_void C hE ⟨rfl, ⟨b, rfl⟩, rfl, rfl⟩ dX0_init_15
set_option maxRecDepth 100000 in
set_option maxHeartbeats 2000000 in
theorem c_X4_init (l : Launch) (G : pw_G) (F : Nat → va_E) (x : Nat) : EM l yX4_init wsX4_init ⟨3, 6, 88, 120⟩ G [.ref x] [(x, .inr (4, [.null, .null, .null, .null, .int 0, .int 0, .int 0]))] [] F 6 88 (fun v X' L' F' => v = none ∧ (∃ rf : Nat → Nat, X' = aX G x rf (A_mk 0 0 0) (fun _ => none) (fun _ => none) (C_mk 0 0 0 0 0 0 0 0 0 0 0 0 0 0) (S_mk 0 0 0 0 0 0) (C_mk 0 0 0 0 0 0 0 0 0 0 0 0 0 0) (S_mk 0 0 0 0 0 0)) ∧ L' = [] ∧ F' = F) := by
  refine em_entry (by decide) rfl rfl (Nat.le_of_ble_eq_true rfl) ?_
  intro Z Q C hl0 hG0 hnm hX hE
  subst hl0
  subst hG0
  have i4_ : ∀ w ∈ wsX40, w ∈ wsX4_init := by decide +kernel
  have i0_ : ∀ w ∈ wsX00, w ∈ wsX4_init := by decide +kernel
  have w0_ : Cond.methodLink RX4 1 objectInit ∈ wsX4_init := by decide +kernel
  have w1_ : Cond.instanceMethod objectInit ∈ wsX4_init := by decide +kernel
  have w2_ : Cond.code objectInit ⟨#[0xb1]⟩ 1 none ∈ wsX4_init := by decide +kernel
  have w3_ : Cond.classLink RX4 9 RX2 ∈ wsX4_init := by decide +kernel
  have w4_ : Cond.fieldLink RX4 11 "AgedAssets" "partRow" "[LAgedAssets$Part;" ∈ wsX4_init := by decide +kernel
  have w5_ : Cond.classLink RX4 15 RX1 ∈ wsX4_init := by decide +kernel
  have w6_ : Cond.fieldLink RX4 17 "AgedAssets" "eventRow" "[LAgedAssets$Event;" ∈ wsX4_init := by decide +kernel
  have w7_ : Cond.classLink RX4 21 RX0 ∈ wsX4_init := by decide +kernel
  have w8_ : Cond.instantiable RX0 15 ∈ wsX4_init := by decide +kernel
  have w9_ : Cond.initialized RX0 ∈ wsX4_init := by decide +kernel
  have w10_ : Cond.methodLink RX4 23 yX0_init ∈ wsX4_init := by decide +kernel
  have w11_ : Cond.instanceMethod yX0_init ∈ wsX4_init := by decide +kernel
  have w12_ : Cond.fieldLink RX4 24 "AgedAssets" "full" "LAgedAssets$Course;" ∈ wsX4_init := by decide +kernel
  have w13_ : Cond.fieldLink RX4 28 "AgedAssets" "bare" "LAgedAssets$Course;" ∈ wsX4_init := by decide +kernel
  show PW Z [(x, .inr (4, [.null, .null, .null, .null, .int 0, .int 0, .int 0]))] [] F 0 0 Q 0 [(0, .ref x)] []
  refine pk_aload_n C 0 dX4_init_0 rfl rfl (pc2 := 1) rfl ?_
  refine pk_objInit C w0_ w1_ w2_ (Nat.le_of_ble_eq_true rfl) (Nat.le_of_ble_eq_true rfl) dX4_init_1 (pc2 := 4) rfl ?_
  refine pk_aload_n C 0 dX4_init_4 rfl rfl (pc2 := 5) rfl ?_
  refine pk_bipush (v := 6) C dX4_init_5 (by decide) (pc2 := 7) rfl ?_
  refine pk_newqPX (X := [(x, .inr (4, [.null, .null, .null, .null, .int 0, .int 0, .int 0]))]) (N := 6) C w3_ hX.2.2.2.2.2.2 (by decide) (by decide) (Nat.le_of_ble_eq_true rfl) (Nat.le_of_ble_eq_true rfl) (Nat.le_of_ble_eq_true rfl) dX4_init_7 (pc2 := 10) rfl (fun r0 => ?_)
  refine pk_putFX (X := [(x, .inr (4, [.null, .null, .null, .null, .int 0, .int 0, .int 0])), (r0, .inl ((zG Z).2.2.2.2, 6, .inr (.inr (.inr (.inr (fun _ => none))))))]) (X' := [(x, .inr (4, [.ref r0, .null, .null, .null, .int 0, .int 0, .int 0])), (r0, .inl ((zG Z).2.2.2.2, 6, .inr (.inr (.inr (.inr (fun _ => none))))))]) C hnm i4_ tyX4_ok nmX4 0 rfl (ci := 4) rfl 0 (by decide) w4_ rfl rfl rfl rfl rfl rfl (Nat.le_of_ble_eq_true rfl) rfl dX4_init_10 (pc2 := 13) rfl ?_
  refine pk_aload_n C 0 dX4_init_13 rfl rfl (pc2 := 14) rfl ?_
  refine pk_bipush (v := 40) C dX4_init_14 (by decide) (pc2 := 16) rfl ?_
  refine pk_newqEX (X := [(x, .inr (4, [.ref r0, .null, .null, .null, .int 0, .int 0, .int 0])), (r0, .inl ((zG Z).2.2.2.2, 6, .inr (.inr (.inr (.inr (fun _ => none))))))]) (N := 40) C w5_ hX.2.2.2.2.2.1 (by decide) (by decide) (Nat.le_of_ble_eq_true rfl) (Nat.le_of_ble_eq_true rfl) (Nat.le_of_ble_eq_true rfl) dX4_init_16 (pc2 := 19) rfl (fun r1 => ?_)
  refine pk_putFX (X := [(x, .inr (4, [.ref r0, .null, .null, .null, .int 0, .int 0, .int 0])), (r0, .inl ((zG Z).2.2.2.2, 6, .inr (.inr (.inr (.inr (fun _ => none)))))), (r1, .inl ((zG Z).2.2.2.1, 40, .inr (.inr (.inr (.inr (fun _ => none))))))]) (X' := [(x, .inr (4, [.ref r0, .ref r1, .null, .null, .int 0, .int 0, .int 0])), (r0, .inl ((zG Z).2.2.2.2, 6, .inr (.inr (.inr (.inr (fun _ => none)))))), (r1, .inl ((zG Z).2.2.2.1, 40, .inr (.inr (.inr (.inr (fun _ => none))))))]) C hnm i4_ tyX4_ok nmX4 0 rfl (ci := 4) rfl 1 (by decide) w6_ rfl rfl rfl rfl rfl rfl (Nat.le_of_ble_eq_true rfl) rfl dX4_init_19 (pc2 := 22) rfl ?_
  refine pk_aload_n C 0 dX4_init_22 rfl rfl (pc2 := 23) rfl ?_
  refine pk_newX (X := [(x, .inr (4, [.ref r0, .ref r1, .null, .null, .int 0, .int 0, .int 0])), (r0, .inl ((zG Z).2.2.2.2, 6, .inr (.inr (.inr (.inr (fun _ => none)))))), (r1, .inl ((zG Z).2.2.2.1, 40, .inr (.inr (.inr (.inr (fun _ => none))))))]) (ci := 0) (fs := [.null, .int 0, .int 0, .long 0, .long 0, .long 0, .long 0, .long 0, .int 0, .int 0, .int 0, .int 0, .long 0, .long 0, .long 0]) C tyX0 i0_ tyX0_ok w7_ w8_ w9_ rfl (fun j hj => by rcases (show j = 0 ∨ j = 1 ∨ j = 2 ∨ j = 3 ∨ j = 4 ∨ j = 5 ∨ j = 6 ∨ j = 7 ∨ j = 8 ∨ j = 9 ∨ j = 10 ∨ j = 11 ∨ j = 12 ∨ j = 13 ∨ j = 14 by omega) with rfl | rfl | rfl | rfl | rfl | rfl | rfl | rfl | rfl | rfl | rfl | rfl | rfl | rfl | rfl <;> rfl) (Nat.le_of_ble_eq_true rfl) (Nat.le_of_ble_eq_true rfl) dX4_init_23 (pc2 := 26) rfl (fun r2 => ?_)
  refine pk_dup C dX4_init_26 rfl (pc2 := 27) rfl ?_
  refine pk_callI (X := [(x, .inr (4, [.ref r0, .ref r1, .null, .null, .int 0, .int 0, .int 0])), (r0, .inl ((zG Z).2.2.2.2, 6, .inr (.inr (.inr (.inr (fun _ => none)))))), (r1, .inl ((zG Z).2.2.2.1, 40, .inr (.inr (.inr (.inr (fun _ => none)))))), (r2, .inr (0, [.null, .int 0, .int 0, .long 0, .long 0, .long 0, .long 0, .long 0, .int 0, .int 0, .int 0, .int 0, .long 0, .long 0, .long 0]))]) (cx := [(r2, .inr (0, [.null, .int 0, .int 0, .long 0, .long 0, .long 0, .long 0, .long 0, .int 0, .int 0, .int 0, .int 0, .long 0, .long 0, .long 0]))]) (wr := [(x, .inr (4, [.ref r0, .ref r1, .null, .null, .int 0, .int 0, .int 0])), (r0, .inl ((zG Z).2.2.2.2, 6, .inr (.inr (.inr (.inr (fun _ => none)))))), (r1, .inl ((zG Z).2.2.2.1, 40, .inr (.inr (.inr (.inr (fun _ => none))))))]) (As := []) (st := [.ref r2, .ref x]) C (c_X0_init (zl Z) (zG Z) F r2) gX4_init_X0_init rfl w10_ w11_ w9_ rfl rfl rfl 0 (by decide +kernel) ⟨(Nat.le_of_ble_eq_true rfl), (Nat.le_of_ble_eq_true rfl)⟩ rfl rfl (Nat.le_of_ble_eq_true rfl) ⟨(Nat.le_of_ble_eq_true rfl), (Nat.le_of_ble_eq_true rfl)⟩ [3] [0, 1, 2] rfl rfl rfl rfl (by decide) dX4_init_27 (pc2 := 30) rfl (fun v X' L' F' ho => ?_)
  obtain ⟨rfl, ⟨r4, rfl⟩, hL9, hF9⟩ := ho
  rw [hL9, hF9]
  refine pk_putFX (X := [(x, .inr (4, [.ref r0, .ref r1, .null, .null, .int 0, .int 0, .int 0])), (r0, .inl ((zG Z).2.2.2.2, 6, .inr (.inr (.inr (.inr (fun _ => none)))))), (r1, .inl ((zG Z).2.2.2.1, 40, .inr (.inr (.inr (.inr (fun _ => none)))))), (r2, cC r4 (C_mk 0 0 0 0 0 0 0 0 0 0 0 0 0 0)), (r4, cS (S_mk 0 0 0 0 0 0))]) (X' := [(x, .inr (4, [.ref r0, .ref r1, .ref r2, .null, .int 0, .int 0, .int 0])), (r0, .inl ((zG Z).2.2.2.2, 6, .inr (.inr (.inr (.inr (fun _ => none)))))), (r1, .inl ((zG Z).2.2.2.1, 40, .inr (.inr (.inr (.inr (fun _ => none)))))), (r2, cC r4 (C_mk 0 0 0 0 0 0 0 0 0 0 0 0 0 0)), (r4, cS (S_mk 0 0 0 0 0 0))]) C hnm i4_ tyX4_ok nmX4 0 rfl (ci := 4) rfl 2 (by decide) w12_ rfl rfl rfl rfl rfl rfl (Nat.le_of_ble_eq_true rfl) rfl dX4_init_30 (pc2 := 33) rfl ?_
  refine pk_aload_n C 0 dX4_init_33 rfl rfl (pc2 := 34) rfl ?_
  refine pk_newX (X := [(x, .inr (4, [.ref r0, .ref r1, .ref r2, .null, .int 0, .int 0, .int 0])), (r0, .inl ((zG Z).2.2.2.2, 6, .inr (.inr (.inr (.inr (fun _ => none)))))), (r1, .inl ((zG Z).2.2.2.1, 40, .inr (.inr (.inr (.inr (fun _ => none)))))), (r2, cC r4 (C_mk 0 0 0 0 0 0 0 0 0 0 0 0 0 0)), (r4, cS (S_mk 0 0 0 0 0 0))]) (ci := 0) (fs := [.null, .int 0, .int 0, .long 0, .long 0, .long 0, .long 0, .long 0, .int 0, .int 0, .int 0, .int 0, .long 0, .long 0, .long 0]) C tyX0 i0_ tyX0_ok w7_ w8_ w9_ rfl (fun j hj => by rcases (show j = 0 ∨ j = 1 ∨ j = 2 ∨ j = 3 ∨ j = 4 ∨ j = 5 ∨ j = 6 ∨ j = 7 ∨ j = 8 ∨ j = 9 ∨ j = 10 ∨ j = 11 ∨ j = 12 ∨ j = 13 ∨ j = 14 by omega) with rfl | rfl | rfl | rfl | rfl | rfl | rfl | rfl | rfl | rfl | rfl | rfl | rfl | rfl | rfl <;> rfl) (Nat.le_of_ble_eq_true rfl) (Nat.le_of_ble_eq_true rfl) dX4_init_34 (pc2 := 37) rfl (fun r3 => ?_)
  refine pk_dup C dX4_init_37 rfl (pc2 := 38) rfl ?_
  refine pk_callI (X := [(x, .inr (4, [.ref r0, .ref r1, .ref r2, .null, .int 0, .int 0, .int 0])), (r0, .inl ((zG Z).2.2.2.2, 6, .inr (.inr (.inr (.inr (fun _ => none)))))), (r1, .inl ((zG Z).2.2.2.1, 40, .inr (.inr (.inr (.inr (fun _ => none)))))), (r2, cC r4 (C_mk 0 0 0 0 0 0 0 0 0 0 0 0 0 0)), (r4, cS (S_mk 0 0 0 0 0 0)), (r3, .inr (0, [.null, .int 0, .int 0, .long 0, .long 0, .long 0, .long 0, .long 0, .int 0, .int 0, .int 0, .int 0, .long 0, .long 0, .long 0]))]) (cx := [(r3, .inr (0, [.null, .int 0, .int 0, .long 0, .long 0, .long 0, .long 0, .long 0, .int 0, .int 0, .int 0, .int 0, .long 0, .long 0, .long 0]))]) (wr := [(x, .inr (4, [.ref r0, .ref r1, .ref r2, .null, .int 0, .int 0, .int 0])), (r0, .inl ((zG Z).2.2.2.2, 6, .inr (.inr (.inr (.inr (fun _ => none)))))), (r1, .inl ((zG Z).2.2.2.1, 40, .inr (.inr (.inr (.inr (fun _ => none)))))), (r2, cC r4 (C_mk 0 0 0 0 0 0 0 0 0 0 0 0 0 0)), (r4, cS (S_mk 0 0 0 0 0 0))]) (As := []) (st := [.ref r3, .ref x]) C (c_X0_init (zl Z) (zG Z) F r3) gX4_init_X0_init rfl w10_ w11_ w9_ rfl rfl rfl 0 (by decide +kernel) ⟨(Nat.le_of_ble_eq_true rfl), (Nat.le_of_ble_eq_true rfl)⟩ rfl rfl (Nat.le_of_ble_eq_true rfl) ⟨(Nat.le_of_ble_eq_true rfl), (Nat.le_of_ble_eq_true rfl)⟩ [5] [0, 1, 2, 3, 4] rfl rfl rfl rfl (by decide) dX4_init_38 (pc2 := 41) rfl (fun v X' L' F' ho => ?_)
  obtain ⟨rfl, ⟨r5, rfl⟩, hL9, hF9⟩ := ho
  rw [hL9, hF9]
  refine pk_putFX (X := [(x, .inr (4, [.ref r0, .ref r1, .ref r2, .null, .int 0, .int 0, .int 0])), (r0, .inl ((zG Z).2.2.2.2, 6, .inr (.inr (.inr (.inr (fun _ => none)))))), (r1, .inl ((zG Z).2.2.2.1, 40, .inr (.inr (.inr (.inr (fun _ => none)))))), (r2, cC r4 (C_mk 0 0 0 0 0 0 0 0 0 0 0 0 0 0)), (r4, cS (S_mk 0 0 0 0 0 0)), (r3, cC r5 (C_mk 0 0 0 0 0 0 0 0 0 0 0 0 0 0)), (r5, cS (S_mk 0 0 0 0 0 0))]) (X' := [(x, .inr (4, [.ref r0, .ref r1, .ref r2, .ref r3, .int 0, .int 0, .int 0])), (r0, .inl ((zG Z).2.2.2.2, 6, .inr (.inr (.inr (.inr (fun _ => none)))))), (r1, .inl ((zG Z).2.2.2.1, 40, .inr (.inr (.inr (.inr (fun _ => none)))))), (r2, cC r4 (C_mk 0 0 0 0 0 0 0 0 0 0 0 0 0 0)), (r4, cS (S_mk 0 0 0 0 0 0)), (r3, cC r5 (C_mk 0 0 0 0 0 0 0 0 0 0 0 0 0 0)), (r5, cS (S_mk 0 0 0 0 0 0))]) C hnm i4_ tyX4_ok nmX4 0 rfl (ci := 4) rfl 3 (by decide) w13_ rfl rfl rfl rfl rfl rfl (Nat.le_of_ble_eq_true rfl) rfl dX4_init_41 (pc2 := 44) rfl ?_
  exact pr_void C hE ⟨rfl, ⟨(fun k => if k = 0 then r0 else if k = 1 then r1 else if k = 2 then r2 else if k = 3 then r3 else if k = 4 then r4 else r5), rfl⟩, rfl, rfl⟩ dX4_init_44

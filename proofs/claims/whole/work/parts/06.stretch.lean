def m_X4_rounded (x : Int64) (y : Int64) : Int64 :=
  if y ≤ 0 then 0 else ((((2) * x) + y) / ((2) * y))
set_option maxRecDepth 100000 in
set_option maxHeartbeats 2000000 in
theorem c_X4_rounded (l : Launch) (G : pw_G) (L : List Nat) (F : Nat → va_E)  (x : Int64) (y : Int64) : PM l yX4_rounded wsX4_rounded ⟨0, 0, 0, 0⟩ G [.long x, .long y] [] L F 0 0 (po_d (some (.long (m_X4_rounded x y))) [] L F) := by
  refine pm_entry (by decide) rfl rfl (Nat.le_of_ble_eq_true rfl) ?_
  intro Z Q C hl0 hG0 hnm hE
  subst hl0
  subst hG0
  have w0_ : Cond.constantLong RX4 197 (2) ∈ wsX4_rounded := by decide +kernel
  show PW Z [] L F 0 0 Q 0 [(0, .long x), (2, .long y)] []
  refine pk_lload_n C 1 dX4_rounded_0 rfl rfl (pc2 := 1) rfl ?_
  refine pk_lconst (v := 0) C dX4_rounded_1 (by decide) (pc2 := 2) rfl ?_
  refine pk_lcmp_le (tgt := 22) C dX4_rounded_2 dX4_rounded_3 (pc1 := 3) rfl (by decide) (pc2 := 6) rfl (fun h1_ => ?_) (fun h1_ => ?_)
  ·
    refine pk_lconst (v := 0) C dX4_rounded_22 (by decide) (pc2 := 23) rfl ?_
    exact pr_long C hE (po_d_rfl (by first | with_reducible rfl | (unfold m_X4_rounded; rw [if_pos h1_])) (by first | with_reducible rfl | (unfold m_X4_rounded; rw [if_pos h1_]))) dX4_rounded_23
  ·
    refine pk_ldc2 C w0_ dX4_rounded_6 (pc2 := 9) rfl ?_
    refine pk_lload_n C 0 dX4_rounded_9 rfl rfl (pc2 := 10) rfl ?_
    refine pk_lmul C dX4_rounded_10 (pc2 := 11) rfl ?_
    refine pk_lload_n C 1 dX4_rounded_11 rfl rfl (pc2 := 12) rfl ?_
    refine pk_ladd C dX4_rounded_12 (pc2 := 13) rfl ?_
    refine pk_ldc2 C w0_ dX4_rounded_13 (pc2 := 16) rfl ?_
    refine pk_lload_n C 1 dX4_rounded_16 rfl rfl (pc2 := 17) rfl ?_
    refine pk_lmul C dX4_rounded_17 (pc2 := 18) rfl ?_
    refine pk_ldiv C dX4_rounded_18 (ld_pos h1_) (pc2 := 19) rfl ?_
    refine pk_goto (tgt := 23) C dX4_rounded_19 (by decide) ?_
    exact pr_long C hE (po_d_rfl (by first | with_reducible rfl | (unfold m_X4_rounded; rw [if_neg h1_])) (by first | with_reducible rfl | (unfold m_X4_rounded; rw [if_neg h1_]))) dX4_rounded_23
def m_X3_sumUpTo (n : Int64) : Int64 :=
  ((n * (n + 1)) / (2))
set_option maxRecDepth 100000 in
set_option maxHeartbeats 2000000 in
theorem c_X3_sumUpTo (l : Launch) (G : pw_G) (L : List Nat) (F : Nat → va_E)  (n : Int64) : PM l yX3_sumUpTo wsX3_sumUpTo ⟨0, 0, 0, 0⟩ G [.long n] [] L F 0 0 (po_d (some (.long (m_X3_sumUpTo n))) [] L F) := by
  refine pm_entry (by decide) rfl rfl (Nat.le_of_ble_eq_true rfl) ?_
  intro Z Q C hl0 hG0 hnm hE
  subst hl0
  subst hG0
  have w0_ : Cond.constantLong RX3 47 (2) ∈ wsX3_sumUpTo := by decide +kernel
  show PW Z [] L F 0 0 Q 0 [(0, .long n)] []
  refine pk_lload_n C 0 dX3_sumUpTo_0 rfl rfl (pc2 := 1) rfl ?_
  refine pk_lload_n C 0 dX3_sumUpTo_1 rfl rfl (pc2 := 2) rfl ?_
  refine pk_lconst (v := 1) C dX3_sumUpTo_2 (by decide) (pc2 := 3) rfl ?_
  refine pk_ladd C dX3_sumUpTo_3 (pc2 := 4) rfl ?_
  refine pk_lmul C dX3_sumUpTo_4 (pc2 := 5) rfl ?_
  refine pk_ldc2 C w0_ dX3_sumUpTo_5 (pc2 := 8) rfl ?_
  refine pk_ldiv C dX3_sumUpTo_8 (by decide) (pc2 := 9) rfl ?_
  exact pr_long C hE (po_d_rfl (by first | with_reducible rfl | (unfold m_X3_sumUpTo; with_reducible rfl)) (by first | with_reducible rfl | (unfold m_X3_sumUpTo; with_reducible rfl))) dX3_sumUpTo_9
def m_X3_begin (t : SR) (x : Int64) (y : Int64) (z : Int64) : SR :=
  (S_mk x y z 0 0 0)
set_option maxRecDepth 100000 in
set_option maxHeartbeats 2000000 in
theorem c_X3_begin (l : Launch) (G : pw_G) (L : List Nat) (F : Nat → va_E) (b : Nat) (t : SR) (x : Int64) (y : Int64) (z : Int64) : PM l yX3_begin wsX3_begin ⟨0, 0, 0, 0⟩ G [.ref b, .long x, .long y, .long z] [(b, cS t)] L F 0 0 (po_d none [(b, cS (m_X3_begin t x y z))] L F) := by
  refine pm_entry (by decide) rfl rfl (Nat.le_of_ble_eq_true rfl) ?_
  intro Z Q C hl0 hG0 hnm hE
  subst hl0
  subst hG0
  have i3_ : ∀ w ∈ wsX30, w ∈ wsX3_begin := by decide +kernel
  have w0_ : Cond.fieldLink RX3 9 "AgedAssets$Stretch" "base" "J" ∈ wsX3_begin := by decide +kernel
  have w1_ : Cond.fieldLink RX3 15 "AgedAssets$Stretch" "length" "J" ∈ wsX3_begin := by decide +kernel
  have w2_ : Cond.fieldLink RX3 18 "AgedAssets$Stretch" "unitsLeft" "J" ∈ wsX3_begin := by decide +kernel
  have w3_ : Cond.fieldLink RX3 21 "AgedAssets$Stretch" "monthsCharged" "J" ∈ wsX3_begin := by decide +kernel
  have w4_ : Cond.fieldLink RX3 24 "AgedAssets$Stretch" "unitsCharged" "J" ∈ wsX3_begin := by decide +kernel
  have w5_ : Cond.fieldLink RX3 27 "AgedAssets$Stretch" "charged" "J" ∈ wsX3_begin := by decide +kernel
  show PW Z [(b, cS t)] L F 0 0 Q 0 [(0, .ref b), (1, .long x), (3, .long y), (5, .long z)] []
  refine pk_aload_n C 0 dX3_begin_0 rfl rfl (pc2 := 1) rfl ?_
  refine pk_lload_n C 1 dX3_begin_1 rfl rfl (pc2 := 2) rfl ?_
  refine pk_putX (X' := [(b, kS x (S_le t) (S_ul t) (S_mo t) (S_un t) (S_ch t))]) C i3_ tyX3_ok nmX3 0 rfl (ci := 3) rfl 0 (by decide) w0_ rfl rfl rfl rfl rfl (Nat.le_of_ble_eq_true rfl) rfl dX3_begin_2 (pc2 := 5) rfl ?_
  refine pk_aload_n C 0 dX3_begin_5 rfl rfl (pc2 := 6) rfl ?_
  refine pk_lload_n C 2 dX3_begin_6 rfl rfl (pc2 := 7) rfl ?_
  refine pk_putX (X' := [(b, kS x y (S_ul t) (S_mo t) (S_un t) (S_ch t))]) C i3_ tyX3_ok nmX3 0 rfl (ci := 3) rfl 1 (by decide) w1_ rfl rfl rfl rfl rfl (Nat.le_of_ble_eq_true rfl) rfl dX3_begin_7 (pc2 := 10) rfl ?_
  refine pk_aload_n C 0 dX3_begin_10 rfl rfl (pc2 := 11) rfl ?_
  refine pk_lload C 3 dX3_begin_11 rfl (pc2 := 13) rfl ?_
  refine pk_putX (X' := [(b, kS x y z (S_mo t) (S_un t) (S_ch t))]) C i3_ tyX3_ok nmX3 0 rfl (ci := 3) rfl 2 (by decide) w2_ rfl rfl rfl rfl rfl (Nat.le_of_ble_eq_true rfl) rfl dX3_begin_13 (pc2 := 16) rfl ?_
  refine pk_aload_n C 0 dX3_begin_16 rfl rfl (pc2 := 17) rfl ?_
  refine pk_lconst (v := 0) C dX3_begin_17 (by decide) (pc2 := 18) rfl ?_
  refine pk_putX (X' := [(b, kS x y z 0 (S_un t) (S_ch t))]) C i3_ tyX3_ok nmX3 0 rfl (ci := 3) rfl 3 (by decide) w3_ rfl rfl rfl rfl rfl (Nat.le_of_ble_eq_true rfl) rfl dX3_begin_18 (pc2 := 21) rfl ?_
  refine pk_aload_n C 0 dX3_begin_21 rfl rfl (pc2 := 22) rfl ?_
  refine pk_lconst (v := 0) C dX3_begin_22 (by decide) (pc2 := 23) rfl ?_
  refine pk_putX (X' := [(b, kS x y z 0 0 (S_ch t))]) C i3_ tyX3_ok nmX3 0 rfl (ci := 3) rfl 4 (by decide) w4_ rfl rfl rfl rfl rfl (Nat.le_of_ble_eq_true rfl) rfl dX3_begin_23 (pc2 := 26) rfl ?_
  refine pk_aload_n C 0 dX3_begin_26 rfl rfl (pc2 := 27) rfl ?_
  refine pk_lconst (v := 0) C dX3_begin_27 (by decide) (pc2 := 28) rfl ?_
  refine pk_putX (X' := [(b, kS x y z 0 0 0)]) C i3_ tyX3_ok nmX3 0 rfl (ci := 3) rfl 5 (by decide) w5_ rfl rfl rfl rfl rfl (Nat.le_of_ble_eq_true rfl) rfl dX3_begin_28 (pc2 := 31) rfl ?_
  refine pw_conv (X' := [(b, cS (S_mk x y z 0 0 0))]) rfl ?_
  exact pr_void C hE (po_d_rfl rfl (by first | with_reducible rfl | (unfold m_X3_begin; with_reducible rfl))) dX3_begin_31
def m_X3_chargesTogether (t : SR) (me : Int32) : Int64 :=
  if me = 0 then (m_X4_rounded ((S_ba t) * (S_mo t)) (S_le t)) else if me = 2 then (m_X4_rounded ((S_ba t) * ((m_X3_sumUpTo (S_le t)) - (m_X3_sumUpTo ((S_le t) - (S_mo t))))) (m_X3_sumUpTo (S_le t))) else if (S_ul t) = 0 then (S_ba t) else (m_X4_rounded ((S_ba t) * (jmin (S_un t) (S_ul t))) (S_ul t))
set_option maxRecDepth 100000 in
set_option maxHeartbeats 2000000 in
theorem c_X3_chargesTogether (l : Launch) (G : pw_G) (L : List Nat) (F : Nat → va_E) (b : Nat) (t : SR) (me : Int32) : PM l yX3_chargesTogether wsX3_chargesTogether ⟨1, 0, 0, 23⟩ G [.ref b, .int me] [(b, cS t)] L F 0 0 (po_d (some (.long (m_X3_chargesTogether t me))) [(b, cS t)] L F) := by
  refine pm_entry (by decide) rfl rfl (Nat.le_of_ble_eq_true rfl) ?_
  intro Z Q C hl0 hG0 hnm hE
  subst hl0
  subst hG0
  have i3_ : ∀ w ∈ wsX30, w ∈ wsX3_chargesTogether := by decide +kernel
  have w0_ : Cond.fieldLink RX3 9 "AgedAssets$Stretch" "base" "J" ∈ wsX3_chargesTogether := by decide +kernel
  have w1_ : Cond.fieldLink RX3 21 "AgedAssets$Stretch" "monthsCharged" "J" ∈ wsX3_chargesTogether := by decide +kernel
  have w2_ : Cond.fieldLink RX3 15 "AgedAssets$Stretch" "length" "J" ∈ wsX3_chargesTogether := by decide +kernel
  have w3_ : Cond.methodLinkNest RX3 34 yX4_rounded RX4 ∈ pw_N := by decide +kernel
  have w4_ : Cond.static yX4_rounded ∈ wsX3_chargesTogether := by decide +kernel
  have w5_ : Cond.initialized RX4 ∈ wsX3_chargesTogether := by decide +kernel
  have w6_ : Cond.fieldLink RX3 18 "AgedAssets$Stretch" "unitsLeft" "J" ∈ wsX3_chargesTogether := by decide +kernel
  have w7_ : Cond.fieldLink RX3 24 "AgedAssets$Stretch" "unitsCharged" "J" ∈ wsX3_chargesTogether := by decide +kernel
  have w8_ : Cond.methodLink RX3 42 Lib.MathLoose.min_long.x ∈ wsX3_chargesTogether := by decide +kernel
  have w9_ : Cond.static Lib.MathLoose.min_long.x ∈ wsX3_chargesTogether := by decide +kernel
  have w10_ : Cond.initialized "java/lang/Math" ∈ wsX3_chargesTogether := by decide +kernel
  have w11_ : Cond.code Lib.MathLoose.min_long.x Lib.MathLoose.min_long.code 4 (some .long) ∈ wsX3_chargesTogether := by decide +kernel
  show PW Z [(b, cS t)] L F 0 0 Q 0 [(0, .ref b), (1, .int me)] []
  refine pk_iload_n C 1 dX3_chargesTogether_0 rfl rfl (pc2 := 1) rfl ?_
  by_cases h1_ : me = 0
  ·
    refine pk_lookup (tgt := 28) C dX3_chargesTogether_1 (by decide) (by rw [h1_]; first | done | rfl) (by decide) ?_
    refine pk_aload_n C 0 dX3_chargesTogether_28 rfl rfl (pc2 := 29) rfl ?_
    refine pk_get (v := .long (S_ba t)) C i3_ (pw_atX 0 rfl) (ci := 3) rfl 0 (by decide) w0_ rfl rfl dX3_chargesTogether_29 (pc2 := 32) rfl ?_
    refine pk_aload_n C 0 dX3_chargesTogether_32 rfl rfl (pc2 := 33) rfl ?_
    refine pk_get (v := .long (S_mo t)) C i3_ (pw_atX 0 rfl) (ci := 3) rfl 3 (by decide) w1_ rfl rfl dX3_chargesTogether_33 (pc2 := 36) rfl ?_
    refine pk_lmul C dX3_chargesTogether_36 (pc2 := 37) rfl ?_
    refine pk_aload_n C 0 dX3_chargesTogether_37 rfl rfl (pc2 := 38) rfl ?_
    refine pk_get (v := .long (S_le t)) C i3_ (pw_atX 0 rfl) (ci := 3) rfl 1 (by decide) w2_ rfl rfl dX3_chargesTogether_38 (pc2 := 41) rfl ?_
    refine pk_dSN (cx := []) (wr := [(b, cS t)]) (X2 := [(b, cS t)]) (st := []) (st2 := [.long (m_X4_rounded ((S_ba t) * (S_mo t)) (S_le t))]) (As := [.long ((S_ba t) * (S_mo t)), .long (S_le t)]) C (c_X4_rounded (zl Z) (zG Z) L F ((S_ba t) * (S_mo t)) (S_le t)) gX3_chargesTogether_X4_rounded_n34 rfl w3_ w4_ w5_ rfl rfl 2 (by decide +kernel) ⟨Nat.le_of_ble_eq_true rfl, Nat.le_of_ble_eq_true rfl⟩ rfl rfl (Nat.le_of_ble_eq_true rfl) ⟨Nat.le_of_ble_eq_true rfl, Nat.le_of_ble_eq_true rfl⟩ [] [0] [0] rfl rfl rfl rfl (by decide) rfl rfl dX3_chargesTogether_41 (pc2 := 44) rfl rfl ?_
    refine pk_topl (fun n1_ en1_ => ?_)
    subst en1_
    exact pr_long C hE (po_d_rfl (by first | with_reducible rfl | (unfold m_X3_chargesTogether; rw [if_pos h1_])) (by first | with_reducible rfl | (unfold m_X3_chargesTogether; rw [if_pos h1_]))) dX3_chargesTogether_44
  by_cases h2_ : me = 2
  ·
    refine pk_lookup (tgt := 45) C dX3_chargesTogether_1 (by decide) (by rw [h2_]; first | done | rfl) (by decide) ?_
    refine pk_aload_n C 0 dX3_chargesTogether_45 rfl rfl (pc2 := 46) rfl ?_
    refine pk_get (v := .long (S_ba t)) C i3_ (pw_atX 0 rfl) (ci := 3) rfl 0 (by decide) w0_ rfl rfl dX3_chargesTogether_46 (pc2 := 49) rfl ?_
    refine pk_aload_n C 0 dX3_chargesTogether_49 rfl rfl (pc2 := 50) rfl ?_
    refine pk_get (v := .long (S_le t)) C i3_ (pw_atX 0 rfl) (ci := 3) rfl 1 (by decide) w2_ rfl rfl dX3_chargesTogether_50 (pc2 := 53) rfl ?_
    refine pk_dS (cx := []) (wr := [(b, cS t)]) (X2 := [(b, cS t)]) (st := [.long (S_ba t)]) (st2 := [.long (m_X3_sumUpTo (S_le t)), .long (S_ba t)]) (As := [.long (S_le t)]) C (c_X3_sumUpTo (zl Z) (zG Z) L F (S_le t)) gX3_chargesTogether_X3_sumUpTo rfl rfl rfl 1 (by decide +kernel) ⟨Nat.le_of_ble_eq_true rfl, Nat.le_of_ble_eq_true rfl⟩ rfl rfl (Nat.le_of_ble_eq_true rfl) ⟨Nat.le_of_ble_eq_true rfl, Nat.le_of_ble_eq_true rfl⟩ [] [0] [0] rfl rfl rfl rfl (by decide) rfl rfl dX3_chargesTogether_53 (pc2 := 56) rfl rfl ?_
    refine pk_topl (fun n2_ en2_ => ?_)
    refine pk_aload_n C 0 dX3_chargesTogether_56 rfl rfl (pc2 := 57) rfl ?_
    refine pk_get (v := .long (S_le t)) C i3_ (pw_atX 0 rfl) (ci := 3) rfl 1 (by decide) w2_ rfl rfl dX3_chargesTogether_57 (pc2 := 60) rfl ?_
    refine pk_aload_n C 0 dX3_chargesTogether_60 rfl rfl (pc2 := 61) rfl ?_
    refine pk_get (v := .long (S_mo t)) C i3_ (pw_atX 0 rfl) (ci := 3) rfl 3 (by decide) w1_ rfl rfl dX3_chargesTogether_61 (pc2 := 64) rfl ?_
    refine pk_lsub C dX3_chargesTogether_64 (pc2 := 65) rfl ?_
    refine pk_dS (cx := []) (wr := [(b, cS t)]) (X2 := [(b, cS t)]) (st := [.long n2_, .long (S_ba t)]) (st2 := [.long (m_X3_sumUpTo ((S_le t) - (S_mo t))), .long n2_, .long (S_ba t)]) (As := [.long ((S_le t) - (S_mo t))]) C (c_X3_sumUpTo (zl Z) (zG Z) L F ((S_le t) - (S_mo t))) gX3_chargesTogether_X3_sumUpTo rfl rfl rfl 1 (by decide +kernel) ⟨Nat.le_of_ble_eq_true rfl, Nat.le_of_ble_eq_true rfl⟩ rfl rfl (Nat.le_of_ble_eq_true rfl) ⟨Nat.le_of_ble_eq_true rfl, Nat.le_of_ble_eq_true rfl⟩ [] [0] [0] rfl rfl rfl rfl (by decide) rfl rfl dX3_chargesTogether_65 (pc2 := 68) rfl rfl ?_
    refine pk_topl (fun n3_ en3_ => ?_)
    refine pk_lsub C dX3_chargesTogether_68 (pc2 := 69) rfl ?_
    refine pk_lmul C dX3_chargesTogether_69 (pc2 := 70) rfl ?_
    refine pk_aload_n C 0 dX3_chargesTogether_70 rfl rfl (pc2 := 71) rfl ?_
    refine pk_get (v := .long (S_le t)) C i3_ (pw_atX 0 rfl) (ci := 3) rfl 1 (by decide) w2_ rfl rfl dX3_chargesTogether_71 (pc2 := 74) rfl ?_
    refine pk_dS (cx := []) (wr := [(b, cS t)]) (X2 := [(b, cS t)]) (st := [.long ((S_ba t) * (n2_ - n3_))]) (st2 := [.long (m_X3_sumUpTo (S_le t)), .long ((S_ba t) * (n2_ - n3_))]) (As := [.long (S_le t)]) C (c_X3_sumUpTo (zl Z) (zG Z) L F (S_le t)) gX3_chargesTogether_X3_sumUpTo rfl rfl rfl 1 (by decide +kernel) ⟨Nat.le_of_ble_eq_true rfl, Nat.le_of_ble_eq_true rfl⟩ rfl rfl (Nat.le_of_ble_eq_true rfl) ⟨Nat.le_of_ble_eq_true rfl, Nat.le_of_ble_eq_true rfl⟩ [] [0] [0] rfl rfl rfl rfl (by decide) rfl rfl dX3_chargesTogether_74 (pc2 := 77) rfl rfl ?_
    refine pk_topl (fun n4_ en4_ => ?_)
    refine pk_dSN (cx := []) (wr := [(b, cS t)]) (X2 := [(b, cS t)]) (st := []) (st2 := [.long (m_X4_rounded ((S_ba t) * (n2_ - n3_)) n4_)]) (As := [.long ((S_ba t) * (n2_ - n3_)), .long n4_]) C (c_X4_rounded (zl Z) (zG Z) L F ((S_ba t) * (n2_ - n3_)) n4_) gX3_chargesTogether_X4_rounded_n34 rfl w3_ w4_ w5_ rfl rfl 2 (by decide +kernel) ⟨Nat.le_of_ble_eq_true rfl, Nat.le_of_ble_eq_true rfl⟩ rfl rfl (Nat.le_of_ble_eq_true rfl) ⟨Nat.le_of_ble_eq_true rfl, Nat.le_of_ble_eq_true rfl⟩ [] [0] [0] rfl rfl rfl rfl (by decide) rfl rfl dX3_chargesTogether_77 (pc2 := 80) rfl rfl ?_
    refine pk_topl (fun n5_ en5_ => ?_)
    subst en2_ en3_ en4_ en5_
    exact pr_long C hE (po_d_rfl (by first | with_reducible rfl | (unfold m_X3_chargesTogether; rw [if_neg h1_, if_pos h2_])) (by first | with_reducible rfl | (unfold m_X3_chargesTogether; rw [if_neg h1_, if_pos h2_]))) dX3_chargesTogether_80
  refine pk_lookup (tgt := 81) C dX3_chargesTogether_1 (by decide) (sw_look0_2 h1_ h2_) (by decide) ?_
  refine pk_aload_n C 0 dX3_chargesTogether_81 rfl rfl (pc2 := 82) rfl ?_
  refine pk_get (v := .long (S_ul t)) C i3_ (pw_atX 0 rfl) (ci := 3) rfl 2 (by decide) w6_ rfl rfl dX3_chargesTogether_82 (pc2 := 85) rfl ?_
  refine pk_lconst (v := 0) C dX3_chargesTogether_85 (by decide) (pc2 := 86) rfl ?_
  refine pk_lcmp_ne (tgt := 97) C dX3_chargesTogether_86 dX3_chargesTogether_87 (pc1 := 87) rfl (by decide) (pc2 := 90) rfl (fun h3_ => ?_) (fun h3_ => ?_)
  ·
    refine pk_aload_n C 0 dX3_chargesTogether_97 rfl rfl (pc2 := 98) rfl ?_
    refine pk_get (v := .long (S_ba t)) C i3_ (pw_atX 0 rfl) (ci := 3) rfl 0 (by decide) w0_ rfl rfl dX3_chargesTogether_98 (pc2 := 101) rfl ?_
    refine pk_aload_n C 0 dX3_chargesTogether_101 rfl rfl (pc2 := 102) rfl ?_
    refine pk_get (v := .long (S_un t)) C i3_ (pw_atX 0 rfl) (ci := 3) rfl 4 (by decide) w7_ rfl rfl dX3_chargesTogether_102 (pc2 := 105) rfl ?_
    refine pk_aload_n C 0 dX3_chargesTogether_105 rfl rfl (pc2 := 106) rfl ?_
    refine pk_get (v := .long (S_ul t)) C i3_ (pw_atX 0 rfl) (ci := 3) rfl 2 (by decide) w6_ rfl rfl dX3_chargesTogether_106 (pc2 := 109) rfl ?_
    refine pk_minl (v := (jmin (S_un t) (S_ul t))) C ⟨w8_, w9_, w10_, w11_⟩ (Nat.le_of_ble_eq_true rfl) (Nat.le_of_ble_eq_true rfl) (Nat.le_of_ble_eq_true rfl) (Nat.le_of_ble_eq_true rfl) dX3_chargesTogether_109 (pc2 := 112) rfl rfl ?_
    refine pk_lmul C dX3_chargesTogether_112 (pc2 := 113) rfl ?_
    refine pk_aload_n C 0 dX3_chargesTogether_113 rfl rfl (pc2 := 114) rfl ?_
    refine pk_get (v := .long (S_ul t)) C i3_ (pw_atX 0 rfl) (ci := 3) rfl 2 (by decide) w6_ rfl rfl dX3_chargesTogether_114 (pc2 := 117) rfl ?_
    refine pk_dSN (cx := []) (wr := [(b, cS t)]) (X2 := [(b, cS t)]) (st := []) (st2 := [.long (m_X4_rounded ((S_ba t) * (jmin (S_un t) (S_ul t))) (S_ul t))]) (As := [.long ((S_ba t) * (jmin (S_un t) (S_ul t))), .long (S_ul t)]) C (c_X4_rounded (zl Z) (zG Z) L F ((S_ba t) * (jmin (S_un t) (S_ul t))) (S_ul t)) gX3_chargesTogether_X4_rounded_n34 rfl w3_ w4_ w5_ rfl rfl 2 (by decide +kernel) ⟨Nat.le_of_ble_eq_true rfl, Nat.le_of_ble_eq_true rfl⟩ rfl rfl (Nat.le_of_ble_eq_true rfl) ⟨Nat.le_of_ble_eq_true rfl, Nat.le_of_ble_eq_true rfl⟩ [] [0] [0] rfl rfl rfl rfl (by decide) rfl rfl dX3_chargesTogether_117 (pc2 := 120) rfl rfl ?_
    refine pk_topl (fun n6_ en6_ => ?_)
    subst en6_
    exact pr_long C hE (po_d_rfl (by first | with_reducible rfl | (unfold m_X3_chargesTogether; rw [if_neg h1_, if_neg h2_, if_neg h3_])) (by first | with_reducible rfl | (unfold m_X3_chargesTogether; rw [if_neg h1_, if_neg h2_, if_neg h3_]))) dX3_chargesTogether_120
  ·
    refine pk_aload_n C 0 dX3_chargesTogether_90 rfl rfl (pc2 := 91) rfl ?_
    refine pk_get (v := .long (S_ba t)) C i3_ (pw_atX 0 rfl) (ci := 3) rfl 0 (by decide) w0_ rfl rfl dX3_chargesTogether_91 (pc2 := 94) rfl ?_
    refine pk_goto (tgt := 120) C dX3_chargesTogether_94 (by decide) ?_
    exact pr_long C hE (po_d_rfl (by first | with_reducible rfl | (unfold m_X3_chargesTogether; rw [if_neg h1_, if_neg h2_, if_pos h3_])) (by first | with_reducible rfl | (unfold m_X3_chargesTogether; rw [if_neg h1_, if_neg h2_, if_pos h3_]))) dX3_chargesTogether_120
def m_X3_nextCharge (t : SR) (me : Int32) (us : Int32) : Int64 × SR :=
  (((m_X3_chargesTogether (S_mk (S_ba t) (S_le t) (S_ul t) ((S_mo t) + 1) ((S_un t) + (Int32.toInt64 us)) (S_ch t)) me) - (S_ch t)), (S_mk (S_ba t) (S_le t) (S_ul t) ((S_mo t) + 1) ((S_un t) + (Int32.toInt64 us)) (m_X3_chargesTogether (S_mk (S_ba t) (S_le t) (S_ul t) ((S_mo t) + 1) ((S_un t) + (Int32.toInt64 us)) (S_ch t)) me)))
set_option maxRecDepth 100000 in
set_option maxHeartbeats 2000000 in
theorem c_X3_nextCharge (l : Launch) (G : pw_G) (L : List Nat) (F : Nat → va_E) (b : Nat) (t : SR) (me : Int32) (us : Int32) : PM l yX3_nextCharge wsX3_nextCharge ⟨2, 0, 0, 44⟩ G [.ref b, .int me, .int us] [(b, cS t)] L F 0 0 (po_d (some (.long (m_X3_nextCharge t me us).1)) [(b, cS ((m_X3_nextCharge t me us).2))] L F) := by
  refine pm_entry (by decide) rfl rfl (Nat.le_of_ble_eq_true rfl) ?_
  intro Z Q C hl0 hG0 hnm hE
  subst hl0
  subst hG0
  have i3_ : ∀ w ∈ wsX30, w ∈ wsX3_nextCharge := by decide +kernel
  have w0_ : Cond.fieldLink RX3 21 "AgedAssets$Stretch" "monthsCharged" "J" ∈ wsX3_nextCharge := by decide +kernel
  have w1_ : Cond.fieldLink RX3 24 "AgedAssets$Stretch" "unitsCharged" "J" ∈ wsX3_nextCharge := by decide +kernel
  have w2_ : Cond.fieldLink RX3 27 "AgedAssets$Stretch" "charged" "J" ∈ wsX3_nextCharge := by decide +kernel
  show PW Z [(b, cS t)] L F 0 0 Q 0 [(0, .ref b), (1, .int me), (2, .int us)] []
  refine pk_aload_n C 0 dX3_nextCharge_0 rfl rfl (pc2 := 1) rfl ?_
  refine pk_dup C dX3_nextCharge_1 rfl (pc2 := 2) rfl ?_
  refine pk_get (v := .long (S_mo t)) C i3_ (pw_atX 0 rfl) (ci := 3) rfl 3 (by decide) w0_ rfl rfl dX3_nextCharge_2 (pc2 := 5) rfl ?_
  refine pk_lconst (v := 1) C dX3_nextCharge_5 (by decide) (pc2 := 6) rfl ?_
  refine pk_ladd C dX3_nextCharge_6 (pc2 := 7) rfl ?_
  refine pk_topl (fun n1_ en1_ => ?_)
  refine pk_putX (X' := [(b, kS (S_ba t) (S_le t) (S_ul t) n1_ (S_un t) (S_ch t))]) C i3_ tyX3_ok nmX3 0 rfl (ci := 3) rfl 3 (by decide) w0_ rfl rfl rfl rfl rfl (Nat.le_of_ble_eq_true rfl) rfl dX3_nextCharge_7 (pc2 := 10) rfl ?_
  refine pk_aload_n C 0 dX3_nextCharge_10 rfl rfl (pc2 := 11) rfl ?_
  refine pk_dup C dX3_nextCharge_11 rfl (pc2 := 12) rfl ?_
  refine pk_get (v := .long (S_un t)) C i3_ (pw_atX 0 rfl) (ci := 3) rfl 4 (by decide) w1_ rfl rfl dX3_nextCharge_12 (pc2 := 15) rfl ?_
  refine pk_iload_n C 2 dX3_nextCharge_15 rfl rfl (pc2 := 16) rfl ?_
  refine pk_i2l C dX3_nextCharge_16 (pc2 := 17) rfl ?_
  refine pk_ladd C dX3_nextCharge_17 (pc2 := 18) rfl ?_
  refine pk_topl (fun n2_ en2_ => ?_)
  refine pk_putX (X' := [(b, kS (S_ba t) (S_le t) (S_ul t) n1_ n2_ (S_ch t))]) C i3_ tyX3_ok nmX3 0 rfl (ci := 3) rfl 4 (by decide) w1_ rfl rfl rfl rfl rfl (Nat.le_of_ble_eq_true rfl) rfl dX3_nextCharge_18 (pc2 := 21) rfl ?_
  refine pk_aload_n C 0 dX3_nextCharge_21 rfl rfl (pc2 := 22) rfl ?_
  refine pk_get (v := .long (S_ch t)) C i3_ (pw_atX 0 rfl) (ci := 3) rfl 5 (by decide) w2_ rfl rfl dX3_nextCharge_22 (pc2 := 25) rfl ?_
  refine pk_lstore_n (lv' := [(3, .long (S_ch t)), (0, .ref b), (1, .int me), (2, .int us)]) C dX3_nextCharge_25 rfl (by decide) rfl (pc2 := 26) rfl ?_
  refine pk_aload_n C 1 dX3_nextCharge_26 rfl rfl (pc2 := 27) rfl ?_
  refine pk_aload_n C 1 dX3_nextCharge_27 rfl rfl (pc2 := 28) rfl ?_
  refine pk_iload_n C 2 dX3_nextCharge_28 rfl rfl (pc2 := 29) rfl ?_
  refine pk_dV (cx := [(b, cS (S_mk (S_ba t) (S_le t) (S_ul t) n1_ n2_ (S_ch t)))]) (wr := []) (X2 := [(b, kS (S_ba t) (S_le t) (S_ul t) n1_ n2_ (S_ch t))]) (st := [.ref b]) (st2 := [.long (m_X3_chargesTogether (S_mk (S_ba t) (S_le t) (S_ul t) n1_ n2_ (S_ch t)) me), .ref b]) (As := [.int me]) C (c_X3_chargesTogether (zl Z) (zG Z) L F b (S_mk (S_ba t) (S_le t) (S_ul t) n1_ n2_ (S_ch t)) me) gX3_nextCharge_X3_chargesTogether rfl rfl rfl 1 (by decide +kernel) ⟨Nat.le_of_ble_eq_true rfl, Nat.le_of_ble_eq_true rfl⟩ (pw_atX 0 rfl) rfl rfl rfl (Nat.le_of_ble_eq_true rfl) ⟨Nat.le_of_ble_eq_true rfl, Nat.le_of_ble_eq_true rfl⟩ [0] [] [0] rfl rfl rfl rfl (by decide) rfl rfl dX3_nextCharge_29 (pc2 := 32) rfl rfl ?_
  refine pk_topl (fun n3_ en3_ => ?_)
  refine pk_putX (X' := [(b, kS (S_ba t) (S_le t) (S_ul t) n1_ n2_ n3_)]) C i3_ tyX3_ok nmX3 0 rfl (ci := 3) rfl 5 (by decide) w2_ rfl rfl rfl rfl rfl (Nat.le_of_ble_eq_true rfl) rfl dX3_nextCharge_32 (pc2 := 35) rfl ?_
  refine pk_aload_n C 1 dX3_nextCharge_35 rfl rfl (pc2 := 36) rfl ?_
  refine pk_get (v := .long n3_) C i3_ (pw_atX 0 rfl) (ci := 3) rfl 5 (by decide) w2_ rfl rfl dX3_nextCharge_36 (pc2 := 39) rfl ?_
  refine pk_lload_n C 0 dX3_nextCharge_39 rfl rfl (pc2 := 40) rfl ?_
  refine pk_lsub C dX3_nextCharge_40 (pc2 := 41) rfl ?_
  refine pw_conv (X' := [(b, cS (S_mk (S_ba t) (S_le t) (S_ul t) n1_ n2_ n3_))]) rfl ?_
  subst en1_ en2_ en3_
  exact pr_long C hE (po_d_rfl (by first | with_reducible rfl | (unfold m_X3_nextCharge; with_reducible rfl)) (by first | with_reducible rfl | (unfold m_X3_nextCharge; with_reducible rfl))) dX3_nextCharge_41

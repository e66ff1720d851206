def m_X0_sell (c : CR) (t : SR) (mi : Int32) : CR :=
  if mi = (1000000) then (C_mk (C_me c) (C_ra c) ((C_co c) - (m_X4_rounded ((C_co c) * (Int32.toInt64 mi)) (1000000))) ((C_al c) - (m_X4_rounded ((C_al c) * (Int32.toInt64 mi)) (1000000))) ((C_re c) - (m_X4_rounded ((C_re c) * (Int32.toInt64 mi)) (1000000))) (C_lo c) ((C_rs c) - (m_X4_rounded ((C_rs c) * (Int32.toInt64 mi)) (1000000))) (C_li c) (C_he c) 1 (C_br c) (C_cu c) (C_lc c) (C_ac c)) else (C_mk (C_me c) (C_ra c) ((C_co c) - (m_X4_rounded ((C_co c) * (Int32.toInt64 mi)) (1000000))) ((C_al c) - (m_X4_rounded ((C_al c) * (Int32.toInt64 mi)) (1000000))) ((C_re c) - (m_X4_rounded ((C_re c) * (Int32.toInt64 mi)) (1000000))) (C_lo c) ((C_rs c) - (m_X4_rounded ((C_rs c) * (Int32.toInt64 mi)) (1000000))) (C_li c) (C_he c) 0 (C_br c) (C_cu c) (C_lc c) (C_ac c))
set_option maxRecDepth 100000 in
set_option maxHeartbeats 2000000 in
theorem c_X0_sell (l : Launch) (G : pw_G) (L : List Nat) (F : Nat → va_E) (a b : Nat) (c : CR) (t : SR) (mi : Int32) : PM l yX0_sell wsX0_sell ⟨1, 0, 0, 23⟩ G [.ref a, .int mi] [(a, cC b c), (b, cS t)] L F 0 0 (po_d none [(a, cC b (m_X0_sell c t mi)), (b, cS t)] L F) := by
  refine pm_entry (by decide) rfl rfl (Nat.le_of_ble_eq_true rfl) ?_
  intro Z Q C hl0 hG0 hnm hE
  subst hl0
  subst hG0
  have i0_ : ∀ w ∈ wsX00, w ∈ wsX0_sell := by decide +kernel
  have w0_ : Cond.fieldLink RX0 33 "AgedAssets$Course" "cost" "J" ∈ wsX0_sell := by decide +kernel
  have w1_ : Cond.constantLong RX0 130 (1000000) ∈ wsX0_sell := by decide +kernel
  have w2_ : Cond.methodLinkNest RX0 132 yX4_rounded RX4 ∈ pw_N := by decide +kernel
  have w3_ : Cond.static yX4_rounded ∈ wsX0_sell := by decide +kernel
  have w4_ : Cond.initialized RX4 ∈ wsX0_sell := by decide +kernel
  have w5_ : Cond.fieldLink RX0 34 "AgedAssets$Course" "allowance" "J" ∈ wsX0_sell := by decide +kernel
  have w6_ : Cond.fieldLink RX0 37 "AgedAssets$Course" "reserve" "J" ∈ wsX0_sell := by decide +kernel
  have w7_ : Cond.fieldLink RX0 46 "AgedAssets$Course" "residual" "J" ∈ wsX0_sell := by decide +kernel
  have w8_ : Cond.constant RX0 135 (1000000) ∈ wsX0_sell := by decide +kernel
  have w9_ : Cond.fieldLink RX0 57 "AgedAssets$Course" "gone" "Z" ∈ wsX0_sell := by decide +kernel
  show PW Z [(a, cC b c), (b, cS t)] L F 0 0 Q 0 [(0, .ref a), (1, .int mi)] []
  refine pk_aload_n C 0 dX0_sell_0 rfl rfl (pc2 := 1) rfl ?_
  refine pk_dup C dX0_sell_1 rfl (pc2 := 2) rfl ?_
  refine pk_get (v := .long (C_co c)) C i0_ (pw_atX 0 rfl) (ci := 0) rfl 3 (by decide) w0_ rfl rfl dX0_sell_2 (pc2 := 5) rfl ?_
  refine pk_aload_n C 0 dX0_sell_5 rfl rfl (pc2 := 6) rfl ?_
  refine pk_get (v := .long (C_co c)) C i0_ (pw_atX 0 rfl) (ci := 0) rfl 3 (by decide) w0_ rfl rfl dX0_sell_6 (pc2 := 9) rfl ?_
  refine pk_iload_n C 1 dX0_sell_9 rfl rfl (pc2 := 10) rfl ?_
  refine pk_i2l C dX0_sell_10 (pc2 := 11) rfl ?_
  refine pk_lmul C dX0_sell_11 (pc2 := 12) rfl ?_
  refine pk_ldc2 C w1_ dX0_sell_12 (pc2 := 15) rfl ?_
  refine pk_dSN (cx := []) (wr := [(a, cC b c), (b, cS t)]) (X2 := [(a, cC b c), (b, cS t)]) (st := [.long (C_co c), .ref a]) (st2 := [.long (m_X4_rounded ((C_co c) * (Int32.toInt64 mi)) (1000000)), .long (C_co c), .ref a]) (As := [.long ((C_co c) * (Int32.toInt64 mi)), .long (1000000)]) C (c_X4_rounded (zl Z) (zG Z) L F ((C_co c) * (Int32.toInt64 mi)) (1000000)) gX0_sell_X4_rounded_n132 rfl w2_ w3_ w4_ rfl rfl 2 (by decide +kernel) ⟨Nat.le_of_ble_eq_true rfl, Nat.le_of_ble_eq_true rfl⟩ rfl rfl (Nat.le_of_ble_eq_true rfl) ⟨Nat.le_of_ble_eq_true rfl, Nat.le_of_ble_eq_true rfl⟩ [] [0, 1] [0, 1] rfl rfl rfl rfl (by decide) rfl rfl dX0_sell_15 (pc2 := 18) rfl rfl ?_
  refine pk_topl (fun n1_ en1_ => ?_)
  refine pk_lsub C dX0_sell_18 (pc2 := 19) rfl ?_
  refine pk_topl (fun n2_ en2_ => ?_)
  refine pk_putX (X' := [(a, kC b (C_me c) (C_ra c) n2_ (C_al c) (C_re c) (C_lo c) (C_rs c) (C_li c) (C_he c) (C_go c) (C_br c) (C_cu c) (C_lc c) (C_ac c)), (b, cS t)]) C i0_ tyX0_ok nmX0 0 rfl (ci := 0) rfl 3 (by decide) w0_ rfl rfl rfl rfl rfl (Nat.le_of_ble_eq_true rfl) rfl dX0_sell_19 (pc2 := 22) rfl ?_
  refine pk_aload_n C 0 dX0_sell_22 rfl rfl (pc2 := 23) rfl ?_
  refine pk_dup C dX0_sell_23 rfl (pc2 := 24) rfl ?_
  refine pk_get (v := .long (C_al c)) C i0_ (pw_atX 0 rfl) (ci := 0) rfl 4 (by decide) w5_ rfl rfl dX0_sell_24 (pc2 := 27) rfl ?_
  refine pk_aload_n C 0 dX0_sell_27 rfl rfl (pc2 := 28) rfl ?_
  refine pk_get (v := .long (C_al c)) C i0_ (pw_atX 0 rfl) (ci := 0) rfl 4 (by decide) w5_ rfl rfl dX0_sell_28 (pc2 := 31) rfl ?_
  refine pk_iload_n C 1 dX0_sell_31 rfl rfl (pc2 := 32) rfl ?_
  refine pk_i2l C dX0_sell_32 (pc2 := 33) rfl ?_
  refine pk_lmul C dX0_sell_33 (pc2 := 34) rfl ?_
  refine pk_ldc2 C w1_ dX0_sell_34 (pc2 := 37) rfl ?_
  refine pk_dSN (cx := []) (wr := [(a, kC b (C_me c) (C_ra c) n2_ (C_al c) (C_re c) (C_lo c) (C_rs c) (C_li c) (C_he c) (C_go c) (C_br c) (C_cu c) (C_lc c) (C_ac c)), (b, cS t)]) (X2 := [(a, kC b (C_me c) (C_ra c) n2_ (C_al c) (C_re c) (C_lo c) (C_rs c) (C_li c) (C_he c) (C_go c) (C_br c) (C_cu c) (C_lc c) (C_ac c)), (b, cS t)]) (st := [.long (C_al c), .ref a]) (st2 := [.long (m_X4_rounded ((C_al c) * (Int32.toInt64 mi)) (1000000)), .long (C_al c), .ref a]) (As := [.long ((C_al c) * (Int32.toInt64 mi)), .long (1000000)]) C (c_X4_rounded (zl Z) (zG Z) L F ((C_al c) * (Int32.toInt64 mi)) (1000000)) gX0_sell_X4_rounded_n132 rfl w2_ w3_ w4_ rfl rfl 2 (by decide +kernel) ⟨Nat.le_of_ble_eq_true rfl, Nat.le_of_ble_eq_true rfl⟩ rfl rfl (Nat.le_of_ble_eq_true rfl) ⟨Nat.le_of_ble_eq_true rfl, Nat.le_of_ble_eq_true rfl⟩ [] [0, 1] [0, 1] rfl rfl rfl rfl (by decide) rfl rfl dX0_sell_37 (pc2 := 40) rfl rfl ?_
  refine pk_topl (fun n3_ en3_ => ?_)
  refine pk_lsub C dX0_sell_40 (pc2 := 41) rfl ?_
  refine pk_topl (fun n4_ en4_ => ?_)
  refine pk_putX (X' := [(a, kC b (C_me c) (C_ra c) n2_ n4_ (C_re c) (C_lo c) (C_rs c) (C_li c) (C_he c) (C_go c) (C_br c) (C_cu c) (C_lc c) (C_ac c)), (b, cS t)]) C i0_ tyX0_ok nmX0 0 rfl (ci := 0) rfl 4 (by decide) w5_ rfl rfl rfl rfl rfl (Nat.le_of_ble_eq_true rfl) rfl dX0_sell_41 (pc2 := 44) rfl ?_
  refine pk_aload_n C 0 dX0_sell_44 rfl rfl (pc2 := 45) rfl ?_
  refine pk_dup C dX0_sell_45 rfl (pc2 := 46) rfl ?_
  refine pk_get (v := .long (C_re c)) C i0_ (pw_atX 0 rfl) (ci := 0) rfl 5 (by decide) w6_ rfl rfl dX0_sell_46 (pc2 := 49) rfl ?_
  refine pk_aload_n C 0 dX0_sell_49 rfl rfl (pc2 := 50) rfl ?_
  refine pk_get (v := .long (C_re c)) C i0_ (pw_atX 0 rfl) (ci := 0) rfl 5 (by decide) w6_ rfl rfl dX0_sell_50 (pc2 := 53) rfl ?_
  refine pk_iload_n C 1 dX0_sell_53 rfl rfl (pc2 := 54) rfl ?_
  refine pk_i2l C dX0_sell_54 (pc2 := 55) rfl ?_
  refine pk_lmul C dX0_sell_55 (pc2 := 56) rfl ?_
  refine pk_ldc2 C w1_ dX0_sell_56 (pc2 := 59) rfl ?_
  refine pk_dSN (cx := []) (wr := [(a, kC b (C_me c) (C_ra c) n2_ n4_ (C_re c) (C_lo c) (C_rs c) (C_li c) (C_he c) (C_go c) (C_br c) (C_cu c) (C_lc c) (C_ac c)), (b, cS t)]) (X2 := [(a, kC b (C_me c) (C_ra c) n2_ n4_ (C_re c) (C_lo c) (C_rs c) (C_li c) (C_he c) (C_go c) (C_br c) (C_cu c) (C_lc c) (C_ac c)), (b, cS t)]) (st := [.long (C_re c), .ref a]) (st2 := [.long (m_X4_rounded ((C_re c) * (Int32.toInt64 mi)) (1000000)), .long (C_re c), .ref a]) (As := [.long ((C_re c) * (Int32.toInt64 mi)), .long (1000000)]) C (c_X4_rounded (zl Z) (zG Z) L F ((C_re c) * (Int32.toInt64 mi)) (1000000)) gX0_sell_X4_rounded_n132 rfl w2_ w3_ w4_ rfl rfl 2 (by decide +kernel) ⟨Nat.le_of_ble_eq_true rfl, Nat.le_of_ble_eq_true rfl⟩ rfl rfl (Nat.le_of_ble_eq_true rfl) ⟨Nat.le_of_ble_eq_true rfl, Nat.le_of_ble_eq_true rfl⟩ [] [0, 1] [0, 1] rfl rfl rfl rfl (by decide) rfl rfl dX0_sell_59 (pc2 := 62) rfl rfl ?_
  refine pk_topl (fun n5_ en5_ => ?_)
  refine pk_lsub C dX0_sell_62 (pc2 := 63) rfl ?_
  refine pk_topl (fun n6_ en6_ => ?_)
  refine pk_putX (X' := [(a, kC b (C_me c) (C_ra c) n2_ n4_ n6_ (C_lo c) (C_rs c) (C_li c) (C_he c) (C_go c) (C_br c) (C_cu c) (C_lc c) (C_ac c)), (b, cS t)]) C i0_ tyX0_ok nmX0 0 rfl (ci := 0) rfl 5 (by decide) w6_ rfl rfl rfl rfl rfl (Nat.le_of_ble_eq_true rfl) rfl dX0_sell_63 (pc2 := 66) rfl ?_
  refine pk_aload_n C 0 dX0_sell_66 rfl rfl (pc2 := 67) rfl ?_
  refine pk_dup C dX0_sell_67 rfl (pc2 := 68) rfl ?_
  refine pk_get (v := .long (C_rs c)) C i0_ (pw_atX 0 rfl) (ci := 0) rfl 7 (by decide) w7_ rfl rfl dX0_sell_68 (pc2 := 71) rfl ?_
  refine pk_aload_n C 0 dX0_sell_71 rfl rfl (pc2 := 72) rfl ?_
  refine pk_get (v := .long (C_rs c)) C i0_ (pw_atX 0 rfl) (ci := 0) rfl 7 (by decide) w7_ rfl rfl dX0_sell_72 (pc2 := 75) rfl ?_
  refine pk_iload_n C 1 dX0_sell_75 rfl rfl (pc2 := 76) rfl ?_
  refine pk_i2l C dX0_sell_76 (pc2 := 77) rfl ?_
  refine pk_lmul C dX0_sell_77 (pc2 := 78) rfl ?_
  refine pk_ldc2 C w1_ dX0_sell_78 (pc2 := 81) rfl ?_
  refine pk_dSN (cx := []) (wr := [(a, kC b (C_me c) (C_ra c) n2_ n4_ n6_ (C_lo c) (C_rs c) (C_li c) (C_he c) (C_go c) (C_br c) (C_cu c) (C_lc c) (C_ac c)), (b, cS t)]) (X2 := [(a, kC b (C_me c) (C_ra c) n2_ n4_ n6_ (C_lo c) (C_rs c) (C_li c) (C_he c) (C_go c) (C_br c) (C_cu c) (C_lc c) (C_ac c)), (b, cS t)]) (st := [.long (C_rs c), .ref a]) (st2 := [.long (m_X4_rounded ((C_rs c) * (Int32.toInt64 mi)) (1000000)), .long (C_rs c), .ref a]) (As := [.long ((C_rs c) * (Int32.toInt64 mi)), .long (1000000)]) C (c_X4_rounded (zl Z) (zG Z) L F ((C_rs c) * (Int32.toInt64 mi)) (1000000)) gX0_sell_X4_rounded_n132 rfl w2_ w3_ w4_ rfl rfl 2 (by decide +kernel) ⟨Nat.le_of_ble_eq_true rfl, Nat.le_of_ble_eq_true rfl⟩ rfl rfl (Nat.le_of_ble_eq_true rfl) ⟨Nat.le_of_ble_eq_true rfl, Nat.le_of_ble_eq_true rfl⟩ [] [0, 1] [0, 1] rfl rfl rfl rfl (by decide) rfl rfl dX0_sell_81 (pc2 := 84) rfl rfl ?_
  refine pk_topl (fun n7_ en7_ => ?_)
  refine pk_lsub C dX0_sell_84 (pc2 := 85) rfl ?_
  refine pk_topl (fun n8_ en8_ => ?_)
  refine pk_putX (X' := [(a, kC b (C_me c) (C_ra c) n2_ n4_ n6_ (C_lo c) n8_ (C_li c) (C_he c) (C_go c) (C_br c) (C_cu c) (C_lc c) (C_ac c)), (b, cS t)]) C i0_ tyX0_ok nmX0 0 rfl (ci := 0) rfl 7 (by decide) w7_ rfl rfl rfl rfl rfl (Nat.le_of_ble_eq_true rfl) rfl dX0_sell_85 (pc2 := 88) rfl ?_
  refine pk_aload_n C 0 dX0_sell_88 rfl rfl (pc2 := 89) rfl ?_
  refine pk_iload_n C 1 dX0_sell_89 rfl rfl (pc2 := 90) rfl ?_
  refine pk_ldc C w8_ dX0_sell_90 (pc2 := 92) rfl ?_
  refine pk_icmp_ne (tgt := 99) C dX0_sell_92 (by decide) (pc2 := 95) rfl (fun h1_ => ?_) (fun h1_ => ?_)
  ·
    refine pk_iconst (v := 0) C dX0_sell_99 (by decide) (pc2 := 100) rfl ?_
    refine pk_putX (X' := [(a, kC b (C_me c) (C_ra c) n2_ n4_ n6_ (C_lo c) n8_ (C_li c) (C_he c) 0 (C_br c) (C_cu c) (C_lc c) (C_ac c)), (b, cS t)]) C i0_ tyX0_ok nmX0 0 rfl (ci := 0) rfl 10 (by decide) w9_ rfl rfl rfl rfl rfl (Nat.le_of_ble_eq_true rfl) rfl dX0_sell_100 (pc2 := 103) rfl ?_
    refine pw_conv (X' := [(a, cC b (C_mk (C_me c) (C_ra c) n2_ n4_ n6_ (C_lo c) n8_ (C_li c) (C_he c) 0 (C_br c) (C_cu c) (C_lc c) (C_ac c))), (b, cS t)]) rfl ?_
    subst en1_ en2_ en3_ en4_ en5_ en6_ en7_ en8_
    exact pr_void C hE (po_d_rfl rfl (by first | with_reducible rfl | (unfold m_X0_sell; rw [if_neg h1_]))) dX0_sell_103
  ·
    refine pk_iconst (v := 1) C dX0_sell_95 (by decide) (pc2 := 96) rfl ?_
    refine pk_goto (tgt := 100) C dX0_sell_96 (by decide) ?_
    refine pk_putX (X' := [(a, kC b (C_me c) (C_ra c) n2_ n4_ n6_ (C_lo c) n8_ (C_li c) (C_he c) 1 (C_br c) (C_cu c) (C_lc c) (C_ac c)), (b, cS t)]) C i0_ tyX0_ok nmX0 0 rfl (ci := 0) rfl 10 (by decide) w9_ rfl rfl rfl rfl rfl (Nat.le_of_ble_eq_true rfl) rfl dX0_sell_100 (pc2 := 103) rfl ?_
    refine pw_conv (X' := [(a, cC b (C_mk (C_me c) (C_ra c) n2_ n4_ n6_ (C_lo c) n8_ (C_li c) (C_he c) 1 (C_br c) (C_cu c) (C_lc c) (C_ac c))), (b, cS t)]) rfl ?_
    subst en1_ en2_ en3_ en4_ en5_ en6_ en7_ en8_
    exact pr_void C hE (po_d_rfl rfl (by first | with_reducible rfl | (unfold m_X0_sell; rw [if_pos h1_]))) dX0_sell_103
def m_X0_beginStretch (c : CR) (t : SR) : SR :=
  (m_X3_begin t (jmax 0 ((m_X0_book c t) - (C_rs c))) (Int32.toInt64 (C_li c)) (jmax 0 ((Int32.toInt64 (C_ra c)) - (C_cu c))))
set_option maxRecDepth 100000 in
set_option maxHeartbeats 2000000 in
theorem c_X0_beginStretch (l : Launch) (G : pw_G) (L : List Nat) (F : Nat → va_E) (a b : Nat) (c : CR) (t : SR) : PM l yX0_beginStretch wsX0_beginStretch ⟨1, 0, 0, 26⟩ G [.ref a] [(a, cC b c), (b, cS t)] L F 0 0 (po_d none [(a, cC b c), (b, cS (m_X0_beginStretch c t))] L F) := by
  refine pm_entry (by decide) rfl rfl (Nat.le_of_ble_eq_true rfl) ?_
  intro Z Q C hl0 hG0 hnm hE
  subst hl0
  subst hG0
  have i0_ : ∀ w ∈ wsX00, w ∈ wsX0_beginStretch := by decide +kernel
  have w0_ : Cond.fieldLink RX0 12 "AgedAssets$Course" "stretch" "LAgedAssets$Stretch;" ∈ wsX0_beginStretch := by decide +kernel
  have w1_ : Cond.fieldLink RX0 46 "AgedAssets$Course" "residual" "J" ∈ wsX0_beginStretch := by decide +kernel
  have w2_ : Cond.methodLink RX0 136 Lib.MathLoose.max_long.x ∈ wsX0_beginStretch := by decide +kernel
  have w3_ : Cond.static Lib.MathLoose.max_long.x ∈ wsX0_beginStretch := by decide +kernel
  have w4_ : Cond.initialized "java/lang/Math" ∈ wsX0_beginStretch := by decide +kernel
  have w5_ : Cond.code Lib.MathLoose.max_long.x Lib.MathLoose.max_long.code 4 (some .long) ∈ wsX0_beginStretch := by decide +kernel
  have w6_ : Cond.fieldLink RX0 50 "AgedAssets$Course" "restOfLife" "I" ∈ wsX0_beginStretch := by decide +kernel
  have w7_ : Cond.fieldLink RX0 28 "AgedAssets$Course" "rate" "I" ∈ wsX0_beginStretch := by decide +kernel
  have w8_ : Cond.fieldLink RX0 63 "AgedAssets$Course" "chargedUnits" "J" ∈ wsX0_beginStretch := by decide +kernel
  show PW Z [(a, cC b c), (b, cS t)] L F 0 0 Q 0 [(0, .ref a)] []
  refine pk_aload_n C 0 dX0_beginStretch_0 rfl rfl (pc2 := 1) rfl ?_
  refine pk_get (v := .ref b) C i0_ (pw_atX 0 rfl) (ci := 0) rfl 0 (by decide) w0_ rfl rfl dX0_beginStretch_1 (pc2 := 4) rfl ?_
  refine pk_lconst (v := 0) C dX0_beginStretch_4 (by decide) (pc2 := 5) rfl ?_
  refine pk_aload_n C 0 dX0_beginStretch_5 rfl rfl (pc2 := 6) rfl ?_
  refine pk_dV (cx := [(a, cC b c), (b, cS t)]) (wr := []) (X2 := [(a, cC b c), (b, cS t)]) (st := [.long 0, .ref b]) (st2 := [.long (m_X0_book c t), .long 0, .ref b]) (As := []) C (c_X0_book (zl Z) (zG Z) L F a b c t) gX0_beginStretch_X0_book rfl rfl rfl 0 (by decide +kernel) ⟨Nat.le_of_ble_eq_true rfl, Nat.le_of_ble_eq_true rfl⟩ (pw_atX 0 rfl) rfl rfl rfl (Nat.le_of_ble_eq_true rfl) ⟨Nat.le_of_ble_eq_true rfl, Nat.le_of_ble_eq_true rfl⟩ [0, 1] [] [0, 1] rfl rfl rfl rfl (by decide) rfl rfl dX0_beginStretch_6 (pc2 := 9) rfl rfl ?_
  refine pk_topl (fun n1_ en1_ => ?_)
  refine pk_aload_n C 0 dX0_beginStretch_9 rfl rfl (pc2 := 10) rfl ?_
  refine pk_get (v := .long (C_rs c)) C i0_ (pw_atX 0 rfl) (ci := 0) rfl 7 (by decide) w1_ rfl rfl dX0_beginStretch_10 (pc2 := 13) rfl ?_
  refine pk_lsub C dX0_beginStretch_13 (pc2 := 14) rfl ?_
  refine pk_maxl (v := (jmax 0 (n1_ - (C_rs c)))) C ⟨w2_, w3_, w4_, w5_⟩ (Nat.le_of_ble_eq_true rfl) (Nat.le_of_ble_eq_true rfl) (Nat.le_of_ble_eq_true rfl) (Nat.le_of_ble_eq_true rfl) dX0_beginStretch_14 (pc2 := 17) rfl rfl ?_
  refine pk_aload_n C 0 dX0_beginStretch_17 rfl rfl (pc2 := 18) rfl ?_
  refine pk_get (v := .int (C_li c)) C i0_ (pw_atX 0 rfl) (ci := 0) rfl 8 (by decide) w6_ rfl rfl dX0_beginStretch_18 (pc2 := 21) rfl ?_
  refine pk_i2l C dX0_beginStretch_21 (pc2 := 22) rfl ?_
  refine pk_lconst (v := 0) C dX0_beginStretch_22 (by decide) (pc2 := 23) rfl ?_
  refine pk_aload_n C 0 dX0_beginStretch_23 rfl rfl (pc2 := 24) rfl ?_
  refine pk_get (v := .int (C_ra c)) C i0_ (pw_atX 0 rfl) (ci := 0) rfl 2 (by decide) w7_ rfl rfl dX0_beginStretch_24 (pc2 := 27) rfl ?_
  refine pk_i2l C dX0_beginStretch_27 (pc2 := 28) rfl ?_
  refine pk_aload_n C 0 dX0_beginStretch_28 rfl rfl (pc2 := 29) rfl ?_
  refine pk_get (v := .long (C_cu c)) C i0_ (pw_atX 0 rfl) (ci := 0) rfl 12 (by decide) w8_ rfl rfl dX0_beginStretch_29 (pc2 := 32) rfl ?_
  refine pk_lsub C dX0_beginStretch_32 (pc2 := 33) rfl ?_
  refine pk_maxl (v := (jmax 0 ((Int32.toInt64 (C_ra c)) - (C_cu c)))) C ⟨w2_, w3_, w4_, w5_⟩ (Nat.le_of_ble_eq_true rfl) (Nat.le_of_ble_eq_true rfl) (Nat.le_of_ble_eq_true rfl) (Nat.le_of_ble_eq_true rfl) dX0_beginStretch_33 (pc2 := 36) rfl rfl ?_
  refine pk_dV (cx := [(b, cS t)]) (wr := [(a, cC b c)]) (X2 := [(a, cC b c), (b, cS (m_X3_begin t (jmax 0 (n1_ - (C_rs c))) (Int32.toInt64 (C_li c)) (jmax 0 ((Int32.toInt64 (C_ra c)) - (C_cu c)))))]) (st := []) (st2 := []) (As := [.long (jmax 0 (n1_ - (C_rs c))), .long (Int32.toInt64 (C_li c)), .long (jmax 0 ((Int32.toInt64 (C_ra c)) - (C_cu c)))]) C (c_X3_begin (zl Z) (zG Z) L F b t (jmax 0 (n1_ - (C_rs c))) (Int32.toInt64 (C_li c)) (jmax 0 ((Int32.toInt64 (C_ra c)) - (C_cu c)))) gX0_beginStretch_X3_begin rfl rfl rfl 3 (by decide +kernel) ⟨Nat.le_of_ble_eq_true rfl, Nat.le_of_ble_eq_true rfl⟩ (pw_atX 1 rfl) rfl rfl rfl (Nat.le_of_ble_eq_true rfl) ⟨Nat.le_of_ble_eq_true rfl, Nat.le_of_ble_eq_true rfl⟩ [1] [0] [0, 1] rfl rfl rfl rfl (by decide) rfl rfl dX0_beginStretch_36 (pc2 := 39) rfl rfl ?_
  generalize en2_ : (m_X3_begin t (jmax 0 (n1_ - (C_rs c))) (Int32.toInt64 (C_li c)) (jmax 0 ((Int32.toInt64 (C_ra c)) - (C_cu c)))) = n2_
  subst en1_ en2_
  exact pr_void C hE (po_d_rfl rfl (by first | with_reducible rfl | (unfold m_X0_beginStretch; with_reducible rfl))) dX0_beginStretch_39
def m_X0_decliningCharge (c : CR) (t : SR) : Int64 :=
  if 0 < ((m_X0_book c t) - (C_rs c)) then if (C_li c) = 1 then ((m_X0_book c t) - (C_rs c)) else (jmin ((m_X0_book c t) - (C_rs c)) (jmax (m_X4_rounded ((m_X0_book c t) * (Int32.toInt64 (C_ra c))) (1000000)) (m_X4_rounded ((m_X0_book c t) - (C_rs c)) (Int32.toInt64 (C_li c))))) else 0
set_option maxRecDepth 100000 in
set_option maxHeartbeats 2000000 in
theorem c_X0_decliningCharge (l : Launch) (G : pw_G) (L : List Nat) (F : Nat → va_E) (a b : Nat) (c : CR) (t : SR) : PM l yX0_decliningCharge wsX0_decliningCharge ⟨1, 0, 0, 23⟩ G [.ref a] [(a, cC b c), (b, cS t)] L F 0 0 (po_d (some (.long (m_X0_decliningCharge c t))) [(a, cC b c), (b, cS t)] L F) := by
  refine pm_entry (by decide) rfl rfl (Nat.le_of_ble_eq_true rfl) ?_
  intro Z Q C hl0 hG0 hnm hE
  subst hl0
  subst hG0
  have i0_ : ∀ w ∈ wsX00, w ∈ wsX0_decliningCharge := by decide +kernel
  have w0_ : Cond.fieldLink RX0 46 "AgedAssets$Course" "residual" "J" ∈ wsX0_decliningCharge := by decide +kernel
  have w1_ : Cond.fieldLink RX0 50 "AgedAssets$Course" "restOfLife" "I" ∈ wsX0_decliningCharge := by decide +kernel
  have w2_ : Cond.fieldLink RX0 28 "AgedAssets$Course" "rate" "I" ∈ wsX0_decliningCharge := by decide +kernel
  have w3_ : Cond.constantLong RX0 130 (1000000) ∈ wsX0_decliningCharge := by decide +kernel
  have w4_ : Cond.methodLinkNest RX0 132 yX4_rounded RX4 ∈ pw_N := by decide +kernel
  have w5_ : Cond.static yX4_rounded ∈ wsX0_decliningCharge := by decide +kernel
  have w6_ : Cond.initialized RX4 ∈ wsX0_decliningCharge := by decide +kernel
  have w7_ : Cond.methodLink RX0 136 Lib.MathLoose.max_long.x ∈ wsX0_decliningCharge := by decide +kernel
  have w8_ : Cond.static Lib.MathLoose.max_long.x ∈ wsX0_decliningCharge := by decide +kernel
  have w9_ : Cond.initialized "java/lang/Math" ∈ wsX0_decliningCharge := by decide +kernel
  have w10_ : Cond.code Lib.MathLoose.max_long.x Lib.MathLoose.max_long.code 4 (some .long) ∈ wsX0_decliningCharge := by decide +kernel
  have w11_ : Cond.methodLink RX0 124 Lib.MathLoose.min_long.x ∈ wsX0_decliningCharge := by decide +kernel
  have w12_ : Cond.static Lib.MathLoose.min_long.x ∈ wsX0_decliningCharge := by decide +kernel
  have w13_ : Cond.code Lib.MathLoose.min_long.x Lib.MathLoose.min_long.code 4 (some .long) ∈ wsX0_decliningCharge := by decide +kernel
  show PW Z [(a, cC b c), (b, cS t)] L F 0 0 Q 0 [(0, .ref a)] []
  refine pk_aload_n C 0 dX0_decliningCharge_0 rfl rfl (pc2 := 1) rfl ?_
  refine pk_dV (cx := [(a, cC b c), (b, cS t)]) (wr := []) (X2 := [(a, cC b c), (b, cS t)]) (st := []) (st2 := [.long (m_X0_book c t)]) (As := []) C (c_X0_book (zl Z) (zG Z) L F a b c t) gX0_decliningCharge_X0_book rfl rfl rfl 0 (by decide +kernel) ⟨Nat.le_of_ble_eq_true rfl, Nat.le_of_ble_eq_true rfl⟩ (pw_atX 0 rfl) rfl rfl rfl (Nat.le_of_ble_eq_true rfl) ⟨Nat.le_of_ble_eq_true rfl, Nat.le_of_ble_eq_true rfl⟩ [0, 1] [] [0, 1] rfl rfl rfl rfl (by decide) rfl rfl dX0_decliningCharge_1 (pc2 := 4) rfl rfl ?_
  refine pk_topl (fun n1_ en1_ => ?_)
  refine pk_aload_n C 0 dX0_decliningCharge_4 rfl rfl (pc2 := 5) rfl ?_
  refine pk_get (v := .long (C_rs c)) C i0_ (pw_atX 0 rfl) (ci := 0) rfl 7 (by decide) w0_ rfl rfl dX0_decliningCharge_5 (pc2 := 8) rfl ?_
  refine pk_lsub C dX0_decliningCharge_8 (pc2 := 9) rfl ?_
  refine pk_topl (fun n2_ en2_ => ?_)
  refine pk_lstore_n (lv' := [(1, .long n2_), (0, .ref a)]) C dX0_decliningCharge_9 rfl (by decide) rfl (pc2 := 10) rfl ?_
  refine pk_lload_n C 0 dX0_decliningCharge_10 rfl rfl (pc2 := 11) rfl ?_
  refine pk_lconst (v := 0) C dX0_decliningCharge_11 (by decide) (pc2 := 12) rfl ?_
  refine pk_lcmp_gt (tgt := 18) C dX0_decliningCharge_12 dX0_decliningCharge_13 (pc1 := 13) rfl (by decide) (pc2 := 16) rfl (fun h1_ => ?_) (fun h1_ => ?_)
  ·
    refine pk_aload_n C 1 dX0_decliningCharge_18 rfl rfl (pc2 := 19) rfl ?_
    refine pk_get (v := .int (C_li c)) C i0_ (pw_atX 0 rfl) (ci := 0) rfl 8 (by decide) w1_ rfl rfl dX0_decliningCharge_19 (pc2 := 22) rfl ?_
    refine pk_iconst (v := 1) C dX0_decliningCharge_22 (by decide) (pc2 := 23) rfl ?_
    refine pk_icmp_ne (tgt := 28) C dX0_decliningCharge_23 (by decide) (pc2 := 26) rfl (fun h2_ => ?_) (fun h2_ => ?_)
    ·
      refine pk_aload_n C 1 dX0_decliningCharge_28 rfl rfl (pc2 := 29) rfl ?_
      refine pk_dV (cx := [(a, cC b c), (b, cS t)]) (wr := []) (X2 := [(a, cC b c), (b, cS t)]) (st := []) (st2 := [.long (m_X0_book c t)]) (As := []) C (c_X0_book (zl Z) (zG Z) L F a b c t) gX0_decliningCharge_X0_book rfl rfl rfl 0 (by decide +kernel) ⟨Nat.le_of_ble_eq_true rfl, Nat.le_of_ble_eq_true rfl⟩ (pw_atX 0 rfl) rfl rfl rfl (Nat.le_of_ble_eq_true rfl) ⟨Nat.le_of_ble_eq_true rfl, Nat.le_of_ble_eq_true rfl⟩ [0, 1] [] [0, 1] rfl rfl rfl rfl (by decide) rfl rfl dX0_decliningCharge_29 (pc2 := 32) rfl rfl ?_
      refine pk_topl (fun n3_ en3_ => ?_)
      refine pk_aload_n C 1 dX0_decliningCharge_32 rfl rfl (pc2 := 33) rfl ?_
      refine pk_get (v := .int (C_ra c)) C i0_ (pw_atX 0 rfl) (ci := 0) rfl 2 (by decide) w2_ rfl rfl dX0_decliningCharge_33 (pc2 := 36) rfl ?_
      refine pk_i2l C dX0_decliningCharge_36 (pc2 := 37) rfl ?_
      refine pk_lmul C dX0_decliningCharge_37 (pc2 := 38) rfl ?_
      refine pk_ldc2 C w3_ dX0_decliningCharge_38 (pc2 := 41) rfl ?_
      refine pk_dSN (cx := []) (wr := [(a, cC b c), (b, cS t)]) (X2 := [(a, cC b c), (b, cS t)]) (st := []) (st2 := [.long (m_X4_rounded (n3_ * (Int32.toInt64 (C_ra c))) (1000000))]) (As := [.long (n3_ * (Int32.toInt64 (C_ra c))), .long (1000000)]) C (c_X4_rounded (zl Z) (zG Z) L F (n3_ * (Int32.toInt64 (C_ra c))) (1000000)) gX0_decliningCharge_X4_rounded_n132 rfl w4_ w5_ w6_ rfl rfl 2 (by decide +kernel) ⟨Nat.le_of_ble_eq_true rfl, Nat.le_of_ble_eq_true rfl⟩ rfl rfl (Nat.le_of_ble_eq_true rfl) ⟨Nat.le_of_ble_eq_true rfl, Nat.le_of_ble_eq_true rfl⟩ [] [0, 1] [0, 1] rfl rfl rfl rfl (by decide) rfl rfl dX0_decliningCharge_41 (pc2 := 44) rfl rfl ?_
      refine pk_topl (fun n4_ en4_ => ?_)
      refine pk_lstore_n (lv' := [(3, .long n4_), (1, .long n2_), (0, .ref a)]) C dX0_decliningCharge_44 rfl (by decide) rfl (pc2 := 45) rfl ?_
      refine pk_lload_n C 1 dX0_decliningCharge_45 rfl rfl (pc2 := 46) rfl ?_
      refine pk_aload_n C 2 dX0_decliningCharge_46 rfl rfl (pc2 := 47) rfl ?_
      refine pk_get (v := .int (C_li c)) C i0_ (pw_atX 0 rfl) (ci := 0) rfl 8 (by decide) w1_ rfl rfl dX0_decliningCharge_47 (pc2 := 50) rfl ?_
      refine pk_i2l C dX0_decliningCharge_50 (pc2 := 51) rfl ?_
      refine pk_dSN (cx := []) (wr := [(a, cC b c), (b, cS t)]) (X2 := [(a, cC b c), (b, cS t)]) (st := []) (st2 := [.long (m_X4_rounded n2_ (Int32.toInt64 (C_li c)))]) (As := [.long n2_, .long (Int32.toInt64 (C_li c))]) C (c_X4_rounded (zl Z) (zG Z) L F n2_ (Int32.toInt64 (C_li c))) gX0_decliningCharge_X4_rounded_n132 rfl w4_ w5_ w6_ rfl rfl 2 (by decide +kernel) ⟨Nat.le_of_ble_eq_true rfl, Nat.le_of_ble_eq_true rfl⟩ rfl rfl (Nat.le_of_ble_eq_true rfl) ⟨Nat.le_of_ble_eq_true rfl, Nat.le_of_ble_eq_true rfl⟩ [] [0, 1] [0, 1] rfl rfl rfl rfl (by decide) rfl rfl dX0_decliningCharge_51 (pc2 := 54) rfl rfl ?_
      refine pk_topl (fun n5_ en5_ => ?_)
      refine pk_lstore (lv' := [(5, .long n5_), (3, .long n4_), (1, .long n2_), (0, .ref a)]) C dX0_decliningCharge_54 (by decide) rfl (pc2 := 56) rfl ?_
      refine pk_lload_n C 2 dX0_decliningCharge_56 rfl rfl (pc2 := 57) rfl ?_
      refine pk_lload_n C 1 dX0_decliningCharge_57 rfl rfl (pc2 := 58) rfl ?_
      refine pk_lload C 0 dX0_decliningCharge_58 rfl (pc2 := 60) rfl ?_
      refine pk_maxl (v := (jmax n4_ n5_)) C ⟨w7_, w8_, w9_, w10_⟩ (Nat.le_of_ble_eq_true rfl) (Nat.le_of_ble_eq_true rfl) (Nat.le_of_ble_eq_true rfl) (Nat.le_of_ble_eq_true rfl) dX0_decliningCharge_60 (pc2 := 63) rfl rfl ?_
      refine pk_minl (v := (jmin n2_ (jmax n4_ n5_))) C ⟨w11_, w12_, w9_, w13_⟩ (Nat.le_of_ble_eq_true rfl) (Nat.le_of_ble_eq_true rfl) (Nat.le_of_ble_eq_true rfl) (Nat.le_of_ble_eq_true rfl) dX0_decliningCharge_63 (pc2 := 66) rfl rfl ?_
      subst en1_ en2_ en3_ en4_ en5_
      exact pr_long C hE (po_d_rfl (by first | with_reducible rfl | (unfold m_X0_decliningCharge; rw [if_pos h1_, if_neg h2_])) (by first | with_reducible rfl | (unfold m_X0_decliningCharge; rw [if_pos h1_, if_neg h2_]))) dX0_decliningCharge_66
    ·
      refine pk_lload_n C 0 dX0_decliningCharge_26 rfl rfl (pc2 := 27) rfl ?_
      subst en1_ en2_
      exact pr_long C hE (po_d_rfl (by first | with_reducible rfl | (unfold m_X0_decliningCharge; rw [if_pos h1_, if_pos h2_])) (by first | with_reducible rfl | (unfold m_X0_decliningCharge; rw [if_pos h1_, if_pos h2_]))) dX0_decliningCharge_27
  ·
    refine pk_lconst (v := 0) C dX0_decliningCharge_16 (by decide) (pc2 := 17) rfl ?_
    subst en1_ en2_
    exact pr_long C hE (po_d_rfl (by first | with_reducible rfl | (unfold m_X0_decliningCharge; rw [if_neg h1_])) (by first | with_reducible rfl | (unfold m_X0_decliningCharge; rw [if_neg h1_]))) dX0_decliningCharge_17

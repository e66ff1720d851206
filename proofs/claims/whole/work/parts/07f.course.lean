def m_X0_open (c : CR) (t : SR) (pt : PR) : CR × SR :=
  ((C_mk (P_me pt) (P_ra pt) (P_co pt) 0 0 0 (P_rs pt) (P_li pt) 0 0 0 0 0 0), (m_X0_beginStretch (C_mk (P_me pt) (P_ra pt) (P_co pt) 0 0 0 (P_rs pt) (P_li pt) 0 0 0 0 0 0) t))
set_option maxRecDepth 100000 in
set_option maxHeartbeats 2000000 in
theorem c_X0_open (l : Launch) (G : pw_G) (L : List Nat) (F : Nat → va_E) (a b : Nat) (c : CR) (t : SR) (p u w q : Nat) (pt : PR) (hpL : p ∈ L) (hpF : F p = cP u w q pt) : PM l yX0_open wsX0_open ⟨2, 0, 0, 46⟩ G [.ref a, .ref p] [(a, cC b c), (b, cS t)] L F 0 0 (po_d none [(a, cC b ((m_X0_open c t pt).1)), (b, cS ((m_X0_open c t pt).2))] L F) := by
  refine pm_entry (by decide) rfl rfl (Nat.le_of_ble_eq_true rfl) ?_
  intro Z Q C hl0 hG0 hnm hE
  subst hl0
  subst hG0
  have i2_ : ∀ w ∈ wsX20, w ∈ wsX0_open := by decide +kernel
  have i0_ : ∀ w ∈ wsX00, w ∈ wsX0_open := by decide +kernel
  have w0_ : Cond.fieldLink RX0 18 "AgedAssets$Part" "method" "I" ∈ wsX0_open := by decide +kernel
  have w1_ : Cond.fieldLink RX0 24 "AgedAssets$Course" "method" "I" ∈ wsX0_open := by decide +kernel
  have w2_ : Cond.fieldLink RX0 25 "AgedAssets$Part" "rate" "I" ∈ wsX0_open := by decide +kernel
  have w3_ : Cond.fieldLink RX0 28 "AgedAssets$Course" "rate" "I" ∈ wsX0_open := by decide +kernel
  have w4_ : Cond.fieldLink RX0 29 "AgedAssets$Part" "cost" "J" ∈ wsX0_open := by decide +kernel
  have w5_ : Cond.fieldLink RX0 33 "AgedAssets$Course" "cost" "J" ∈ wsX0_open := by decide +kernel
  have w6_ : Cond.fieldLink RX0 34 "AgedAssets$Course" "allowance" "J" ∈ wsX0_open := by decide +kernel
  have w7_ : Cond.fieldLink RX0 37 "AgedAssets$Course" "reserve" "J" ∈ wsX0_open := by decide +kernel
  have w8_ : Cond.fieldLink RX0 40 "AgedAssets$Course" "losses" "J" ∈ wsX0_open := by decide +kernel
  have w9_ : Cond.fieldLink RX0 43 "AgedAssets$Part" "residual" "J" ∈ wsX0_open := by decide +kernel
  have w10_ : Cond.fieldLink RX0 46 "AgedAssets$Course" "residual" "J" ∈ wsX0_open := by decide +kernel
  have w11_ : Cond.fieldLink RX0 47 "AgedAssets$Part" "life" "I" ∈ wsX0_open := by decide +kernel
  have w12_ : Cond.fieldLink RX0 50 "AgedAssets$Course" "restOfLife" "I" ∈ wsX0_open := by decide +kernel
  have w13_ : Cond.fieldLink RX0 53 "AgedAssets$Course" "held" "Z" ∈ wsX0_open := by decide +kernel
  have w14_ : Cond.fieldLink RX0 57 "AgedAssets$Course" "gone" "Z" ∈ wsX0_open := by decide +kernel
  have w15_ : Cond.fieldLink RX0 60 "AgedAssets$Course" "breached" "Z" ∈ wsX0_open := by decide +kernel
  have w16_ : Cond.fieldLink RX0 63 "AgedAssets$Course" "chargedUnits" "J" ∈ wsX0_open := by decide +kernel
  have w17_ : Cond.fieldLink RX0 66 "AgedAssets$Course" "lastCharge" "J" ∈ wsX0_open := by decide +kernel
  have w18_ : Cond.fieldLink RX0 69 "AgedAssets$Course" "allCharges" "J" ∈ wsX0_open := by decide +kernel
  show PW Z [(a, cC b c), (b, cS t)] L F 0 0 Q 0 [(0, .ref a), (1, .ref p)] []
  refine pk_aload_n C 0 dX0_open_0 rfl rfl (pc2 := 1) rfl ?_
  refine pk_aload_n C 1 dX0_open_1 rfl rfl (pc2 := 2) rfl ?_
  refine pk_get (v := .int (P_me pt)) C i2_ (pw_atP hpL hpF) (ci := 2) rfl 4 (by decide) w0_ rfl rfl dX0_open_2 (pc2 := 5) rfl ?_
  refine pk_putX (X' := [(a, kC b (P_me pt) (C_ra c) (C_co c) (C_al c) (C_re c) (C_lo c) (C_rs c) (C_li c) (C_he c) (C_go c) (C_br c) (C_cu c) (C_lc c) (C_ac c)), (b, cS t)]) C i0_ tyX0_ok nmX0 0 rfl (ci := 0) rfl 1 (by decide) w1_ rfl rfl rfl rfl rfl (Nat.le_of_ble_eq_true rfl) rfl dX0_open_5 (pc2 := 8) rfl ?_
  refine pk_aload_n C 0 dX0_open_8 rfl rfl (pc2 := 9) rfl ?_
  refine pk_aload_n C 1 dX0_open_9 rfl rfl (pc2 := 10) rfl ?_
  refine pk_get (v := .int (P_ra pt)) C i2_ (pw_atP hpL hpF) (ci := 2) rfl 5 (by decide) w2_ rfl rfl dX0_open_10 (pc2 := 13) rfl ?_
  refine pk_putX (X' := [(a, kC b (P_me pt) (P_ra pt) (C_co c) (C_al c) (C_re c) (C_lo c) (C_rs c) (C_li c) (C_he c) (C_go c) (C_br c) (C_cu c) (C_lc c) (C_ac c)), (b, cS t)]) C i0_ tyX0_ok nmX0 0 rfl (ci := 0) rfl 2 (by decide) w3_ rfl rfl rfl rfl rfl (Nat.le_of_ble_eq_true rfl) rfl dX0_open_13 (pc2 := 16) rfl ?_
  refine pk_aload_n C 0 dX0_open_16 rfl rfl (pc2 := 17) rfl ?_
  refine pk_aload_n C 1 dX0_open_17 rfl rfl (pc2 := 18) rfl ?_
  refine pk_get (v := .long (P_co pt)) C i2_ (pw_atP hpL hpF) (ci := 2) rfl 0 (by decide) w4_ rfl rfl dX0_open_18 (pc2 := 21) rfl ?_
  refine pk_putX (X' := [(a, kC b (P_me pt) (P_ra pt) (P_co pt) (C_al c) (C_re c) (C_lo c) (C_rs c) (C_li c) (C_he c) (C_go c) (C_br c) (C_cu c) (C_lc c) (C_ac c)), (b, cS t)]) C i0_ tyX0_ok nmX0 0 rfl (ci := 0) rfl 3 (by decide) w5_ rfl rfl rfl rfl rfl (Nat.le_of_ble_eq_true rfl) rfl dX0_open_21 (pc2 := 24) rfl ?_
  refine pk_aload_n C 0 dX0_open_24 rfl rfl (pc2 := 25) rfl ?_
  refine pk_lconst (v := 0) C dX0_open_25 (by decide) (pc2 := 26) rfl ?_
  refine pk_putX (X' := [(a, kC b (P_me pt) (P_ra pt) (P_co pt) 0 (C_re c) (C_lo c) (C_rs c) (C_li c) (C_he c) (C_go c) (C_br c) (C_cu c) (C_lc c) (C_ac c)), (b, cS t)]) C i0_ tyX0_ok nmX0 0 rfl (ci := 0) rfl 4 (by decide) w6_ rfl rfl rfl rfl rfl (Nat.le_of_ble_eq_true rfl) rfl dX0_open_26 (pc2 := 29) rfl ?_
  refine pk_aload_n C 0 dX0_open_29 rfl rfl (pc2 := 30) rfl ?_
  refine pk_lconst (v := 0) C dX0_open_30 (by decide) (pc2 := 31) rfl ?_
  refine pk_putX (X' := [(a, kC b (P_me pt) (P_ra pt) (P_co pt) 0 0 (C_lo c) (C_rs c) (C_li c) (C_he c) (C_go c) (C_br c) (C_cu c) (C_lc c) (C_ac c)), (b, cS t)]) C i0_ tyX0_ok nmX0 0 rfl (ci := 0) rfl 5 (by decide) w7_ rfl rfl rfl rfl rfl (Nat.le_of_ble_eq_true rfl) rfl dX0_open_31 (pc2 := 34) rfl ?_
  refine pk_aload_n C 0 dX0_open_34 rfl rfl (pc2 := 35) rfl ?_
  refine pk_lconst (v := 0) C dX0_open_35 (by decide) (pc2 := 36) rfl ?_
  refine pk_putX (X' := [(a, kC b (P_me pt) (P_ra pt) (P_co pt) 0 0 0 (C_rs c) (C_li c) (C_he c) (C_go c) (C_br c) (C_cu c) (C_lc c) (C_ac c)), (b, cS t)]) C i0_ tyX0_ok nmX0 0 rfl (ci := 0) rfl 6 (by decide) w8_ rfl rfl rfl rfl rfl (Nat.le_of_ble_eq_true rfl) rfl dX0_open_36 (pc2 := 39) rfl ?_
  refine pk_aload_n C 0 dX0_open_39 rfl rfl (pc2 := 40) rfl ?_
  refine pk_aload_n C 1 dX0_open_40 rfl rfl (pc2 := 41) rfl ?_
  refine pk_get (v := .long (P_rs pt)) C i2_ (pw_atP hpL hpF) (ci := 2) rfl 1 (by decide) w9_ rfl rfl dX0_open_41 (pc2 := 44) rfl ?_
  refine pk_putX (X' := [(a, kC b (P_me pt) (P_ra pt) (P_co pt) 0 0 0 (P_rs pt) (C_li c) (C_he c) (C_go c) (C_br c) (C_cu c) (C_lc c) (C_ac c)), (b, cS t)]) C i0_ tyX0_ok nmX0 0 rfl (ci := 0) rfl 7 (by decide) w10_ rfl rfl rfl rfl rfl (Nat.le_of_ble_eq_true rfl) rfl dX0_open_44 (pc2 := 47) rfl ?_
  refine pk_aload_n C 0 dX0_open_47 rfl rfl (pc2 := 48) rfl ?_
  refine pk_aload_n C 1 dX0_open_48 rfl rfl (pc2 := 49) rfl ?_
  refine pk_get (v := .int (P_li pt)) C i2_ (pw_atP hpL hpF) (ci := 2) rfl 3 (by decide) w11_ rfl rfl dX0_open_49 (pc2 := 52) rfl ?_
  refine pk_putX (X' := [(a, kC b (P_me pt) (P_ra pt) (P_co pt) 0 0 0 (P_rs pt) (P_li pt) (C_he c) (C_go c) (C_br c) (C_cu c) (C_lc c) (C_ac c)), (b, cS t)]) C i0_ tyX0_ok nmX0 0 rfl (ci := 0) rfl 8 (by decide) w12_ rfl rfl rfl rfl rfl (Nat.le_of_ble_eq_true rfl) rfl dX0_open_52 (pc2 := 55) rfl ?_
  refine pk_aload_n C 0 dX0_open_55 rfl rfl (pc2 := 56) rfl ?_
  refine pk_iconst (v := 0) C dX0_open_56 (by decide) (pc2 := 57) rfl ?_
  refine pk_putX (X' := [(a, kC b (P_me pt) (P_ra pt) (P_co pt) 0 0 0 (P_rs pt) (P_li pt) 0 (C_go c) (C_br c) (C_cu c) (C_lc c) (C_ac c)), (b, cS t)]) C i0_ tyX0_ok nmX0 0 rfl (ci := 0) rfl 9 (by decide) w13_ rfl rfl rfl rfl rfl (Nat.le_of_ble_eq_true rfl) rfl dX0_open_57 (pc2 := 60) rfl ?_
  refine pk_aload_n C 0 dX0_open_60 rfl rfl (pc2 := 61) rfl ?_
  refine pk_iconst (v := 0) C dX0_open_61 (by decide) (pc2 := 62) rfl ?_
  refine pk_putX (X' := [(a, kC b (P_me pt) (P_ra pt) (P_co pt) 0 0 0 (P_rs pt) (P_li pt) 0 0 (C_br c) (C_cu c) (C_lc c) (C_ac c)), (b, cS t)]) C i0_ tyX0_ok nmX0 0 rfl (ci := 0) rfl 10 (by decide) w14_ rfl rfl rfl rfl rfl (Nat.le_of_ble_eq_true rfl) rfl dX0_open_62 (pc2 := 65) rfl ?_
  refine pk_aload_n C 0 dX0_open_65 rfl rfl (pc2 := 66) rfl ?_
  refine pk_iconst (v := 0) C dX0_open_66 (by decide) (pc2 := 67) rfl ?_
  refine pk_putX (X' := [(a, kC b (P_me pt) (P_ra pt) (P_co pt) 0 0 0 (P_rs pt) (P_li pt) 0 0 0 (C_cu c) (C_lc c) (C_ac c)), (b, cS t)]) C i0_ tyX0_ok nmX0 0 rfl (ci := 0) rfl 11 (by decide) w15_ rfl rfl rfl rfl rfl (Nat.le_of_ble_eq_true rfl) rfl dX0_open_67 (pc2 := 70) rfl ?_
  refine pk_aload_n C 0 dX0_open_70 rfl rfl (pc2 := 71) rfl ?_
  refine pk_lconst (v := 0) C dX0_open_71 (by decide) (pc2 := 72) rfl ?_
  refine pk_putX (X' := [(a, kC b (P_me pt) (P_ra pt) (P_co pt) 0 0 0 (P_rs pt) (P_li pt) 0 0 0 0 (C_lc c) (C_ac c)), (b, cS t)]) C i0_ tyX0_ok nmX0 0 rfl (ci := 0) rfl 12 (by decide) w16_ rfl rfl rfl rfl rfl (Nat.le_of_ble_eq_true rfl) rfl dX0_open_72 (pc2 := 75) rfl ?_
  refine pk_aload_n C 0 dX0_open_75 rfl rfl (pc2 := 76) rfl ?_
  refine pk_lconst (v := 0) C dX0_open_76 (by decide) (pc2 := 77) rfl ?_
  refine pk_putX (X' := [(a, kC b (P_me pt) (P_ra pt) (P_co pt) 0 0 0 (P_rs pt) (P_li pt) 0 0 0 0 0 (C_ac c)), (b, cS t)]) C i0_ tyX0_ok nmX0 0 rfl (ci := 0) rfl 13 (by decide) w17_ rfl rfl rfl rfl rfl (Nat.le_of_ble_eq_true rfl) rfl dX0_open_77 (pc2 := 80) rfl ?_
  refine pk_aload_n C 0 dX0_open_80 rfl rfl (pc2 := 81) rfl ?_
  refine pk_lconst (v := 0) C dX0_open_81 (by decide) (pc2 := 82) rfl ?_
  refine pk_putX (X' := [(a, kC b (P_me pt) (P_ra pt) (P_co pt) 0 0 0 (P_rs pt) (P_li pt) 0 0 0 0 0 0), (b, cS t)]) C i0_ tyX0_ok nmX0 0 rfl (ci := 0) rfl 14 (by decide) w18_ rfl rfl rfl rfl rfl (Nat.le_of_ble_eq_true rfl) rfl dX0_open_82 (pc2 := 85) rfl ?_
  refine pk_aload_n C 0 dX0_open_85 rfl rfl (pc2 := 86) rfl ?_
  refine pk_dV (cx := [(a, cC b (C_mk (P_me pt) (P_ra pt) (P_co pt) 0 0 0 (P_rs pt) (P_li pt) 0 0 0 0 0 0)), (b, cS t)]) (wr := []) (X2 := [(a, cC b (C_mk (P_me pt) (P_ra pt) (P_co pt) 0 0 0 (P_rs pt) (P_li pt) 0 0 0 0 0 0)), (b, cS (m_X0_beginStretch (C_mk (P_me pt) (P_ra pt) (P_co pt) 0 0 0 (P_rs pt) (P_li pt) 0 0 0 0 0 0) t))]) (st := []) (st2 := []) (As := []) C (c_X0_beginStretch (zl Z) (zG Z) L F a b (C_mk (P_me pt) (P_ra pt) (P_co pt) 0 0 0 (P_rs pt) (P_li pt) 0 0 0 0 0 0) t) gX0_open_X0_beginStretch rfl rfl rfl 0 (by decide +kernel) ⟨Nat.le_of_ble_eq_true rfl, Nat.le_of_ble_eq_true rfl⟩ (pw_atX 0 rfl) rfl rfl rfl (Nat.le_of_ble_eq_true rfl) ⟨Nat.le_of_ble_eq_true rfl, Nat.le_of_ble_eq_true rfl⟩ [0, 1] [] [0, 1] rfl rfl rfl rfl (by decide) rfl rfl dX0_open_86 (pc2 := 89) rfl rfl ?_
  generalize en1_ : (C_mk (P_me pt) (P_ra pt) (P_co pt) 0 0 0 (P_rs pt) (P_li pt) 0 0 0 0 0 0) = n1_
  generalize en2_ : (m_X0_beginStretch (C_mk (P_me pt) (P_ra pt) (P_co pt) 0 0 0 (P_rs pt) (P_li pt) 0 0 0 0 0 0) t) = n2_
  subst en1_ en2_
  exact pr_void C hE (po_d_rfl rfl (by first | with_reducible rfl | (unfold m_X0_open; with_reducible rfl))) dX0_open_89

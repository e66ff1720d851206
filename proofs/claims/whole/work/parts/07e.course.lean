def m_X0_chargeMonth (c : CR) (t : SR) (us : Int32) : CR × SR :=
  if (C_he c) = 0 then if (C_go c) = 0 then if (C_li c) = 0 then ((C_mk (C_me c) (C_ra c) (C_co c) (C_al c) (C_re c) (C_lo c) (C_rs c) (C_li c) (C_he c) (C_go c) (C_br c) (C_cu c) 0 (C_ac c)), t) else if (C_me c) = 1 then ((C_mk (C_me c) (C_ra c) (C_co c) ((C_al c) + (m_X0_decliningCharge (C_mk (C_me c) (C_ra c) (C_co c) (C_al c) (C_re c) (C_lo c) (C_rs c) (C_li c) (C_he c) (C_go c) (C_br c) (C_cu c) 0 (C_ac c)) t)) (C_re c) (C_lo c) (C_rs c) ((C_li c) - 1) (C_he c) (C_go c) (C_br c) ((C_cu c) + (Int32.toInt64 us)) (m_X0_decliningCharge (C_mk (C_me c) (C_ra c) (C_co c) (C_al c) (C_re c) (C_lo c) (C_rs c) (C_li c) (C_he c) (C_go c) (C_br c) (C_cu c) 0 (C_ac c)) t) ((C_ac c) + (m_X0_decliningCharge (C_mk (C_me c) (C_ra c) (C_co c) (C_al c) (C_re c) (C_lo c) (C_rs c) (C_li c) (C_he c) (C_go c) (C_br c) (C_cu c) 0 (C_ac c)) t))), t) else ((C_mk (C_me c) (C_ra c) (C_co c) ((C_al c) + ((m_X3_nextCharge t (C_me c) us).1)) (C_re c) (C_lo c) (C_rs c) ((C_li c) - 1) (C_he c) (C_go c) (C_br c) ((C_cu c) + (Int32.toInt64 us)) ((m_X3_nextCharge t (C_me c) us).1) ((C_ac c) + ((m_X3_nextCharge t (C_me c) us).1))), ((m_X3_nextCharge t (C_me c) us).2)) else ((C_mk (C_me c) (C_ra c) (C_co c) (C_al c) (C_re c) (C_lo c) (C_rs c) (C_li c) (C_he c) (C_go c) (C_br c) (C_cu c) 0 (C_ac c)), t) else ((C_mk (C_me c) (C_ra c) (C_co c) (C_al c) (C_re c) (C_lo c) (C_rs c) (C_li c) (C_he c) (C_go c) (C_br c) (C_cu c) 0 (C_ac c)), t)
set_option maxRecDepth 100000 in
set_option maxHeartbeats 2000000 in
theorem c_X0_chargeMonth (l : Launch) (G : pw_G) (L : List Nat) (F : Nat → va_E) (a b : Nat) (c : CR) (t : SR) (us : Int32) : PM l yX0_chargeMonth wsX0_chargeMonth ⟨3, 0, 0, 68⟩ G [.ref a, .int us] [(a, cC b c), (b, cS t)] L F 0 0 (po_d none [(a, cC b ((m_X0_chargeMonth c t us).1)), (b, cS ((m_X0_chargeMonth c t us).2))] L F) := by
  refine pm_entry (by decide) rfl rfl (Nat.le_of_ble_eq_true rfl) ?_
  intro Z Q C hl0 hG0 hnm hE
  subst hl0
  subst hG0
  have i0_ : ∀ w ∈ wsX00, w ∈ wsX0_chargeMonth := by decide +kernel
  have w0_ : Cond.fieldLink RX0 66 "AgedAssets$Course" "lastCharge" "J" ∈ wsX0_chargeMonth := by decide +kernel
  have w1_ : Cond.fieldLink RX0 53 "AgedAssets$Course" "held" "Z" ∈ wsX0_chargeMonth := by decide +kernel
  have w2_ : Cond.fieldLink RX0 57 "AgedAssets$Course" "gone" "Z" ∈ wsX0_chargeMonth := by decide +kernel
  have w3_ : Cond.fieldLink RX0 50 "AgedAssets$Course" "restOfLife" "I" ∈ wsX0_chargeMonth := by decide +kernel
  have w4_ : Cond.fieldLink RX0 24 "AgedAssets$Course" "method" "I" ∈ wsX0_chargeMonth := by decide +kernel
  have w5_ : Cond.fieldLink RX0 12 "AgedAssets$Course" "stretch" "LAgedAssets$Stretch;" ∈ wsX0_chargeMonth := by decide +kernel
  have w6_ : Cond.fieldLink RX0 63 "AgedAssets$Course" "chargedUnits" "J" ∈ wsX0_chargeMonth := by decide +kernel
  have w7_ : Cond.fieldLink RX0 34 "AgedAssets$Course" "allowance" "J" ∈ wsX0_chargeMonth := by decide +kernel
  have w8_ : Cond.fieldLink RX0 69 "AgedAssets$Course" "allCharges" "J" ∈ wsX0_chargeMonth := by decide +kernel
  show PW Z [(a, cC b c), (b, cS t)] L F 0 0 Q 0 [(0, .ref a), (1, .int us)] []
  refine pk_aload_n C 0 dX0_chargeMonth_0 rfl rfl (pc2 := 1) rfl ?_
  refine pk_lconst (v := 0) C dX0_chargeMonth_1 (by decide) (pc2 := 2) rfl ?_
  refine pk_putX (X' := [(a, kC b (C_me c) (C_ra c) (C_co c) (C_al c) (C_re c) (C_lo c) (C_rs c) (C_li c) (C_he c) (C_go c) (C_br c) (C_cu c) 0 (C_ac c)), (b, cS t)]) C i0_ tyX0_ok nmX0 0 rfl (ci := 0) rfl 13 (by decide) w0_ rfl rfl rfl rfl rfl (Nat.le_of_ble_eq_true rfl) rfl dX0_chargeMonth_2 (pc2 := 5) rfl ?_
  refine pk_aload_n C 0 dX0_chargeMonth_5 rfl rfl (pc2 := 6) rfl ?_
  refine pk_get (v := .int (C_he c)) C i0_ (pw_atX 0 rfl) (ci := 0) rfl 9 (by decide) w1_ rfl rfl dX0_chargeMonth_6 (pc2 := 9) rfl ?_
  refine pk_if_ne (tgt := 26) C dX0_chargeMonth_9 (by decide) (pc2 := 12) rfl (fun h1_ => ?_) (fun h1_ => ?_)
  ·
    refine pw_conv (X' := [(a, cC b (C_mk (C_me c) (C_ra c) (C_co c) (C_al c) (C_re c) (C_lo c) (C_rs c) (C_li c) (C_he c) (C_go c) (C_br c) (C_cu c) 0 (C_ac c))), (b, cS t)]) rfl ?_
    exact pr_void C hE (po_d_rfl rfl (by first | with_reducible rfl | (unfold m_X0_chargeMonth; rw [if_neg h1_]))) dX0_chargeMonth_26
  ·
    refine pk_aload_n C 0 dX0_chargeMonth_12 rfl rfl (pc2 := 13) rfl ?_
    refine pk_get (v := .int (C_go c)) C i0_ (pw_atX 0 rfl) (ci := 0) rfl 10 (by decide) w2_ rfl rfl dX0_chargeMonth_13 (pc2 := 16) rfl ?_
    refine pk_if_ne (tgt := 26) C dX0_chargeMonth_16 (by decide) (pc2 := 19) rfl (fun h2_ => ?_) (fun h2_ => ?_)
    ·
      refine pw_conv (X' := [(a, cC b (C_mk (C_me c) (C_ra c) (C_co c) (C_al c) (C_re c) (C_lo c) (C_rs c) (C_li c) (C_he c) (C_go c) (C_br c) (C_cu c) 0 (C_ac c))), (b, cS t)]) rfl ?_
      exact pr_void C hE (po_d_rfl rfl (by first | with_reducible rfl | (unfold m_X0_chargeMonth; rw [if_pos h1_, if_neg h2_]))) dX0_chargeMonth_26
    ·
      refine pk_aload_n C 0 dX0_chargeMonth_19 rfl rfl (pc2 := 20) rfl ?_
      refine pk_get (v := .int (C_li c)) C i0_ (pw_atX 0 rfl) (ci := 0) rfl 8 (by decide) w3_ rfl rfl dX0_chargeMonth_20 (pc2 := 23) rfl ?_
      refine pk_if_ne (tgt := 27) C dX0_chargeMonth_23 (by decide) (pc2 := 26) rfl (fun h3_ => ?_) (fun h3_ => ?_)
      ·
        refine pk_aload_n C 0 dX0_chargeMonth_27 rfl rfl (pc2 := 28) rfl ?_
        refine pk_aload_n C 0 dX0_chargeMonth_28 rfl rfl (pc2 := 29) rfl ?_
        refine pk_get (v := .int (C_me c)) C i0_ (pw_atX 0 rfl) (ci := 0) rfl 1 (by decide) w4_ rfl rfl dX0_chargeMonth_29 (pc2 := 32) rfl ?_
        refine pk_iconst (v := 1) C dX0_chargeMonth_32 (by decide) (pc2 := 33) rfl ?_
        refine pk_icmp_ne (tgt := 43) C dX0_chargeMonth_33 (by decide) (pc2 := 36) rfl (fun h4_ => ?_) (fun h4_ => ?_)
        ·
          refine pk_aload_n C 0 dX0_chargeMonth_43 rfl rfl (pc2 := 44) rfl ?_
          refine pk_get (v := .ref b) C i0_ (pw_atX 0 rfl) (ci := 0) rfl 0 (by decide) w5_ rfl rfl dX0_chargeMonth_44 (pc2 := 47) rfl ?_
          refine pk_aload_n C 0 dX0_chargeMonth_47 rfl rfl (pc2 := 48) rfl ?_
          refine pk_get (v := .int (C_me c)) C i0_ (pw_atX 0 rfl) (ci := 0) rfl 1 (by decide) w4_ rfl rfl dX0_chargeMonth_48 (pc2 := 51) rfl ?_
          refine pk_iload_n C 1 dX0_chargeMonth_51 rfl rfl (pc2 := 52) rfl ?_
          refine pk_dV (cx := [(b, cS t)]) (wr := [(a, kC b (C_me c) (C_ra c) (C_co c) (C_al c) (C_re c) (C_lo c) (C_rs c) (C_li c) (C_he c) (C_go c) (C_br c) (C_cu c) 0 (C_ac c))]) (X2 := [(a, kC b (C_me c) (C_ra c) (C_co c) (C_al c) (C_re c) (C_lo c) (C_rs c) (C_li c) (C_he c) (C_go c) (C_br c) (C_cu c) 0 (C_ac c)), (b, cS ((m_X3_nextCharge t (C_me c) us).2))]) (st := [.ref a]) (st2 := [.long ((m_X3_nextCharge t (C_me c) us).1), .ref a]) (As := [.int (C_me c), .int us]) C (c_X3_nextCharge (zl Z) (zG Z) L F b t (C_me c) us) gX0_chargeMonth_X3_nextCharge rfl rfl rfl 2 (by decide +kernel) ⟨Nat.le_of_ble_eq_true rfl, Nat.le_of_ble_eq_true rfl⟩ (pw_atX 1 rfl) rfl rfl rfl (Nat.le_of_ble_eq_true rfl) ⟨Nat.le_of_ble_eq_true rfl, Nat.le_of_ble_eq_true rfl⟩ [1] [0] [0, 1] rfl rfl rfl rfl (by decide) rfl rfl dX0_chargeMonth_52 (pc2 := 55) rfl rfl ?_
          generalize en1_ : ((m_X3_nextCharge t (C_me c) us).2) = n1_
          refine pk_topl (fun n2_ en2_ => ?_)
          refine pk_putX (X' := [(a, kC b (C_me c) (C_ra c) (C_co c) (C_al c) (C_re c) (C_lo c) (C_rs c) (C_li c) (C_he c) (C_go c) (C_br c) (C_cu c) n2_ (C_ac c)), (b, cS n1_)]) C i0_ tyX0_ok nmX0 0 rfl (ci := 0) rfl 13 (by decide) w0_ rfl rfl rfl rfl rfl (Nat.le_of_ble_eq_true rfl) rfl dX0_chargeMonth_55 (pc2 := 58) rfl ?_
          refine pk_aload_n C 0 dX0_chargeMonth_58 rfl rfl (pc2 := 59) rfl ?_
          refine pk_dup C dX0_chargeMonth_59 rfl (pc2 := 60) rfl ?_
          refine pk_get (v := .int (C_li c)) C i0_ (pw_atX 0 rfl) (ci := 0) rfl 8 (by decide) w3_ rfl rfl dX0_chargeMonth_60 (pc2 := 63) rfl ?_
          refine pk_iconst (v := 1) C dX0_chargeMonth_63 (by decide) (pc2 := 64) rfl ?_
          refine pk_isub C dX0_chargeMonth_64 (pc2 := 65) rfl ?_
          refine pk_topi (fun n3_ en3_ => ?_)
          refine pk_putX (X' := [(a, kC b (C_me c) (C_ra c) (C_co c) (C_al c) (C_re c) (C_lo c) (C_rs c) n3_ (C_he c) (C_go c) (C_br c) (C_cu c) n2_ (C_ac c)), (b, cS n1_)]) C i0_ tyX0_ok nmX0 0 rfl (ci := 0) rfl 8 (by decide) w3_ rfl rfl rfl rfl rfl (Nat.le_of_ble_eq_true rfl) rfl dX0_chargeMonth_65 (pc2 := 68) rfl ?_
          refine pk_aload_n C 0 dX0_chargeMonth_68 rfl rfl (pc2 := 69) rfl ?_
          refine pk_dup C dX0_chargeMonth_69 rfl (pc2 := 70) rfl ?_
          refine pk_get (v := .long (C_cu c)) C i0_ (pw_atX 0 rfl) (ci := 0) rfl 12 (by decide) w6_ rfl rfl dX0_chargeMonth_70 (pc2 := 73) rfl ?_
          refine pk_iload_n C 1 dX0_chargeMonth_73 rfl rfl (pc2 := 74) rfl ?_
          refine pk_i2l C dX0_chargeMonth_74 (pc2 := 75) rfl ?_
          refine pk_ladd C dX0_chargeMonth_75 (pc2 := 76) rfl ?_
          refine pk_topl (fun n4_ en4_ => ?_)
          refine pk_putX (X' := [(a, kC b (C_me c) (C_ra c) (C_co c) (C_al c) (C_re c) (C_lo c) (C_rs c) n3_ (C_he c) (C_go c) (C_br c) n4_ n2_ (C_ac c)), (b, cS n1_)]) C i0_ tyX0_ok nmX0 0 rfl (ci := 0) rfl 12 (by decide) w6_ rfl rfl rfl rfl rfl (Nat.le_of_ble_eq_true rfl) rfl dX0_chargeMonth_76 (pc2 := 79) rfl ?_
          refine pk_aload_n C 0 dX0_chargeMonth_79 rfl rfl (pc2 := 80) rfl ?_
          refine pk_dup C dX0_chargeMonth_80 rfl (pc2 := 81) rfl ?_
          refine pk_get (v := .long (C_al c)) C i0_ (pw_atX 0 rfl) (ci := 0) rfl 4 (by decide) w7_ rfl rfl dX0_chargeMonth_81 (pc2 := 84) rfl ?_
          refine pk_aload_n C 0 dX0_chargeMonth_84 rfl rfl (pc2 := 85) rfl ?_
          refine pk_get (v := .long n2_) C i0_ (pw_atX 0 rfl) (ci := 0) rfl 13 (by decide) w0_ rfl rfl dX0_chargeMonth_85 (pc2 := 88) rfl ?_
          refine pk_ladd C dX0_chargeMonth_88 (pc2 := 89) rfl ?_
          refine pk_topl (fun n5_ en5_ => ?_)
          refine pk_putX (X' := [(a, kC b (C_me c) (C_ra c) (C_co c) n5_ (C_re c) (C_lo c) (C_rs c) n3_ (C_he c) (C_go c) (C_br c) n4_ n2_ (C_ac c)), (b, cS n1_)]) C i0_ tyX0_ok nmX0 0 rfl (ci := 0) rfl 4 (by decide) w7_ rfl rfl rfl rfl rfl (Nat.le_of_ble_eq_true rfl) rfl dX0_chargeMonth_89 (pc2 := 92) rfl ?_
          refine pk_aload_n C 0 dX0_chargeMonth_92 rfl rfl (pc2 := 93) rfl ?_
          refine pk_dup C dX0_chargeMonth_93 rfl (pc2 := 94) rfl ?_
          refine pk_get (v := .long (C_ac c)) C i0_ (pw_atX 0 rfl) (ci := 0) rfl 14 (by decide) w8_ rfl rfl dX0_chargeMonth_94 (pc2 := 97) rfl ?_
          refine pk_aload_n C 0 dX0_chargeMonth_97 rfl rfl (pc2 := 98) rfl ?_
          refine pk_get (v := .long n2_) C i0_ (pw_atX 0 rfl) (ci := 0) rfl 13 (by decide) w0_ rfl rfl dX0_chargeMonth_98 (pc2 := 101) rfl ?_
          refine pk_ladd C dX0_chargeMonth_101 (pc2 := 102) rfl ?_
          refine pk_topl (fun n6_ en6_ => ?_)
          refine pk_putX (X' := [(a, kC b (C_me c) (C_ra c) (C_co c) n5_ (C_re c) (C_lo c) (C_rs c) n3_ (C_he c) (C_go c) (C_br c) n4_ n2_ n6_), (b, cS n1_)]) C i0_ tyX0_ok nmX0 0 rfl (ci := 0) rfl 14 (by decide) w8_ rfl rfl rfl rfl rfl (Nat.le_of_ble_eq_true rfl) rfl dX0_chargeMonth_102 (pc2 := 105) rfl ?_
          refine pw_conv (X' := [(a, cC b (C_mk (C_me c) (C_ra c) (C_co c) n5_ (C_re c) (C_lo c) (C_rs c) n3_ (C_he c) (C_go c) (C_br c) n4_ n2_ n6_)), (b, cS n1_)]) rfl ?_
          subst en1_ en2_ en3_ en4_ en5_ en6_
          exact pr_void C hE (po_d_rfl rfl (by first | with_reducible rfl | (unfold m_X0_chargeMonth; rw [if_pos h1_, if_pos h2_, if_neg h3_, if_neg h4_]))) dX0_chargeMonth_105
        ·
          refine pk_aload_n C 0 dX0_chargeMonth_36 rfl rfl (pc2 := 37) rfl ?_
          refine pk_dV (cx := [(a, cC b (C_mk (C_me c) (C_ra c) (C_co c) (C_al c) (C_re c) (C_lo c) (C_rs c) (C_li c) (C_he c) (C_go c) (C_br c) (C_cu c) 0 (C_ac c))), (b, cS t)]) (wr := []) (X2 := [(a, kC b (C_me c) (C_ra c) (C_co c) (C_al c) (C_re c) (C_lo c) (C_rs c) (C_li c) (C_he c) (C_go c) (C_br c) (C_cu c) 0 (C_ac c)), (b, cS t)]) (st := [.ref a]) (st2 := [.long (m_X0_decliningCharge (C_mk (C_me c) (C_ra c) (C_co c) (C_al c) (C_re c) (C_lo c) (C_rs c) (C_li c) (C_he c) (C_go c) (C_br c) (C_cu c) 0 (C_ac c)) t), .ref a]) (As := []) C (c_X0_decliningCharge (zl Z) (zG Z) L F a b (C_mk (C_me c) (C_ra c) (C_co c) (C_al c) (C_re c) (C_lo c) (C_rs c) (C_li c) (C_he c) (C_go c) (C_br c) (C_cu c) 0 (C_ac c)) t) gX0_chargeMonth_X0_decliningCharge rfl rfl rfl 0 (by decide +kernel) ⟨Nat.le_of_ble_eq_true rfl, Nat.le_of_ble_eq_true rfl⟩ (pw_atX 0 rfl) rfl rfl rfl (Nat.le_of_ble_eq_true rfl) ⟨Nat.le_of_ble_eq_true rfl, Nat.le_of_ble_eq_true rfl⟩ [0, 1] [] [0, 1] rfl rfl rfl rfl (by decide) rfl rfl dX0_chargeMonth_37 (pc2 := 40) rfl rfl ?_
          refine pk_topl (fun n7_ en7_ => ?_)
          refine pk_goto (tgt := 55) C dX0_chargeMonth_40 (by decide) ?_
          refine pk_putX (X' := [(a, kC b (C_me c) (C_ra c) (C_co c) (C_al c) (C_re c) (C_lo c) (C_rs c) (C_li c) (C_he c) (C_go c) (C_br c) (C_cu c) n7_ (C_ac c)), (b, cS t)]) C i0_ tyX0_ok nmX0 0 rfl (ci := 0) rfl 13 (by decide) w0_ rfl rfl rfl rfl rfl (Nat.le_of_ble_eq_true rfl) rfl dX0_chargeMonth_55 (pc2 := 58) rfl ?_
          refine pk_aload_n C 0 dX0_chargeMonth_58 rfl rfl (pc2 := 59) rfl ?_
          refine pk_dup C dX0_chargeMonth_59 rfl (pc2 := 60) rfl ?_
          refine pk_get (v := .int (C_li c)) C i0_ (pw_atX 0 rfl) (ci := 0) rfl 8 (by decide) w3_ rfl rfl dX0_chargeMonth_60 (pc2 := 63) rfl ?_
          refine pk_iconst (v := 1) C dX0_chargeMonth_63 (by decide) (pc2 := 64) rfl ?_
          refine pk_isub C dX0_chargeMonth_64 (pc2 := 65) rfl ?_
          refine pk_topi (fun n8_ en8_ => ?_)
          refine pk_putX (X' := [(a, kC b (C_me c) (C_ra c) (C_co c) (C_al c) (C_re c) (C_lo c) (C_rs c) n8_ (C_he c) (C_go c) (C_br c) (C_cu c) n7_ (C_ac c)), (b, cS t)]) C i0_ tyX0_ok nmX0 0 rfl (ci := 0) rfl 8 (by decide) w3_ rfl rfl rfl rfl rfl (Nat.le_of_ble_eq_true rfl) rfl dX0_chargeMonth_65 (pc2 := 68) rfl ?_
          refine pk_aload_n C 0 dX0_chargeMonth_68 rfl rfl (pc2 := 69) rfl ?_
          refine pk_dup C dX0_chargeMonth_69 rfl (pc2 := 70) rfl ?_
          refine pk_get (v := .long (C_cu c)) C i0_ (pw_atX 0 rfl) (ci := 0) rfl 12 (by decide) w6_ rfl rfl dX0_chargeMonth_70 (pc2 := 73) rfl ?_
          refine pk_iload_n C 1 dX0_chargeMonth_73 rfl rfl (pc2 := 74) rfl ?_
          refine pk_i2l C dX0_chargeMonth_74 (pc2 := 75) rfl ?_
          refine pk_ladd C dX0_chargeMonth_75 (pc2 := 76) rfl ?_
          refine pk_topl (fun n9_ en9_ => ?_)
          refine pk_putX (X' := [(a, kC b (C_me c) (C_ra c) (C_co c) (C_al c) (C_re c) (C_lo c) (C_rs c) n8_ (C_he c) (C_go c) (C_br c) n9_ n7_ (C_ac c)), (b, cS t)]) C i0_ tyX0_ok nmX0 0 rfl (ci := 0) rfl 12 (by decide) w6_ rfl rfl rfl rfl rfl (Nat.le_of_ble_eq_true rfl) rfl dX0_chargeMonth_76 (pc2 := 79) rfl ?_
          refine pk_aload_n C 0 dX0_chargeMonth_79 rfl rfl (pc2 := 80) rfl ?_
          refine pk_dup C dX0_chargeMonth_80 rfl (pc2 := 81) rfl ?_
          refine pk_get (v := .long (C_al c)) C i0_ (pw_atX 0 rfl) (ci := 0) rfl 4 (by decide) w7_ rfl rfl dX0_chargeMonth_81 (pc2 := 84) rfl ?_
          refine pk_aload_n C 0 dX0_chargeMonth_84 rfl rfl (pc2 := 85) rfl ?_
          refine pk_get (v := .long n7_) C i0_ (pw_atX 0 rfl) (ci := 0) rfl 13 (by decide) w0_ rfl rfl dX0_chargeMonth_85 (pc2 := 88) rfl ?_
          refine pk_ladd C dX0_chargeMonth_88 (pc2 := 89) rfl ?_
          refine pk_topl (fun n10_ en10_ => ?_)
          refine pk_putX (X' := [(a, kC b (C_me c) (C_ra c) (C_co c) n10_ (C_re c) (C_lo c) (C_rs c) n8_ (C_he c) (C_go c) (C_br c) n9_ n7_ (C_ac c)), (b, cS t)]) C i0_ tyX0_ok nmX0 0 rfl (ci := 0) rfl 4 (by decide) w7_ rfl rfl rfl rfl rfl (Nat.le_of_ble_eq_true rfl) rfl dX0_chargeMonth_89 (pc2 := 92) rfl ?_
          refine pk_aload_n C 0 dX0_chargeMonth_92 rfl rfl (pc2 := 93) rfl ?_
          refine pk_dup C dX0_chargeMonth_93 rfl (pc2 := 94) rfl ?_
          refine pk_get (v := .long (C_ac c)) C i0_ (pw_atX 0 rfl) (ci := 0) rfl 14 (by decide) w8_ rfl rfl dX0_chargeMonth_94 (pc2 := 97) rfl ?_
          refine pk_aload_n C 0 dX0_chargeMonth_97 rfl rfl (pc2 := 98) rfl ?_
          refine pk_get (v := .long n7_) C i0_ (pw_atX 0 rfl) (ci := 0) rfl 13 (by decide) w0_ rfl rfl dX0_chargeMonth_98 (pc2 := 101) rfl ?_
          refine pk_ladd C dX0_chargeMonth_101 (pc2 := 102) rfl ?_
          refine pk_topl (fun n11_ en11_ => ?_)
          refine pk_putX (X' := [(a, kC b (C_me c) (C_ra c) (C_co c) n10_ (C_re c) (C_lo c) (C_rs c) n8_ (C_he c) (C_go c) (C_br c) n9_ n7_ n11_), (b, cS t)]) C i0_ tyX0_ok nmX0 0 rfl (ci := 0) rfl 14 (by decide) w8_ rfl rfl rfl rfl rfl (Nat.le_of_ble_eq_true rfl) rfl dX0_chargeMonth_102 (pc2 := 105) rfl ?_
          refine pw_conv (X' := [(a, cC b (C_mk (C_me c) (C_ra c) (C_co c) n10_ (C_re c) (C_lo c) (C_rs c) n8_ (C_he c) (C_go c) (C_br c) n9_ n7_ n11_)), (b, cS t)]) rfl ?_
          subst en7_ en8_ en9_ en10_ en11_
          exact pr_void C hE (po_d_rfl rfl (by first | with_reducible rfl | (unfold m_X0_chargeMonth; rw [if_pos h1_, if_pos h2_, if_neg h3_, if_pos h4_]))) dX0_chargeMonth_105
      ·
        refine pw_conv (X' := [(a, cC b (C_mk (C_me c) (C_ra c) (C_co c) (C_al c) (C_re c) (C_lo c) (C_rs c) (C_li c) (C_he c) (C_go c) (C_br c) (C_cu c) 0 (C_ac c))), (b, cS t)]) rfl ?_
        exact pr_void C hE (po_d_rfl rfl (by first | with_reducible rfl | (unfold m_X0_chargeMonth; rw [if_pos h1_, if_pos h2_, if_pos h3_]))) dX0_chargeMonth_26

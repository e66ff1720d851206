def m_X5_declining (c : MR) (T : TR) (p : Int32) (lb : Int32) : Int64 :=
  if 0 < ((m_X5_book c T) - (M_rs c)) then if (m_X5_rounded ((m_X5_book c T) * (Int32.toInt64 ((T_ra T) (Int32.toNatClampNeg p)))) (1000000)) ≤ (m_X5_rounded ((m_X5_book c T) - (M_rs c)) (Int32.toInt64 lb)) then if lb = 1 then ((m_X5_book c T) - (M_rs c)) else if (m_X5_rounded ((m_X5_book c T) - (M_rs c)) (Int32.toInt64 lb)) ≤ ((m_X5_book c T) - (M_rs c)) then (m_X5_rounded ((m_X5_book c T) - (M_rs c)) (Int32.toInt64 lb)) else ((m_X5_book c T) - (M_rs c)) else if lb = 1 then ((m_X5_book c T) - (M_rs c)) else if (m_X5_rounded ((m_X5_book c T) * (Int32.toInt64 ((T_ra T) (Int32.toNatClampNeg p)))) (1000000)) ≤ ((m_X5_book c T) - (M_rs c)) then (m_X5_rounded ((m_X5_book c T) * (Int32.toInt64 ((T_ra T) (Int32.toNatClampNeg p)))) (1000000)) else ((m_X5_book c T) - (M_rs c)) else 0
set_option maxRecDepth 100000 in
set_option maxHeartbeats 2000000 in
theorem c_X5_declining (l : Launch) (G : pw_G) (L : List Nat) (F : Nat → va_E) (m : Nat) (rf : Nat → Nat) (c : MR) (T : TR) (p : Int32) (lb : Int32) (hp : vp_in p 6) (hlb : 1 ≤ lb.toInt) : PM l yX5_declining wsX5_declining ⟨1, 0, 0, 23⟩ G [.ref m, .int p, .int lb] (mX G m rf c T) L F 0 0 (po_d (some (.long (m_X5_declining c T p lb))) (mX G m rf c T) L F) := by
  refine pm_entry (by decide) rfl rfl (Nat.le_of_ble_eq_true rfl) ?_
  intro Z Q C hl0 hG0 hnm hE
  subst hl0
  subst hG0
  have i5_ : ∀ w ∈ wsX50, w ∈ wsX5_declining := by decide +kernel
  have w0_ : Cond.fieldLink RX5 79 "AgedAssetsModel" "residual" "J" ∈ wsX5_declining := by decide +kernel
  have w1_ : Cond.fieldLink RX5 26 "AgedAssetsModel" "rates" "[I" ∈ wsX5_declining := by decide +kernel
  have w2_ : Cond.constantLong RX5 119 (1000000) ∈ wsX5_declining := by decide +kernel
  show PW Z (mX (zG Z) m rf c T) L F 0 0 Q 0 [(0, .ref m), (1, .int p), (2, .int lb)] []
  refine pk_aload_n C 0 dX5_declining_0 rfl rfl (pc2 := 1) rfl ?_
  refine pk_dV (cx := (mX (zG Z) m rf c T)) (wr := []) (X2 := (mX (zG Z) m rf c T)) (st := []) (st2 := [.long (m_X5_book c T)]) (As := []) C (c_X5_book (zl Z) (zG Z) L F m rf c T) gX5_declining_X5_book rfl rfl rfl 0 (by decide +kernel) ⟨Nat.le_of_ble_eq_true rfl, Nat.le_of_ble_eq_true rfl⟩ (pw_atX 0 rfl) rfl rfl rfl (Nat.le_of_ble_eq_true rfl) ⟨Nat.le_of_ble_eq_true rfl, Nat.le_of_ble_eq_true rfl⟩ [0, 1, 2, 3, 4, 5, 6, 7, 8, 9, 10, 11, 12, 13, 14, 15] [] [0, 1, 2, 3, 4, 5, 6, 7, 8, 9, 10, 11, 12, 13, 14, 15] rfl rfl rfl rfl (by decide) rfl rfl dX5_declining_1 (pc2 := 4) rfl rfl ?_
  refine pk_topl (fun n1_ en1_ => ?_)
  refine pk_aload_n C 0 dX5_declining_4 rfl rfl (pc2 := 5) rfl ?_
  refine pk_get (v := .long (M_rs c)) C i5_ (pw_atX 0 rfl) (ci := 5) rfl 21 (by decide) w0_ rfl rfl dX5_declining_5 (pc2 := 8) rfl ?_
  refine pk_lsub C dX5_declining_8 (pc2 := 9) rfl ?_
  refine pk_topl (fun n2_ en2_ => ?_)
  refine pk_lstore_n (lv' := [(3, .long n2_), (0, .ref m), (1, .int p), (2, .int lb)]) C dX5_declining_9 rfl (by decide) rfl (pc2 := 10) rfl ?_
  refine pk_lload_n C 0 dX5_declining_10 rfl rfl (pc2 := 11) rfl ?_
  refine pk_lconst (v := 0) C dX5_declining_11 (by decide) (pc2 := 12) rfl ?_
  refine pk_lcmp_gt (tgt := 18) C dX5_declining_12 dX5_declining_13 (pc1 := 13) rfl (by decide) (pc2 := 16) rfl (fun h1_ => ?_) (fun h1_ => ?_)
  ·
    refine pk_aload_n C 1 dX5_declining_18 rfl rfl (pc2 := 19) rfl ?_
    refine pk_dV (cx := (mX (zG Z) m rf c T)) (wr := []) (X2 := (mX (zG Z) m rf c T)) (st := []) (st2 := [.long (m_X5_book c T)]) (As := []) C (c_X5_book (zl Z) (zG Z) L F m rf c T) gX5_declining_X5_book rfl rfl rfl 0 (by decide +kernel) ⟨Nat.le_of_ble_eq_true rfl, Nat.le_of_ble_eq_true rfl⟩ (pw_atX 0 rfl) rfl rfl rfl (Nat.le_of_ble_eq_true rfl) ⟨Nat.le_of_ble_eq_true rfl, Nat.le_of_ble_eq_true rfl⟩ [0, 1, 2, 3, 4, 5, 6, 7, 8, 9, 10, 11, 12, 13, 14, 15] [] [0, 1, 2, 3, 4, 5, 6, 7, 8, 9, 10, 11, 12, 13, 14, 15] rfl rfl rfl rfl (by decide) rfl rfl dX5_declining_19 (pc2 := 22) rfl rfl ?_
    refine pk_topl (fun n3_ en3_ => ?_)
    refine pk_aload_n C 1 dX5_declining_22 rfl rfl (pc2 := 23) rfl ?_
    refine pk_get (v := .ref (rf 5)) C i5_ (pw_atX 0 rfl) (ci := 5) rfl 7 (by decide) w1_ rfl rfl dX5_declining_23 (pc2 := 26) rfl ?_
    refine pk_iload_n C 2 dX5_declining_26 rfl rfl (pc2 := 27) rfl ?_
    refine pk_iald (v := ((T_ra T) (Int32.toNatClampNeg p))) C (pw_atX 6 rfl) hp rfl dX5_declining_27 (pc2 := 28) rfl ?_
    refine pk_i2l C dX5_declining_28 (pc2 := 29) rfl ?_
    refine pk_lmul C dX5_declining_29 (pc2 := 30) rfl ?_
    refine pk_ldc2 C w2_ dX5_declining_30 (pc2 := 33) rfl ?_
    refine pk_dS (cx := []) (wr := (mX (zG Z) m rf c T)) (X2 := (mX (zG Z) m rf c T)) (st := []) (st2 := [.long (m_X5_rounded (n3_ * (Int32.toInt64 ((T_ra T) (Int32.toNatClampNeg p)))) (1000000))]) (As := [.long (n3_ * (Int32.toInt64 ((T_ra T) (Int32.toNatClampNeg p)))), .long (1000000)]) C (c_X5_rounded (zl Z) (zG Z) L F (n3_ * (Int32.toInt64 ((T_ra T) (Int32.toNatClampNeg p)))) (1000000) (by decide)) gX5_declining_X5_rounded rfl rfl rfl 2 (by decide +kernel) ⟨Nat.le_of_ble_eq_true rfl, Nat.le_of_ble_eq_true rfl⟩ rfl rfl (Nat.le_of_ble_eq_true rfl) ⟨Nat.le_of_ble_eq_true rfl, Nat.le_of_ble_eq_true rfl⟩ [] [0, 1, 2, 3, 4, 5, 6, 7, 8, 9, 10, 11, 12, 13, 14, 15] [0, 1, 2, 3, 4, 5, 6, 7, 8, 9, 10, 11, 12, 13, 14, 15] rfl rfl rfl rfl (by decide) rfl rfl dX5_declining_33 (pc2 := 36) rfl rfl ?_
    refine pk_topl (fun n4_ en4_ => ?_)
    refine pk_lstore (lv' := [(5, .long n4_), (3, .long n2_), (0, .ref m), (1, .int p), (2, .int lb)]) C dX5_declining_36 (by decide) rfl (pc2 := 38) rfl ?_
    refine pk_lload_n C 1 dX5_declining_38 rfl rfl (pc2 := 39) rfl ?_
    refine pk_iload_n C 4 dX5_declining_39 rfl rfl (pc2 := 40) rfl ?_
    refine pk_i2l C dX5_declining_40 (pc2 := 41) rfl ?_
    refine pk_dS (cx := []) (wr := (mX (zG Z) m rf c T)) (X2 := (mX (zG Z) m rf c T)) (st := []) (st2 := [.long (m_X5_rounded n2_ (Int32.toInt64 lb))]) (As := [.long n2_, .long (Int32.toInt64 lb)]) C (c_X5_rounded (zl Z) (zG Z) L F n2_ (Int32.toInt64 lb) (ld_b hlb)) gX5_declining_X5_rounded rfl rfl rfl 2 (by decide +kernel) ⟨Nat.le_of_ble_eq_true rfl, Nat.le_of_ble_eq_true rfl⟩ rfl rfl (Nat.le_of_ble_eq_true rfl) ⟨Nat.le_of_ble_eq_true rfl, Nat.le_of_ble_eq_true rfl⟩ [] [0, 1, 2, 3, 4, 5, 6, 7, 8, 9, 10, 11, 12, 13, 14, 15] [0, 1, 2, 3, 4, 5, 6, 7, 8, 9, 10, 11, 12, 13, 14, 15] rfl rfl rfl rfl (by decide) rfl rfl dX5_declining_41 (pc2 := 44) rfl rfl ?_
    refine pk_topl (fun n5_ en5_ => ?_)
    refine pk_lstore (lv' := [(7, .long n5_), (5, .long n4_), (3, .long n2_), (0, .ref m), (1, .int p), (2, .int lb)]) C dX5_declining_44 (by decide) rfl (pc2 := 46) rfl ?_
    refine pk_lload C 1 dX5_declining_46 rfl (pc2 := 48) rfl ?_
    refine pk_lload C 0 dX5_declining_48 rfl (pc2 := 50) rfl ?_
    refine pk_lcmp_le (tgt := 59) C dX5_declining_50 dX5_declining_51 (pc1 := 51) rfl (by decide) (pc2 := 54) rfl (fun h2_ => ?_) (fun h2_ => ?_)
    ·
      refine pk_lload C 0 dX5_declining_59 rfl (pc2 := 61) rfl ?_
      refine pk_lstore (lv' := [(9, .long n5_), (7, .long n5_), (5, .long n4_), (3, .long n2_), (0, .ref m), (1, .int p), (2, .int lb)]) C dX5_declining_61 (by decide) rfl (pc2 := 63) rfl ?_
      refine pk_iload_n C 6 dX5_declining_63 rfl rfl (pc2 := 64) rfl ?_
      refine pk_iconst (v := 1) C dX5_declining_64 (by decide) (pc2 := 65) rfl ?_
      refine pk_icmp_eq (tgt := 75) C dX5_declining_65 (by decide) (pc2 := 68) rfl (fun h3_ => ?_) (fun h3_ => ?_)
      ·
        refine pk_lload_n C 3 dX5_declining_75 rfl rfl (pc2 := 76) rfl ?_
        refine pk_goto (tgt := 81) C dX5_declining_76 (by decide) ?_
        subst en1_ en2_ en3_ en4_ en5_
        exact pr_long C hE (po_d_rfl (by first | with_reducible rfl | (unfold m_X5_declining; rw [if_pos h1_, if_pos h2_, if_pos h3_])) (by first | with_reducible rfl | (unfold m_X5_declining; rw [if_pos h1_, if_pos h2_, if_pos h3_]))) dX5_declining_81
      ·
        refine pk_lload C 0 dX5_declining_68 rfl (pc2 := 70) rfl ?_
        refine pk_lload_n C 3 dX5_declining_70 rfl rfl (pc2 := 71) rfl ?_
        refine pk_lcmp_le (tgt := 79) C dX5_declining_71 dX5_declining_72 (pc1 := 72) rfl (by decide) (pc2 := 75) rfl (fun h4_ => ?_) (fun h4_ => ?_)
        ·
          refine pk_lload C 0 dX5_declining_79 rfl (pc2 := 81) rfl ?_
          subst en1_ en2_ en3_ en4_ en5_
          exact pr_long C hE (po_d_rfl (by first | with_reducible rfl | (unfold m_X5_declining; rw [if_pos h1_, if_pos h2_, if_neg h3_, if_pos h4_])) (by first | with_reducible rfl | (unfold m_X5_declining; rw [if_pos h1_, if_pos h2_, if_neg h3_, if_pos h4_]))) dX5_declining_81
        ·
          refine pk_lload_n C 3 dX5_declining_75 rfl rfl (pc2 := 76) rfl ?_
          refine pk_goto (tgt := 81) C dX5_declining_76 (by decide) ?_
          subst en1_ en2_ en3_ en4_ en5_
          exact pr_long C hE (po_d_rfl (by first | with_reducible rfl | (unfold m_X5_declining; rw [if_pos h1_, if_pos h2_, if_neg h3_, if_neg h4_])) (by first | with_reducible rfl | (unfold m_X5_declining; rw [if_pos h1_, if_pos h2_, if_neg h3_, if_neg h4_]))) dX5_declining_81
    ·
      refine pk_lload C 1 dX5_declining_54 rfl (pc2 := 56) rfl ?_
      refine pk_goto (tgt := 61) C dX5_declining_56 (by decide) ?_
      refine pk_lstore (lv' := [(9, .long n4_), (7, .long n5_), (5, .long n4_), (3, .long n2_), (0, .ref m), (1, .int p), (2, .int lb)]) C dX5_declining_61 (by decide) rfl (pc2 := 63) rfl ?_
      refine pk_iload_n C 6 dX5_declining_63 rfl rfl (pc2 := 64) rfl ?_
      refine pk_iconst (v := 1) C dX5_declining_64 (by decide) (pc2 := 65) rfl ?_
      refine pk_icmp_eq (tgt := 75) C dX5_declining_65 (by decide) (pc2 := 68) rfl (fun h5_ => ?_) (fun h5_ => ?_)
      ·
        refine pk_lload_n C 3 dX5_declining_75 rfl rfl (pc2 := 76) rfl ?_
        refine pk_goto (tgt := 81) C dX5_declining_76 (by decide) ?_
        subst en1_ en2_ en3_ en4_ en5_
        exact pr_long C hE (po_d_rfl (by first | with_reducible rfl | (unfold m_X5_declining; rw [if_pos h1_, if_neg h2_, if_pos h5_])) (by first | with_reducible rfl | (unfold m_X5_declining; rw [if_pos h1_, if_neg h2_, if_pos h5_]))) dX5_declining_81
      ·
        refine pk_lload C 0 dX5_declining_68 rfl (pc2 := 70) rfl ?_
        refine pk_lload_n C 3 dX5_declining_70 rfl rfl (pc2 := 71) rfl ?_
        refine pk_lcmp_le (tgt := 79) C dX5_declining_71 dX5_declining_72 (pc1 := 72) rfl (by decide) (pc2 := 75) rfl (fun h6_ => ?_) (fun h6_ => ?_)
        ·
          refine pk_lload C 0 dX5_declining_79 rfl (pc2 := 81) rfl ?_
          subst en1_ en2_ en3_ en4_ en5_
          exact pr_long C hE (po_d_rfl (by first | with_reducible rfl | (unfold m_X5_declining; rw [if_pos h1_, if_neg h2_, if_neg h5_, if_pos h6_])) (by first | with_reducible rfl | (unfold m_X5_declining; rw [if_pos h1_, if_neg h2_, if_neg h5_, if_pos h6_]))) dX5_declining_81
        ·
          refine pk_lload_n C 3 dX5_declining_75 rfl rfl (pc2 := 76) rfl ?_
          refine pk_goto (tgt := 81) C dX5_declining_76 (by decide) ?_
          subst en1_ en2_ en3_ en4_ en5_
          exact pr_long C hE (po_d_rfl (by first | with_reducible rfl | (unfold m_X5_declining; rw [if_pos h1_, if_neg h2_, if_neg h5_, if_neg h6_])) (by first | with_reducible rfl | (unfold m_X5_declining; rw [if_pos h1_, if_neg h2_, if_neg h5_, if_neg h6_]))) dX5_declining_81
  ·
    refine pk_lconst (v := 0) C dX5_declining_16 (by decide) (pc2 := 17) rfl ?_
    subst en1_ en2_
    exact pr_long C hE (po_d_rfl (by first | with_reducible rfl | (unfold m_X5_declining; rw [if_neg h1_])) (by first | with_reducible rfl | (unfold m_X5_declining; rw [if_neg h1_]))) dX5_declining_17

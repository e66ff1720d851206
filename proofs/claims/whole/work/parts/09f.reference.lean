def m_X5_together (c : MR) (T : TR) (p : Int32) : Int64 :=
  if ((T_me T) (Int32.toNatClampNeg p)) = 0 then (m_X5_rounded ((M_ba c) * (Int32.toInt64 (M_mo c))) (Int32.toInt64 (M_le c))) else if ((T_me T) (Int32.toNatClampNeg p)) = 2 then (m_X5_rounded ((M_ba c) * (((Int32.toInt64 (M_mo c)) * (Int32.toInt64 (M_le c))) - (((Int32.toInt64 (M_mo c)) * (Int32.toInt64 ((M_mo c) - 1))) / (2)))) (((Int32.toInt64 (M_le c)) * (Int32.toInt64 ((M_le c) + 1))) / (2))) else if (M_lf c) ≤ (M_un c) then if (M_lf c) = 0 then (M_ba c) else (m_X5_rounded ((M_ba c) * (Int32.toInt64 (M_lf c))) (Int32.toInt64 (M_lf c))) else if (M_lf c) = 0 then (M_ba c) else (m_X5_rounded ((M_ba c) * (Int32.toInt64 (M_un c))) (Int32.toInt64 (M_lf c)))
set_option maxRecDepth 100000 in
set_option maxHeartbeats 2000000 in
theorem c_X5_together (l : Launch) (G : pw_G) (L : List Nat) (F : Nat → va_E) (m : Nat) (rf : Nat → Nat) (c : MR) (T : TR) (p : Int32) (hp : vp_in p 6) (hle : 1 ≤ (M_le c).toInt ∧ (M_le c).toInt ≤ 36) : PM l yX5_together wsX5_together ⟨1, 0, 0, 23⟩ G [.ref m, .int p] (mX G m rf c T) L F 0 0 (po_d (some (.long (m_X5_together c T p))) (mX G m rf c T) L F) := by
  refine pm_entry (by decide) rfl rfl (Nat.le_of_ble_eq_true rfl) ?_
  intro Z Q C hl0 hG0 hnm hE
  subst hl0
  subst hG0
  have i5_ : ∀ w ∈ wsX50, w ∈ wsX5_together := by decide +kernel
  have w0_ : Cond.fieldLink RX5 23 "AgedAssetsModel" "methods" "[I" ∈ wsX5_together := by decide +kernel
  have w1_ : Cond.fieldLink RX5 100 "AgedAssetsModel" "stretchUnits" "I" ∈ wsX5_together := by decide +kernel
  have w2_ : Cond.fieldLink RX5 94 "AgedAssetsModel" "left" "I" ∈ wsX5_together := by decide +kernel
  have w3_ : Cond.fieldLink RX5 82 "AgedAssetsModel" "base" "J" ∈ wsX5_together := by decide +kernel
  have w4_ : Cond.fieldLink RX5 97 "AgedAssetsModel" "charged" "I" ∈ wsX5_together := by decide +kernel
  have w5_ : Cond.fieldLink RX5 88 "AgedAssetsModel" "length" "I" ∈ wsX5_together := by decide +kernel
  have w6_ : Cond.constantLong RX5 60 (2) ∈ wsX5_together := by decide +kernel
  show PW Z (mX (zG Z) m rf c T) L F 0 0 Q 0 [(0, .ref m), (1, .int p)] []
  refine pk_aload_n C 0 dX5_together_0 rfl rfl (pc2 := 1) rfl ?_
  refine pk_get (v := .ref (rf 4)) C i5_ (pw_atX 0 rfl) (ci := 5) rfl 6 (by decide) w0_ rfl rfl dX5_together_1 (pc2 := 4) rfl ?_
  refine pk_iload_n C 1 dX5_together_4 rfl rfl (pc2 := 5) rfl ?_
  refine pk_iald (v := ((T_me T) (Int32.toNatClampNeg p))) C (pw_atX 5 rfl) hp rfl dX5_together_5 (pc2 := 6) rfl ?_
  refine pk_if_ne (tgt := 28) C dX5_together_6 (by decide) (pc2 := 9) rfl (fun h1_ => ?_) (fun h1_ => ?_)
  ·
    refine pk_aload_n C 0 dX5_together_28 rfl rfl (pc2 := 29) rfl ?_
    refine pk_get (v := .ref (rf 4)) C i5_ (pw_atX 0 rfl) (ci := 5) rfl 6 (by decide) w0_ rfl rfl dX5_together_29 (pc2 := 32) rfl ?_
    refine pk_iload_n C 1 dX5_together_32 rfl rfl (pc2 := 33) rfl ?_
    refine pk_iald (v := ((T_me T) (Int32.toNatClampNeg p))) C (pw_atX 5 rfl) hp rfl dX5_together_33 (pc2 := 34) rfl ?_
    refine pk_iconst (v := 2) C dX5_together_34 (by decide) (pc2 := 35) rfl ?_
    refine pk_icmp_ne (tgt := 95) C dX5_together_35 (by decide) (pc2 := 38) rfl (fun h2_ => ?_) (fun h2_ => ?_)
    ·
      refine pk_aload_n C 0 dX5_together_95 rfl rfl (pc2 := 96) rfl ?_
      refine pk_get (v := .int (M_un c)) C i5_ (pw_atX 0 rfl) (ci := 5) rfl 30 (by decide) w1_ rfl rfl dX5_together_96 (pc2 := 99) rfl ?_
      refine pk_aload_n C 0 dX5_together_99 rfl rfl (pc2 := 100) rfl ?_
      refine pk_get (v := .int (M_lf c)) C i5_ (pw_atX 0 rfl) (ci := 5) rfl 28 (by decide) w2_ rfl rfl dX5_together_100 (pc2 := 103) rfl ?_
      refine pk_icmp_ge (tgt := 113) C dX5_together_103 (by decide) (pc2 := 106) rfl (fun h3_ => ?_) (fun h3_ => ?_)
      ·
        refine pk_aload_n C 0 dX5_together_113 rfl rfl (pc2 := 114) rfl ?_
        refine pk_get (v := .int (M_lf c)) C i5_ (pw_atX 0 rfl) (ci := 5) rfl 28 (by decide) w2_ rfl rfl dX5_together_114 (pc2 := 117) rfl ?_
        refine pk_istore_n (lv' := [(2, .int (M_lf c)), (0, .ref m), (1, .int p)]) C dX5_together_117 rfl (by decide) rfl (pc2 := 118) rfl ?_
        refine pk_aload_n C 1 dX5_together_118 rfl rfl (pc2 := 119) rfl ?_
        refine pk_get (v := .int (M_lf c)) C i5_ (pw_atX 0 rfl) (ci := 5) rfl 28 (by decide) w2_ rfl rfl dX5_together_119 (pc2 := 122) rfl ?_
        refine pk_if_ne (tgt := 132) C dX5_together_122 (by decide) (pc2 := 125) rfl (fun h4_ => ?_) (fun h4_ => ?_)
        ·
          refine pk_aload_n C 1 dX5_together_132 rfl rfl (pc2 := 133) rfl ?_
          refine pk_get (v := .long (M_ba c)) C i5_ (pw_atX 0 rfl) (ci := 5) rfl 26 (by decide) w3_ rfl rfl dX5_together_133 (pc2 := 136) rfl ?_
          refine pk_iload_n C 0 dX5_together_136 rfl rfl (pc2 := 137) rfl ?_
          refine pk_i2l C dX5_together_137 (pc2 := 138) rfl ?_
          refine pk_lmul C dX5_together_138 (pc2 := 139) rfl ?_
          refine pk_aload_n C 1 dX5_together_139 rfl rfl (pc2 := 140) rfl ?_
          refine pk_get (v := .int (M_lf c)) C i5_ (pw_atX 0 rfl) (ci := 5) rfl 28 (by decide) w2_ rfl rfl dX5_together_140 (pc2 := 143) rfl ?_
          refine pk_i2l C dX5_together_143 (pc2 := 144) rfl ?_
          refine pk_dS (cx := []) (wr := (mX (zG Z) m rf c T)) (X2 := (mX (zG Z) m rf c T)) (st := []) (st2 := [.long (m_X5_rounded ((M_ba c) * (Int32.toInt64 (M_lf c))) (Int32.toInt64 (M_lf c)))]) (As := [.long ((M_ba c) * (Int32.toInt64 (M_lf c))), .long (Int32.toInt64 (M_lf c))]) C (c_X5_rounded (zl Z) (zG Z) L F ((M_ba c) * (Int32.toInt64 (M_lf c))) (Int32.toInt64 (M_lf c)) (ld_i h4_)) gX5_together_X5_rounded rfl rfl rfl 2 (by decide +kernel) ⟨Nat.le_of_ble_eq_true rfl, Nat.le_of_ble_eq_true rfl⟩ rfl rfl (Nat.le_of_ble_eq_true rfl) ⟨Nat.le_of_ble_eq_true rfl, Nat.le_of_ble_eq_true rfl⟩ [] [0, 1, 2, 3, 4, 5, 6, 7, 8, 9, 10, 11, 12, 13, 14, 15] [0, 1, 2, 3, 4, 5, 6, 7, 8, 9, 10, 11, 12, 13, 14, 15] rfl rfl rfl rfl (by decide) rfl rfl dX5_together_144 (pc2 := 147) rfl rfl ?_
          refine pk_topl (fun n1_ en1_ => ?_)
          subst en1_
          exact pr_long C hE (po_d_rfl (by first | with_reducible rfl | (unfold m_X5_together; rw [if_neg h1_, if_neg h2_, if_pos h3_, if_neg h4_])) (by first | with_reducible rfl | (unfold m_X5_together; rw [if_neg h1_, if_neg h2_, if_pos h3_, if_neg h4_]))) dX5_together_147
        ·
          refine pk_aload_n C 1 dX5_together_125 rfl rfl (pc2 := 126) rfl ?_
          refine pk_get (v := .long (M_ba c)) C i5_ (pw_atX 0 rfl) (ci := 5) rfl 26 (by decide) w3_ rfl rfl dX5_together_126 (pc2 := 129) rfl ?_
          refine pk_goto (tgt := 147) C dX5_together_129 (by decide) ?_
          exact pr_long C hE (po_d_rfl (by first | with_reducible rfl | (unfold m_X5_together; rw [if_neg h1_, if_neg h2_, if_pos h3_, if_pos h4_])) (by first | with_reducible rfl | (unfold m_X5_together; rw [if_neg h1_, if_neg h2_, if_pos h3_, if_pos h4_]))) dX5_together_147
      ·
        refine pk_aload_n C 0 dX5_together_106 rfl rfl (pc2 := 107) rfl ?_
        refine pk_get (v := .int (M_un c)) C i5_ (pw_atX 0 rfl) (ci := 5) rfl 30 (by decide) w1_ rfl rfl dX5_together_107 (pc2 := 110) rfl ?_
        refine pk_goto (tgt := 117) C dX5_together_110 (by decide) ?_
        refine pk_istore_n (lv' := [(2, .int (M_un c)), (0, .ref m), (1, .int p)]) C dX5_together_117 rfl (by decide) rfl (pc2 := 118) rfl ?_
        refine pk_aload_n C 1 dX5_together_118 rfl rfl (pc2 := 119) rfl ?_
        refine pk_get (v := .int (M_lf c)) C i5_ (pw_atX 0 rfl) (ci := 5) rfl 28 (by decide) w2_ rfl rfl dX5_together_119 (pc2 := 122) rfl ?_
        refine pk_if_ne (tgt := 132) C dX5_together_122 (by decide) (pc2 := 125) rfl (fun h5_ => ?_) (fun h5_ => ?_)
        ·
          refine pk_aload_n C 1 dX5_together_132 rfl rfl (pc2 := 133) rfl ?_
          refine pk_get (v := .long (M_ba c)) C i5_ (pw_atX 0 rfl) (ci := 5) rfl 26 (by decide) w3_ rfl rfl dX5_together_133 (pc2 := 136) rfl ?_
          refine pk_iload_n C 0 dX5_together_136 rfl rfl (pc2 := 137) rfl ?_
          refine pk_i2l C dX5_together_137 (pc2 := 138) rfl ?_
          refine pk_lmul C dX5_together_138 (pc2 := 139) rfl ?_
          refine pk_aload_n C 1 dX5_together_139 rfl rfl (pc2 := 140) rfl ?_
          refine pk_get (v := .int (M_lf c)) C i5_ (pw_atX 0 rfl) (ci := 5) rfl 28 (by decide) w2_ rfl rfl dX5_together_140 (pc2 := 143) rfl ?_
          refine pk_i2l C dX5_together_143 (pc2 := 144) rfl ?_
          refine pk_dS (cx := []) (wr := (mX (zG Z) m rf c T)) (X2 := (mX (zG Z) m rf c T)) (st := []) (st2 := [.long (m_X5_rounded ((M_ba c) * (Int32.toInt64 (M_un c))) (Int32.toInt64 (M_lf c)))]) (As := [.long ((M_ba c) * (Int32.toInt64 (M_un c))), .long (Int32.toInt64 (M_lf c))]) C (c_X5_rounded (zl Z) (zG Z) L F ((M_ba c) * (Int32.toInt64 (M_un c))) (Int32.toInt64 (M_lf c)) (ld_i h5_)) gX5_together_X5_rounded rfl rfl rfl 2 (by decide +kernel) ⟨Nat.le_of_ble_eq_true rfl, Nat.le_of_ble_eq_true rfl⟩ rfl rfl (Nat.le_of_ble_eq_true rfl) ⟨Nat.le_of_ble_eq_true rfl, Nat.le_of_ble_eq_true rfl⟩ [] [0, 1, 2, 3, 4, 5, 6, 7, 8, 9, 10, 11, 12, 13, 14, 15] [0, 1, 2, 3, 4, 5, 6, 7, 8, 9, 10, 11, 12, 13, 14, 15] rfl rfl rfl rfl (by decide) rfl rfl dX5_together_144 (pc2 := 147) rfl rfl ?_
          refine pk_topl (fun n2_ en2_ => ?_)
          subst en2_
          exact pr_long C hE (po_d_rfl (by first | with_reducible rfl | (unfold m_X5_together; rw [if_neg h1_, if_neg h2_, if_neg h3_, if_neg h5_])) (by first | with_reducible rfl | (unfold m_X5_together; rw [if_neg h1_, if_neg h2_, if_neg h3_, if_neg h5_]))) dX5_together_147
        ·
          refine pk_aload_n C 1 dX5_together_125 rfl rfl (pc2 := 126) rfl ?_
          refine pk_get (v := .long (M_ba c)) C i5_ (pw_atX 0 rfl) (ci := 5) rfl 26 (by decide) w3_ rfl rfl dX5_together_126 (pc2 := 129) rfl ?_
          refine pk_goto (tgt := 147) C dX5_together_129 (by decide) ?_
          exact pr_long C hE (po_d_rfl (by first | with_reducible rfl | (unfold m_X5_together; rw [if_neg h1_, if_neg h2_, if_neg h3_, if_pos h5_])) (by first | with_reducible rfl | (unfold m_X5_together; rw [if_neg h1_, if_neg h2_, if_neg h3_, if_pos h5_]))) dX5_together_147
    ·
      refine pk_aload_n C 0 dX5_together_38 rfl rfl (pc2 := 39) rfl ?_
      refine pk_get (v := .int (M_mo c)) C i5_ (pw_atX 0 rfl) (ci := 5) rfl 29 (by decide) w4_ rfl rfl dX5_together_39 (pc2 := 42) rfl ?_
      refine pk_i2l C dX5_together_42 (pc2 := 43) rfl ?_
      refine pk_aload_n C 0 dX5_together_43 rfl rfl (pc2 := 44) rfl ?_
      refine pk_get (v := .int (M_le c)) C i5_ (pw_atX 0 rfl) (ci := 5) rfl 27 (by decide) w5_ rfl rfl dX5_together_44 (pc2 := 47) rfl ?_
      refine pk_i2l C dX5_together_47 (pc2 := 48) rfl ?_
      refine pk_lmul C dX5_together_48 (pc2 := 49) rfl ?_
      refine pk_aload_n C 0 dX5_together_49 rfl rfl (pc2 := 50) rfl ?_
      refine pk_get (v := .int (M_mo c)) C i5_ (pw_atX 0 rfl) (ci := 5) rfl 29 (by decide) w4_ rfl rfl dX5_together_50 (pc2 := 53) rfl ?_
      refine pk_i2l C dX5_together_53 (pc2 := 54) rfl ?_
      refine pk_aload_n C 0 dX5_together_54 rfl rfl (pc2 := 55) rfl ?_
      refine pk_get (v := .int (M_mo c)) C i5_ (pw_atX 0 rfl) (ci := 5) rfl 29 (by decide) w4_ rfl rfl dX5_together_55 (pc2 := 58) rfl ?_
      refine pk_iconst (v := 1) C dX5_together_58 (by decide) (pc2 := 59) rfl ?_
      refine pk_isub C dX5_together_59 (pc2 := 60) rfl ?_
      refine pk_i2l C dX5_together_60 (pc2 := 61) rfl ?_
      refine pk_lmul C dX5_together_61 (pc2 := 62) rfl ?_
      refine pk_ldc2 C w6_ dX5_together_62 (pc2 := 65) rfl ?_
      refine pk_ldiv C dX5_together_65 (by decide) (pc2 := 66) rfl ?_
      refine pk_lsub C dX5_together_66 (pc2 := 67) rfl ?_
      refine pk_topl (fun n3_ en3_ => ?_)
      refine pk_lstore_n (lv' := [(2, .long n3_), (0, .ref m), (1, .int p)]) C dX5_together_67 rfl (by decide) rfl (pc2 := 68) rfl ?_
      refine pk_aload_n C 1 dX5_together_68 rfl rfl (pc2 := 69) rfl ?_
      refine pk_get (v := .long (M_ba c)) C i5_ (pw_atX 0 rfl) (ci := 5) rfl 26 (by decide) w3_ rfl rfl dX5_together_69 (pc2 := 72) rfl ?_
      refine pk_lload_n C 0 dX5_together_72 rfl rfl (pc2 := 73) rfl ?_
      refine pk_lmul C dX5_together_73 (pc2 := 74) rfl ?_
      refine pk_aload_n C 1 dX5_together_74 rfl rfl (pc2 := 75) rfl ?_
      refine pk_get (v := .int (M_le c)) C i5_ (pw_atX 0 rfl) (ci := 5) rfl 27 (by decide) w5_ rfl rfl dX5_together_75 (pc2 := 78) rfl ?_
      refine pk_i2l C dX5_together_78 (pc2 := 79) rfl ?_
      refine pk_aload_n C 1 dX5_together_79 rfl rfl (pc2 := 80) rfl ?_
      refine pk_get (v := .int (M_le c)) C i5_ (pw_atX 0 rfl) (ci := 5) rfl 27 (by decide) w5_ rfl rfl dX5_together_80 (pc2 := 83) rfl ?_
      refine pk_iconst (v := 1) C dX5_together_83 (by decide) (pc2 := 84) rfl ?_
      refine pk_iadd C dX5_together_84 (pc2 := 85) rfl ?_
      refine pk_i2l C dX5_together_85 (pc2 := 86) rfl ?_
      refine pk_lmul C dX5_together_86 (pc2 := 87) rfl ?_
      refine pk_ldc2 C w6_ dX5_together_87 (pc2 := 90) rfl ?_
      refine pk_ldiv C dX5_together_90 (by decide) (pc2 := 91) rfl ?_
      refine pk_dS (cx := []) (wr := (mX (zG Z) m rf c T)) (X2 := (mX (zG Z) m rf c T)) (st := []) (st2 := [.long (m_X5_rounded ((M_ba c) * n3_) (((Int32.toInt64 (M_le c)) * (Int32.toInt64 ((M_le c) + 1))) / (2)))]) (As := [.long ((M_ba c) * n3_), .long (((Int32.toInt64 (M_le c)) * (Int32.toInt64 ((M_le c) + 1))) / (2))]) C (c_X5_rounded (zl Z) (zG Z) L F ((M_ba c) * n3_) (((Int32.toInt64 (M_le c)) * (Int32.toInt64 ((M_le c) + 1))) / (2)) (ld_t hle)) gX5_together_X5_rounded rfl rfl rfl 2 (by decide +kernel) ⟨Nat.le_of_ble_eq_true rfl, Nat.le_of_ble_eq_true rfl⟩ rfl rfl (Nat.le_of_ble_eq_true rfl) ⟨Nat.le_of_ble_eq_true rfl, Nat.le_of_ble_eq_true rfl⟩ [] [0, 1, 2, 3, 4, 5, 6, 7, 8, 9, 10, 11, 12, 13, 14, 15] [0, 1, 2, 3, 4, 5, 6, 7, 8, 9, 10, 11, 12, 13, 14, 15] rfl rfl rfl rfl (by decide) rfl rfl dX5_together_91 (pc2 := 94) rfl rfl ?_
      refine pk_topl (fun n4_ en4_ => ?_)
      subst en3_ en4_
      exact pr_long C hE (po_d_rfl (by first | with_reducible rfl | (unfold m_X5_together; rw [if_neg h1_, if_pos h2_])) (by first | with_reducible rfl | (unfold m_X5_together; rw [if_neg h1_, if_pos h2_]))) dX5_together_94
  ·
    refine pk_aload_n C 0 dX5_together_9 rfl rfl (pc2 := 10) rfl ?_
    refine pk_get (v := .long (M_ba c)) C i5_ (pw_atX 0 rfl) (ci := 5) rfl 26 (by decide) w3_ rfl rfl dX5_together_10 (pc2 := 13) rfl ?_
    refine pk_aload_n C 0 dX5_together_13 rfl rfl (pc2 := 14) rfl ?_
    refine pk_get (v := .int (M_mo c)) C i5_ (pw_atX 0 rfl) (ci := 5) rfl 29 (by decide) w4_ rfl rfl dX5_together_14 (pc2 := 17) rfl ?_
    refine pk_i2l C dX5_together_17 (pc2 := 18) rfl ?_
    refine pk_lmul C dX5_together_18 (pc2 := 19) rfl ?_
    refine pk_aload_n C 0 dX5_together_19 rfl rfl (pc2 := 20) rfl ?_
    refine pk_get (v := .int (M_le c)) C i5_ (pw_atX 0 rfl) (ci := 5) rfl 27 (by decide) w5_ rfl rfl dX5_together_20 (pc2 := 23) rfl ?_
    refine pk_i2l C dX5_together_23 (pc2 := 24) rfl ?_
    refine pk_dS (cx := []) (wr := (mX (zG Z) m rf c T)) (X2 := (mX (zG Z) m rf c T)) (st := []) (st2 := [.long (m_X5_rounded ((M_ba c) * (Int32.toInt64 (M_mo c))) (Int32.toInt64 (M_le c)))]) (As := [.long ((M_ba c) * (Int32.toInt64 (M_mo c))), .long (Int32.toInt64 (M_le c))]) C (c_X5_rounded (zl Z) (zG Z) L F ((M_ba c) * (Int32.toInt64 (M_mo c))) (Int32.toInt64 (M_le c)) (ld_l hle)) gX5_together_X5_rounded rfl rfl rfl 2 (by decide +kernel) ⟨Nat.le_of_ble_eq_true rfl, Nat.le_of_ble_eq_true rfl⟩ rfl rfl (Nat.le_of_ble_eq_true rfl) ⟨Nat.le_of_ble_eq_true rfl, Nat.le_of_ble_eq_true rfl⟩ [] [0, 1, 2, 3, 4, 5, 6, 7, 8, 9, 10, 11, 12, 13, 14, 15] [0, 1, 2, 3, 4, 5, 6, 7, 8, 9, 10, 11, 12, 13, 14, 15] rfl rfl rfl rfl (by decide) rfl rfl dX5_together_24 (pc2 := 27) rfl rfl ?_
    refine pk_topl (fun n5_ en5_ => ?_)
    subst en5_
    exact pr_long C hE (po_d_rfl (by first | with_reducible rfl | (unfold m_X5_together; rw [if_pos h1_])) (by first | with_reducible rfl | (unfold m_X5_together; rw [if_pos h1_]))) dX5_together_27

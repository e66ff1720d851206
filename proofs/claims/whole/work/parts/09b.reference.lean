def m_X5_stretch (c : MR) (T : TR) (p : Int32) : MR :=
  if (m_X5_book c T) ≤ (M_rs c) then if ((T_ra T) (Int32.toNatClampNeg p)) ≤ (M_sp c) then (M_mk (M_cd c) (M_pt c) (M_mn c) (M_ev c) (M_co c) (M_al c) (M_re c) (M_lo c) (M_rs c) (M_li c) (M_he c) (M_go c) (M_sp c) 0 (M_li c) 0 0 0 0 (M_lc c) (M_ac c) (M_bd c)) else (M_mk (M_cd c) (M_pt c) (M_mn c) (M_ev c) (M_co c) (M_al c) (M_re c) (M_lo c) (M_rs c) (M_li c) (M_he c) (M_go c) (M_sp c) 0 (M_li c) (((T_ra T) (Int32.toNatClampNeg p)) - (M_sp c)) 0 0 0 (M_lc c) (M_ac c) (M_bd c)) else if ((T_ra T) (Int32.toNatClampNeg p)) ≤ (M_sp c) then (M_mk (M_cd c) (M_pt c) (M_mn c) (M_ev c) (M_co c) (M_al c) (M_re c) (M_lo c) (M_rs c) (M_li c) (M_he c) (M_go c) (M_sp c) ((m_X5_book c T) - (M_rs c)) (M_li c) 0 0 0 0 (M_lc c) (M_ac c) (M_bd c)) else (M_mk (M_cd c) (M_pt c) (M_mn c) (M_ev c) (M_co c) (M_al c) (M_re c) (M_lo c) (M_rs c) (M_li c) (M_he c) (M_go c) (M_sp c) ((m_X5_book c T) - (M_rs c)) (M_li c) (((T_ra T) (Int32.toNatClampNeg p)) - (M_sp c)) 0 0 0 (M_lc c) (M_ac c) (M_bd c))
set_option maxRecDepth 100000 in
set_option maxHeartbeats 2000000 in
theorem c_X5_stretch (l : Launch) (G : pw_G) (L : List Nat) (F : Nat → va_E) (m : Nat) (rf : Nat → Nat) (c : MR) (T : TR) (p : Int32) (hp : vp_in p 6) : PM l yX5_stretch wsX5_stretch ⟨1, 0, 0, 20⟩ G [.ref m, .int p] (mX G m rf c T) L F 0 0 (po_d none (mX G m rf (m_X5_stretch c T p) T) L F) := by
  refine pm_entry (by decide) rfl rfl (Nat.le_of_ble_eq_true rfl) ?_
  intro Z Q C hl0 hG0 hnm hE
  subst hl0
  subst hG0
  have i5_ : ∀ w ∈ wsX50, w ∈ wsX5_stretch := by decide +kernel
  have w0_ : Cond.fieldLink RX5 79 "AgedAssetsModel" "residual" "J" ∈ wsX5_stretch := by decide +kernel
  have w1_ : Cond.fieldLink RX5 82 "AgedAssetsModel" "base" "J" ∈ wsX5_stretch := by decide +kernel
  have w2_ : Cond.fieldLink RX5 85 "AgedAssetsModel" "rest" "I" ∈ wsX5_stretch := by decide +kernel
  have w3_ : Cond.fieldLink RX5 88 "AgedAssetsModel" "length" "I" ∈ wsX5_stretch := by decide +kernel
  have w4_ : Cond.fieldLink RX5 26 "AgedAssetsModel" "rates" "[I" ∈ wsX5_stretch := by decide +kernel
  have w5_ : Cond.fieldLink RX5 91 "AgedAssetsModel" "spent" "I" ∈ wsX5_stretch := by decide +kernel
  have w6_ : Cond.fieldLink RX5 94 "AgedAssetsModel" "left" "I" ∈ wsX5_stretch := by decide +kernel
  have w7_ : Cond.fieldLink RX5 97 "AgedAssetsModel" "charged" "I" ∈ wsX5_stretch := by decide +kernel
  have w8_ : Cond.fieldLink RX5 100 "AgedAssetsModel" "stretchUnits" "I" ∈ wsX5_stretch := by decide +kernel
  have w9_ : Cond.fieldLink RX5 103 "AgedAssetsModel" "done" "J" ∈ wsX5_stretch := by decide +kernel
  show PW Z (mX (zG Z) m rf c T) L F 0 0 Q 0 [(0, .ref m), (1, .int p)] []
  refine pk_aload_n C 0 dX5_stretch_0 rfl rfl (pc2 := 1) rfl ?_
  refine pk_aload_n C 0 dX5_stretch_1 rfl rfl (pc2 := 2) rfl ?_
  refine pk_dV (cx := (mX (zG Z) m rf c T)) (wr := []) (X2 := (mX (zG Z) m rf c T)) (st := [.ref m]) (st2 := [.long (m_X5_book c T), .ref m]) (As := []) C (c_X5_book (zl Z) (zG Z) L F m rf c T) gX5_stretch_X5_book rfl rfl rfl 0 (by decide +kernel) ⟨Nat.le_of_ble_eq_true rfl, Nat.le_of_ble_eq_true rfl⟩ (pw_atX 0 rfl) rfl rfl rfl (Nat.le_of_ble_eq_true rfl) ⟨Nat.le_of_ble_eq_true rfl, Nat.le_of_ble_eq_true rfl⟩ [0, 1, 2, 3, 4, 5, 6, 7, 8, 9, 10, 11, 12, 13, 14, 15] [] [0, 1, 2, 3, 4, 5, 6, 7, 8, 9, 10, 11, 12, 13, 14, 15] rfl rfl rfl rfl (by decide) rfl rfl dX5_stretch_2 (pc2 := 5) rfl rfl ?_
  refine pk_topl (fun n1_ en1_ => ?_)
  refine pk_aload_n C 0 dX5_stretch_5 rfl rfl (pc2 := 6) rfl ?_
  refine pk_get (v := .long (M_rs c)) C i5_ (pw_atX 0 rfl) (ci := 5) rfl 21 (by decide) w0_ rfl rfl dX5_stretch_6 (pc2 := 9) rfl ?_
  refine pk_lcmp_le (tgt := 25) C dX5_stretch_9 dX5_stretch_10 (pc1 := 10) rfl (by decide) (pc2 := 13) rfl (fun h1_ => ?_) (fun h1_ => ?_)
  ·
    refine pk_lconst (v := 0) C dX5_stretch_25 (by decide) (pc2 := 26) rfl ?_
    refine pk_putX (X' := ((m, kM rf (M_cd c) (M_pt c) (M_mn c) (M_ev c) (M_co c) (M_al c) (M_re c) (M_lo c) (M_rs c) (M_li c) (M_he c) (M_go c) (M_sp c) 0 (M_le c) (M_lf c) (M_mo c) (M_un c) (M_ch c) (M_lc c) (M_ac c) (M_bd c)) :: mT (zG Z) rf T)) C i5_ tyX5_ok nmX5 0 rfl (ci := 5) rfl 26 (by decide) w1_ rfl rfl rfl rfl rfl (Nat.le_of_ble_eq_true rfl) rfl dX5_stretch_26 (pc2 := 29) rfl ?_
    refine pk_aload_n C 0 dX5_stretch_29 rfl rfl (pc2 := 30) rfl ?_
    refine pk_aload_n C 0 dX5_stretch_30 rfl rfl (pc2 := 31) rfl ?_
    refine pk_get (v := .int (M_li c)) C i5_ (pw_atX 0 rfl) (ci := 5) rfl 22 (by decide) w2_ rfl rfl dX5_stretch_31 (pc2 := 34) rfl ?_
    refine pk_putX (X' := ((m, kM rf (M_cd c) (M_pt c) (M_mn c) (M_ev c) (M_co c) (M_al c) (M_re c) (M_lo c) (M_rs c) (M_li c) (M_he c) (M_go c) (M_sp c) 0 (M_li c) (M_lf c) (M_mo c) (M_un c) (M_ch c) (M_lc c) (M_ac c) (M_bd c)) :: mT (zG Z) rf T)) C i5_ tyX5_ok nmX5 0 rfl (ci := 5) rfl 27 (by decide) w3_ rfl rfl rfl rfl rfl (Nat.le_of_ble_eq_true rfl) rfl dX5_stretch_34 (pc2 := 37) rfl ?_
    refine pk_aload_n C 0 dX5_stretch_37 rfl rfl (pc2 := 38) rfl ?_
    refine pk_aload_n C 0 dX5_stretch_38 rfl rfl (pc2 := 39) rfl ?_
    refine pk_get (v := .ref (rf 5)) C i5_ (pw_atX 0 rfl) (ci := 5) rfl 7 (by decide) w4_ rfl rfl dX5_stretch_39 (pc2 := 42) rfl ?_
    refine pk_iload_n C 1 dX5_stretch_42 rfl rfl (pc2 := 43) rfl ?_
    refine pk_iald (v := ((T_ra T) (Int32.toNatClampNeg p))) C (pw_atX 6 rfl) hp rfl dX5_stretch_43 (pc2 := 44) rfl ?_
    refine pk_aload_n C 0 dX5_stretch_44 rfl rfl (pc2 := 45) rfl ?_
    refine pk_get (v := .int (M_sp c)) C i5_ (pw_atX 0 rfl) (ci := 5) rfl 25 (by decide) w5_ rfl rfl dX5_stretch_45 (pc2 := 48) rfl ?_
    refine pk_icmp_le (tgt := 65) C dX5_stretch_48 (by decide) (pc2 := 51) rfl (fun h2_ => ?_) (fun h2_ => ?_)
    ·
      refine pk_iconst (v := 0) C dX5_stretch_65 (by decide) (pc2 := 66) rfl ?_
      refine pk_putX (X' := ((m, kM rf (M_cd c) (M_pt c) (M_mn c) (M_ev c) (M_co c) (M_al c) (M_re c) (M_lo c) (M_rs c) (M_li c) (M_he c) (M_go c) (M_sp c) 0 (M_li c) 0 (M_mo c) (M_un c) (M_ch c) (M_lc c) (M_ac c) (M_bd c)) :: mT (zG Z) rf T)) C i5_ tyX5_ok nmX5 0 rfl (ci := 5) rfl 28 (by decide) w6_ rfl rfl rfl rfl rfl (Nat.le_of_ble_eq_true rfl) rfl dX5_stretch_66 (pc2 := 69) rfl ?_
      refine pk_aload_n C 0 dX5_stretch_69 rfl rfl (pc2 := 70) rfl ?_
      refine pk_iconst (v := 0) C dX5_stretch_70 (by decide) (pc2 := 71) rfl ?_
      refine pk_putX (X' := ((m, kM rf (M_cd c) (M_pt c) (M_mn c) (M_ev c) (M_co c) (M_al c) (M_re c) (M_lo c) (M_rs c) (M_li c) (M_he c) (M_go c) (M_sp c) 0 (M_li c) 0 0 (M_un c) (M_ch c) (M_lc c) (M_ac c) (M_bd c)) :: mT (zG Z) rf T)) C i5_ tyX5_ok nmX5 0 rfl (ci := 5) rfl 29 (by decide) w7_ rfl rfl rfl rfl rfl (Nat.le_of_ble_eq_true rfl) rfl dX5_stretch_71 (pc2 := 74) rfl ?_
      refine pk_aload_n C 0 dX5_stretch_74 rfl rfl (pc2 := 75) rfl ?_
      refine pk_iconst (v := 0) C dX5_stretch_75 (by decide) (pc2 := 76) rfl ?_
      refine pk_putX (X' := ((m, kM rf (M_cd c) (M_pt c) (M_mn c) (M_ev c) (M_co c) (M_al c) (M_re c) (M_lo c) (M_rs c) (M_li c) (M_he c) (M_go c) (M_sp c) 0 (M_li c) 0 0 0 (M_ch c) (M_lc c) (M_ac c) (M_bd c)) :: mT (zG Z) rf T)) C i5_ tyX5_ok nmX5 0 rfl (ci := 5) rfl 30 (by decide) w8_ rfl rfl rfl rfl rfl (Nat.le_of_ble_eq_true rfl) rfl dX5_stretch_76 (pc2 := 79) rfl ?_
      refine pk_aload_n C 0 dX5_stretch_79 rfl rfl (pc2 := 80) rfl ?_
      refine pk_lconst (v := 0) C dX5_stretch_80 (by decide) (pc2 := 81) rfl ?_
      refine pk_putX (X' := ((m, kM rf (M_cd c) (M_pt c) (M_mn c) (M_ev c) (M_co c) (M_al c) (M_re c) (M_lo c) (M_rs c) (M_li c) (M_he c) (M_go c) (M_sp c) 0 (M_li c) 0 0 0 0 (M_lc c) (M_ac c) (M_bd c)) :: mT (zG Z) rf T)) C i5_ tyX5_ok nmX5 0 rfl (ci := 5) rfl 31 (by decide) w9_ rfl rfl rfl rfl rfl (Nat.le_of_ble_eq_true rfl) rfl dX5_stretch_81 (pc2 := 84) rfl ?_
      refine pw_conv (X' := (mX (zG Z) m rf (M_mk (M_cd c) (M_pt c) (M_mn c) (M_ev c) (M_co c) (M_al c) (M_re c) (M_lo c) (M_rs c) (M_li c) (M_he c) (M_go c) (M_sp c) 0 (M_li c) 0 0 0 0 (M_lc c) (M_ac c) (M_bd c)) T)) mX_mk ?_
      subst en1_
      exact pr_void C hE (po_d_rfl rfl (by first | with_reducible rfl | (unfold m_X5_stretch; rw [if_pos h1_, if_pos h2_]))) dX5_stretch_84
    ·
      refine pk_aload_n C 0 dX5_stretch_51 rfl rfl (pc2 := 52) rfl ?_
      refine pk_get (v := .ref (rf 5)) C i5_ (pw_atX 0 rfl) (ci := 5) rfl 7 (by decide) w4_ rfl rfl dX5_stretch_52 (pc2 := 55) rfl ?_
      refine pk_iload_n C 1 dX5_stretch_55 rfl rfl (pc2 := 56) rfl ?_
      refine pk_iald (v := ((T_ra T) (Int32.toNatClampNeg p))) C (pw_atX 6 rfl) hp rfl dX5_stretch_56 (pc2 := 57) rfl ?_
      refine pk_aload_n C 0 dX5_stretch_57 rfl rfl (pc2 := 58) rfl ?_
      refine pk_get (v := .int (M_sp c)) C i5_ (pw_atX 0 rfl) (ci := 5) rfl 25 (by decide) w5_ rfl rfl dX5_stretch_58 (pc2 := 61) rfl ?_
      refine pk_isub C dX5_stretch_61 (pc2 := 62) rfl ?_
      refine pk_goto (tgt := 66) C dX5_stretch_62 (by decide) ?_
      refine pk_topi (fun n2_ en2_ => ?_)
      refine pk_putX (X' := ((m, kM rf (M_cd c) (M_pt c) (M_mn c) (M_ev c) (M_co c) (M_al c) (M_re c) (M_lo c) (M_rs c) (M_li c) (M_he c) (M_go c) (M_sp c) 0 (M_li c) n2_ (M_mo c) (M_un c) (M_ch c) (M_lc c) (M_ac c) (M_bd c)) :: mT (zG Z) rf T)) C i5_ tyX5_ok nmX5 0 rfl (ci := 5) rfl 28 (by decide) w6_ rfl rfl rfl rfl rfl (Nat.le_of_ble_eq_true rfl) rfl dX5_stretch_66 (pc2 := 69) rfl ?_
      refine pk_aload_n C 0 dX5_stretch_69 rfl rfl (pc2 := 70) rfl ?_
      refine pk_iconst (v := 0) C dX5_stretch_70 (by decide) (pc2 := 71) rfl ?_
      refine pk_putX (X' := ((m, kM rf (M_cd c) (M_pt c) (M_mn c) (M_ev c) (M_co c) (M_al c) (M_re c) (M_lo c) (M_rs c) (M_li c) (M_he c) (M_go c) (M_sp c) 0 (M_li c) n2_ 0 (M_un c) (M_ch c) (M_lc c) (M_ac c) (M_bd c)) :: mT (zG Z) rf T)) C i5_ tyX5_ok nmX5 0 rfl (ci := 5) rfl 29 (by decide) w7_ rfl rfl rfl rfl rfl (Nat.le_of_ble_eq_true rfl) rfl dX5_stretch_71 (pc2 := 74) rfl ?_
      refine pk_aload_n C 0 dX5_stretch_74 rfl rfl (pc2 := 75) rfl ?_
      refine pk_iconst (v := 0) C dX5_stretch_75 (by decide) (pc2 := 76) rfl ?_
      refine pk_putX (X' := ((m, kM rf (M_cd c) (M_pt c) (M_mn c) (M_ev c) (M_co c) (M_al c) (M_re c) (M_lo c) (M_rs c) (M_li c) (M_he c) (M_go c) (M_sp c) 0 (M_li c) n2_ 0 0 (M_ch c) (M_lc c) (M_ac c) (M_bd c)) :: mT (zG Z) rf T)) C i5_ tyX5_ok nmX5 0 rfl (ci := 5) rfl 30 (by decide) w8_ rfl rfl rfl rfl rfl (Nat.le_of_ble_eq_true rfl) rfl dX5_stretch_76 (pc2 := 79) rfl ?_
      refine pk_aload_n C 0 dX5_stretch_79 rfl rfl (pc2 := 80) rfl ?_
      refine pk_lconst (v := 0) C dX5_stretch_80 (by decide) (pc2 := 81) rfl ?_
      refine pk_putX (X' := ((m, kM rf (M_cd c) (M_pt c) (M_mn c) (M_ev c) (M_co c) (M_al c) (M_re c) (M_lo c) (M_rs c) (M_li c) (M_he c) (M_go c) (M_sp c) 0 (M_li c) n2_ 0 0 0 (M_lc c) (M_ac c) (M_bd c)) :: mT (zG Z) rf T)) C i5_ tyX5_ok nmX5 0 rfl (ci := 5) rfl 31 (by decide) w9_ rfl rfl rfl rfl rfl (Nat.le_of_ble_eq_true rfl) rfl dX5_stretch_81 (pc2 := 84) rfl ?_
      refine pw_conv (X' := (mX (zG Z) m rf (M_mk (M_cd c) (M_pt c) (M_mn c) (M_ev c) (M_co c) (M_al c) (M_re c) (M_lo c) (M_rs c) (M_li c) (M_he c) (M_go c) (M_sp c) 0 (M_li c) n2_ 0 0 0 (M_lc c) (M_ac c) (M_bd c)) T)) mX_mk ?_
      subst en1_ en2_
      exact pr_void C hE (po_d_rfl rfl (by first | with_reducible rfl | (unfold m_X5_stretch; rw [if_pos h1_, if_neg h2_]))) dX5_stretch_84
  ·
    refine pk_aload_n C 0 dX5_stretch_13 rfl rfl (pc2 := 14) rfl ?_
    refine pk_dV (cx := (mX (zG Z) m rf c T)) (wr := []) (X2 := (mX (zG Z) m rf c T)) (st := [.ref m]) (st2 := [.long (m_X5_book c T), .ref m]) (As := []) C (c_X5_book (zl Z) (zG Z) L F m rf c T) gX5_stretch_X5_book rfl rfl rfl 0 (by decide +kernel) ⟨Nat.le_of_ble_eq_true rfl, Nat.le_of_ble_eq_true rfl⟩ (pw_atX 0 rfl) rfl rfl rfl (Nat.le_of_ble_eq_true rfl) ⟨Nat.le_of_ble_eq_true rfl, Nat.le_of_ble_eq_true rfl⟩ [0, 1, 2, 3, 4, 5, 6, 7, 8, 9, 10, 11, 12, 13, 14, 15] [] [0, 1, 2, 3, 4, 5, 6, 7, 8, 9, 10, 11, 12, 13, 14, 15] rfl rfl rfl rfl (by decide) rfl rfl dX5_stretch_14 (pc2 := 17) rfl rfl ?_
    refine pk_topl (fun n3_ en3_ => ?_)
    refine pk_aload_n C 0 dX5_stretch_17 rfl rfl (pc2 := 18) rfl ?_
    refine pk_get (v := .long (M_rs c)) C i5_ (pw_atX 0 rfl) (ci := 5) rfl 21 (by decide) w0_ rfl rfl dX5_stretch_18 (pc2 := 21) rfl ?_
    refine pk_lsub C dX5_stretch_21 (pc2 := 22) rfl ?_
    refine pk_goto (tgt := 26) C dX5_stretch_22 (by decide) ?_
    refine pk_topl (fun n4_ en4_ => ?_)
    refine pk_putX (X' := ((m, kM rf (M_cd c) (M_pt c) (M_mn c) (M_ev c) (M_co c) (M_al c) (M_re c) (M_lo c) (M_rs c) (M_li c) (M_he c) (M_go c) (M_sp c) n4_ (M_le c) (M_lf c) (M_mo c) (M_un c) (M_ch c) (M_lc c) (M_ac c) (M_bd c)) :: mT (zG Z) rf T)) C i5_ tyX5_ok nmX5 0 rfl (ci := 5) rfl 26 (by decide) w1_ rfl rfl rfl rfl rfl (Nat.le_of_ble_eq_true rfl) rfl dX5_stretch_26 (pc2 := 29) rfl ?_
    refine pk_aload_n C 0 dX5_stretch_29 rfl rfl (pc2 := 30) rfl ?_
    refine pk_aload_n C 0 dX5_stretch_30 rfl rfl (pc2 := 31) rfl ?_
    refine pk_get (v := .int (M_li c)) C i5_ (pw_atX 0 rfl) (ci := 5) rfl 22 (by decide) w2_ rfl rfl dX5_stretch_31 (pc2 := 34) rfl ?_
    refine pk_putX (X' := ((m, kM rf (M_cd c) (M_pt c) (M_mn c) (M_ev c) (M_co c) (M_al c) (M_re c) (M_lo c) (M_rs c) (M_li c) (M_he c) (M_go c) (M_sp c) n4_ (M_li c) (M_lf c) (M_mo c) (M_un c) (M_ch c) (M_lc c) (M_ac c) (M_bd c)) :: mT (zG Z) rf T)) C i5_ tyX5_ok nmX5 0 rfl (ci := 5) rfl 27 (by decide) w3_ rfl rfl rfl rfl rfl (Nat.le_of_ble_eq_true rfl) rfl dX5_stretch_34 (pc2 := 37) rfl ?_
    refine pk_aload_n C 0 dX5_stretch_37 rfl rfl (pc2 := 38) rfl ?_
    refine pk_aload_n C 0 dX5_stretch_38 rfl rfl (pc2 := 39) rfl ?_
    refine pk_get (v := .ref (rf 5)) C i5_ (pw_atX 0 rfl) (ci := 5) rfl 7 (by decide) w4_ rfl rfl dX5_stretch_39 (pc2 := 42) rfl ?_
    refine pk_iload_n C 1 dX5_stretch_42 rfl rfl (pc2 := 43) rfl ?_
    refine pk_iald (v := ((T_ra T) (Int32.toNatClampNeg p))) C (pw_atX 6 rfl) hp rfl dX5_stretch_43 (pc2 := 44) rfl ?_
    refine pk_aload_n C 0 dX5_stretch_44 rfl rfl (pc2 := 45) rfl ?_
    refine pk_get (v := .int (M_sp c)) C i5_ (pw_atX 0 rfl) (ci := 5) rfl 25 (by decide) w5_ rfl rfl dX5_stretch_45 (pc2 := 48) rfl ?_
    refine pk_icmp_le (tgt := 65) C dX5_stretch_48 (by decide) (pc2 := 51) rfl (fun h3_ => ?_) (fun h3_ => ?_)
    ·
      refine pk_iconst (v := 0) C dX5_stretch_65 (by decide) (pc2 := 66) rfl ?_
      refine pk_putX (X' := ((m, kM rf (M_cd c) (M_pt c) (M_mn c) (M_ev c) (M_co c) (M_al c) (M_re c) (M_lo c) (M_rs c) (M_li c) (M_he c) (M_go c) (M_sp c) n4_ (M_li c) 0 (M_mo c) (M_un c) (M_ch c) (M_lc c) (M_ac c) (M_bd c)) :: mT (zG Z) rf T)) C i5_ tyX5_ok nmX5 0 rfl (ci := 5) rfl 28 (by decide) w6_ rfl rfl rfl rfl rfl (Nat.le_of_ble_eq_true rfl) rfl dX5_stretch_66 (pc2 := 69) rfl ?_
      refine pk_aload_n C 0 dX5_stretch_69 rfl rfl (pc2 := 70) rfl ?_
      refine pk_iconst (v := 0) C dX5_stretch_70 (by decide) (pc2 := 71) rfl ?_
      refine pk_putX (X' := ((m, kM rf (M_cd c) (M_pt c) (M_mn c) (M_ev c) (M_co c) (M_al c) (M_re c) (M_lo c) (M_rs c) (M_li c) (M_he c) (M_go c) (M_sp c) n4_ (M_li c) 0 0 (M_un c) (M_ch c) (M_lc c) (M_ac c) (M_bd c)) :: mT (zG Z) rf T)) C i5_ tyX5_ok nmX5 0 rfl (ci := 5) rfl 29 (by decide) w7_ rfl rfl rfl rfl rfl (Nat.le_of_ble_eq_true rfl) rfl dX5_stretch_71 (pc2 := 74) rfl ?_
      refine pk_aload_n C 0 dX5_stretch_74 rfl rfl (pc2 := 75) rfl ?_
      refine pk_iconst (v := 0) C dX5_stretch_75 (by decide) (pc2 := 76) rfl ?_
      refine pk_putX (X' := ((m, kM rf (M_cd c) (M_pt c) (M_mn c) (M_ev c) (M_co c) (M_al c) (M_re c) (M_lo c) (M_rs c) (M_li c) (M_he c) (M_go c) (M_sp c) n4_ (M_li c) 0 0 0 (M_ch c) (M_lc c) (M_ac c) (M_bd c)) :: mT (zG Z) rf T)) C i5_ tyX5_ok nmX5 0 rfl (ci := 5) rfl 30 (by decide) w8_ rfl rfl rfl rfl rfl (Nat.le_of_ble_eq_true rfl) rfl dX5_stretch_76 (pc2 := 79) rfl ?_
      refine pk_aload_n C 0 dX5_stretch_79 rfl rfl (pc2 := 80) rfl ?_
      refine pk_lconst (v := 0) C dX5_stretch_80 (by decide) (pc2 := 81) rfl ?_
      refine pk_putX (X' := ((m, kM rf (M_cd c) (M_pt c) (M_mn c) (M_ev c) (M_co c) (M_al c) (M_re c) (M_lo c) (M_rs c) (M_li c) (M_he c) (M_go c) (M_sp c) n4_ (M_li c) 0 0 0 0 (M_lc c) (M_ac c) (M_bd c)) :: mT (zG Z) rf T)) C i5_ tyX5_ok nmX5 0 rfl (ci := 5) rfl 31 (by decide) w9_ rfl rfl rfl rfl rfl (Nat.le_of_ble_eq_true rfl) rfl dX5_stretch_81 (pc2 := 84) rfl ?_
      refine pw_conv (X' := (mX (zG Z) m rf (M_mk (M_cd c) (M_pt c) (M_mn c) (M_ev c) (M_co c) (M_al c) (M_re c) (M_lo c) (M_rs c) (M_li c) (M_he c) (M_go c) (M_sp c) n4_ (M_li c) 0 0 0 0 (M_lc c) (M_ac c) (M_bd c)) T)) mX_mk ?_
      subst en1_ en3_ en4_
      exact pr_void C hE (po_d_rfl rfl (by first | with_reducible rfl | (unfold m_X5_stretch; rw [if_neg h1_, if_pos h3_]))) dX5_stretch_84
    ·
      refine pk_aload_n C 0 dX5_stretch_51 rfl rfl (pc2 := 52) rfl ?_
      refine pk_get (v := .ref (rf 5)) C i5_ (pw_atX 0 rfl) (ci := 5) rfl 7 (by decide) w4_ rfl rfl dX5_stretch_52 (pc2 := 55) rfl ?_
      refine pk_iload_n C 1 dX5_stretch_55 rfl rfl (pc2 := 56) rfl ?_
      refine pk_iald (v := ((T_ra T) (Int32.toNatClampNeg p))) C (pw_atX 6 rfl) hp rfl dX5_stretch_56 (pc2 := 57) rfl ?_
      refine pk_aload_n C 0 dX5_stretch_57 rfl rfl (pc2 := 58) rfl ?_
      refine pk_get (v := .int (M_sp c)) C i5_ (pw_atX 0 rfl) (ci := 5) rfl 25 (by decide) w5_ rfl rfl dX5_stretch_58 (pc2 := 61) rfl ?_
      refine pk_isub C dX5_stretch_61 (pc2 := 62) rfl ?_
      refine pk_goto (tgt := 66) C dX5_stretch_62 (by decide) ?_
      refine pk_topi (fun n5_ en5_ => ?_)
      refine pk_putX (X' := ((m, kM rf (M_cd c) (M_pt c) (M_mn c) (M_ev c) (M_co c) (M_al c) (M_re c) (M_lo c) (M_rs c) (M_li c) (M_he c) (M_go c) (M_sp c) n4_ (M_li c) n5_ (M_mo c) (M_un c) (M_ch c) (M_lc c) (M_ac c) (M_bd c)) :: mT (zG Z) rf T)) C i5_ tyX5_ok nmX5 0 rfl (ci := 5) rfl 28 (by decide) w6_ rfl rfl rfl rfl rfl (Nat.le_of_ble_eq_true rfl) rfl dX5_stretch_66 (pc2 := 69) rfl ?_
      refine pk_aload_n C 0 dX5_stretch_69 rfl rfl (pc2 := 70) rfl ?_
      refine pk_iconst (v := 0) C dX5_stretch_70 (by decide) (pc2 := 71) rfl ?_
      refine pk_putX (X' := ((m, kM rf (M_cd c) (M_pt c) (M_mn c) (M_ev c) (M_co c) (M_al c) (M_re c) (M_lo c) (M_rs c) (M_li c) (M_he c) (M_go c) (M_sp c) n4_ (M_li c) n5_ 0 (M_un c) (M_ch c) (M_lc c) (M_ac c) (M_bd c)) :: mT (zG Z) rf T)) C i5_ tyX5_ok nmX5 0 rfl (ci := 5) rfl 29 (by decide) w7_ rfl rfl rfl rfl rfl (Nat.le_of_ble_eq_true rfl) rfl dX5_stretch_71 (pc2 := 74) rfl ?_
      refine pk_aload_n C 0 dX5_stretch_74 rfl rfl (pc2 := 75) rfl ?_
      refine pk_iconst (v := 0) C dX5_stretch_75 (by decide) (pc2 := 76) rfl ?_
      refine pk_putX (X' := ((m, kM rf (M_cd c) (M_pt c) (M_mn c) (M_ev c) (M_co c) (M_al c) (M_re c) (M_lo c) (M_rs c) (M_li c) (M_he c) (M_go c) (M_sp c) n4_ (M_li c) n5_ 0 0 (M_ch c) (M_lc c) (M_ac c) (M_bd c)) :: mT (zG Z) rf T)) C i5_ tyX5_ok nmX5 0 rfl (ci := 5) rfl 30 (by decide) w8_ rfl rfl rfl rfl rfl (Nat.le_of_ble_eq_true rfl) rfl dX5_stretch_76 (pc2 := 79) rfl ?_
      refine pk_aload_n C 0 dX5_stretch_79 rfl rfl (pc2 := 80) rfl ?_
      refine pk_lconst (v := 0) C dX5_stretch_80 (by decide) (pc2 := 81) rfl ?_
      refine pk_putX (X' := ((m, kM rf (M_cd c) (M_pt c) (M_mn c) (M_ev c) (M_co c) (M_al c) (M_re c) (M_lo c) (M_rs c) (M_li c) (M_he c) (M_go c) (M_sp c) n4_ (M_li c) n5_ 0 0 0 (M_lc c) (M_ac c) (M_bd c)) :: mT (zG Z) rf T)) C i5_ tyX5_ok nmX5 0 rfl (ci := 5) rfl 31 (by decide) w9_ rfl rfl rfl rfl rfl (Nat.le_of_ble_eq_true rfl) rfl dX5_stretch_81 (pc2 := 84) rfl ?_
      refine pw_conv (X' := (mX (zG Z) m rf (M_mk (M_cd c) (M_pt c) (M_mn c) (M_ev c) (M_co c) (M_al c) (M_re c) (M_lo c) (M_rs c) (M_li c) (M_he c) (M_go c) (M_sp c) n4_ (M_li c) n5_ 0 0 0 (M_lc c) (M_ac c) (M_bd c)) T)) mX_mk ?_
      subst en1_ en3_ en4_ en5_
      exact pr_void C hE (po_d_rfl rfl (by first | with_reducible rfl | (unfold m_X5_stretch; rw [if_neg h1_, if_neg h3_]))) dX5_stretch_84
def m_X5_fall (c : MR) (T : TR) (y : Int64) : MR :=
  if (M_re c) ≤ y then (M_mk (M_cd c) (M_pt c) (M_mn c) (M_ev c) (M_co c) (M_al c) ((M_re c) - (M_re c)) (((M_lo c) + y) - (M_re c)) (M_rs c) (M_li c) (M_he c) (M_go c) (M_sp c) (M_ba c) (M_le c) (M_lf c) (M_mo c) (M_un c) (M_ch c) (M_lc c) (M_ac c) (M_bd c)) else (M_mk (M_cd c) (M_pt c) (M_mn c) (M_ev c) (M_co c) (M_al c) ((M_re c) - y) (((M_lo c) + y) - y) (M_rs c) (M_li c) (M_he c) (M_go c) (M_sp c) (M_ba c) (M_le c) (M_lf c) (M_mo c) (M_un c) (M_ch c) (M_lc c) (M_ac c) (M_bd c))
set_option maxRecDepth 100000 in
set_option maxHeartbeats 2000000 in
theorem c_X5_fall (l : Launch) (G : pw_G) (L : List Nat) (F : Nat → va_E) (m : Nat) (rf : Nat → Nat) (c : MR) (T : TR) (y : Int64) : PM l yX5_fall wsX5_fall ⟨0, 0, 0, 0⟩ G [.ref m, .long y] (mX G m rf c T) L F 0 0 (po_d none (mX G m rf (m_X5_fall c T y) T) L F) := by
  refine pm_entry (by decide) rfl rfl (Nat.le_of_ble_eq_true rfl) ?_
  intro Z Q C hl0 hG0 hnm hE
  subst hl0
  subst hG0
  have i5_ : ∀ w ∈ wsX50, w ∈ wsX5_fall := by decide +kernel
  have w0_ : Cond.fieldLink RX5 106 "AgedAssetsModel" "reserve" "J" ∈ wsX5_fall := by decide +kernel
  have w1_ : Cond.fieldLink RX5 109 "AgedAssetsModel" "losses" "J" ∈ wsX5_fall := by decide +kernel
  show PW Z (mX (zG Z) m rf c T) L F 0 0 Q 0 [(0, .ref m), (1, .long y)] []
  refine pk_lload_n C 1 dX5_fall_0 rfl rfl (pc2 := 1) rfl ?_
  refine pk_aload_n C 0 dX5_fall_1 rfl rfl (pc2 := 2) rfl ?_
  refine pk_get (v := .long (M_re c)) C i5_ (pw_atX 0 rfl) (ci := 5) rfl 19 (by decide) w0_ rfl rfl dX5_fall_2 (pc2 := 5) rfl ?_
  refine pk_lcmp_ge (tgt := 13) C dX5_fall_5 dX5_fall_6 (pc1 := 6) rfl (by decide) (pc2 := 9) rfl (fun h1_ => ?_) (fun h1_ => ?_)
  ·
    refine pk_aload_n C 0 dX5_fall_13 rfl rfl (pc2 := 14) rfl ?_
    refine pk_get (v := .long (M_re c)) C i5_ (pw_atX 0 rfl) (ci := 5) rfl 19 (by decide) w0_ rfl rfl dX5_fall_14 (pc2 := 17) rfl ?_
    refine pk_lstore_n (lv' := [(3, .long (M_re c)), (0, .ref m), (1, .long y)]) C dX5_fall_17 rfl (by decide) rfl (pc2 := 18) rfl ?_
    refine pk_aload_n C 1 dX5_fall_18 rfl rfl (pc2 := 19) rfl ?_
    refine pk_aload_n C 1 dX5_fall_19 rfl rfl (pc2 := 20) rfl ?_
    refine pk_get (v := .long (M_re c)) C i5_ (pw_atX 0 rfl) (ci := 5) rfl 19 (by decide) w0_ rfl rfl dX5_fall_20 (pc2 := 23) rfl ?_
    refine pk_lload_n C 0 dX5_fall_23 rfl rfl (pc2 := 24) rfl ?_
    refine pk_lsub C dX5_fall_24 (pc2 := 25) rfl ?_
    refine pk_topl (fun n1_ en1_ => ?_)
    refine pk_putX (X' := ((m, kM rf (M_cd c) (M_pt c) (M_mn c) (M_ev c) (M_co c) (M_al c) n1_ (M_lo c) (M_rs c) (M_li c) (M_he c) (M_go c) (M_sp c) (M_ba c) (M_le c) (M_lf c) (M_mo c) (M_un c) (M_ch c) (M_lc c) (M_ac c) (M_bd c)) :: mT (zG Z) rf T)) C i5_ tyX5_ok nmX5 0 rfl (ci := 5) rfl 19 (by decide) w0_ rfl rfl rfl rfl rfl (Nat.le_of_ble_eq_true rfl) rfl dX5_fall_25 (pc2 := 28) rfl ?_
    refine pk_aload_n C 1 dX5_fall_28 rfl rfl (pc2 := 29) rfl ?_
    refine pk_aload_n C 1 dX5_fall_29 rfl rfl (pc2 := 30) rfl ?_
    refine pk_get (v := .long (M_lo c)) C i5_ (pw_atX 0 rfl) (ci := 5) rfl 20 (by decide) w1_ rfl rfl dX5_fall_30 (pc2 := 33) rfl ?_
    refine pk_lload_n C 2 dX5_fall_33 rfl rfl (pc2 := 34) rfl ?_
    refine pk_ladd C dX5_fall_34 (pc2 := 35) rfl ?_
    refine pk_lload_n C 0 dX5_fall_35 rfl rfl (pc2 := 36) rfl ?_
    refine pk_lsub C dX5_fall_36 (pc2 := 37) rfl ?_
    refine pk_topl (fun n2_ en2_ => ?_)
    refine pk_putX (X' := ((m, kM rf (M_cd c) (M_pt c) (M_mn c) (M_ev c) (M_co c) (M_al c) n1_ n2_ (M_rs c) (M_li c) (M_he c) (M_go c) (M_sp c) (M_ba c) (M_le c) (M_lf c) (M_mo c) (M_un c) (M_ch c) (M_lc c) (M_ac c) (M_bd c)) :: mT (zG Z) rf T)) C i5_ tyX5_ok nmX5 0 rfl (ci := 5) rfl 20 (by decide) w1_ rfl rfl rfl rfl rfl (Nat.le_of_ble_eq_true rfl) rfl dX5_fall_37 (pc2 := 40) rfl ?_
    refine pw_conv (X' := (mX (zG Z) m rf (M_mk (M_cd c) (M_pt c) (M_mn c) (M_ev c) (M_co c) (M_al c) n1_ n2_ (M_rs c) (M_li c) (M_he c) (M_go c) (M_sp c) (M_ba c) (M_le c) (M_lf c) (M_mo c) (M_un c) (M_ch c) (M_lc c) (M_ac c) (M_bd c)) T)) mX_mk ?_
    subst en1_ en2_
    exact pr_void C hE (po_d_rfl rfl (by first | with_reducible rfl | (unfold m_X5_fall; rw [if_pos h1_]))) dX5_fall_40
  ·
    refine pk_lload_n C 1 dX5_fall_9 rfl rfl (pc2 := 10) rfl ?_
    refine pk_goto (tgt := 17) C dX5_fall_10 (by decide) ?_
    refine pk_lstore_n (lv' := [(3, .long y), (0, .ref m), (1, .long y)]) C dX5_fall_17 rfl (by decide) rfl (pc2 := 18) rfl ?_
    refine pk_aload_n C 1 dX5_fall_18 rfl rfl (pc2 := 19) rfl ?_
    refine pk_aload_n C 1 dX5_fall_19 rfl rfl (pc2 := 20) rfl ?_
    refine pk_get (v := .long (M_re c)) C i5_ (pw_atX 0 rfl) (ci := 5) rfl 19 (by decide) w0_ rfl rfl dX5_fall_20 (pc2 := 23) rfl ?_
    refine pk_lload_n C 0 dX5_fall_23 rfl rfl (pc2 := 24) rfl ?_
    refine pk_lsub C dX5_fall_24 (pc2 := 25) rfl ?_
    refine pk_topl (fun n3_ en3_ => ?_)
    refine pk_putX (X' := ((m, kM rf (M_cd c) (M_pt c) (M_mn c) (M_ev c) (M_co c) (M_al c) n3_ (M_lo c) (M_rs c) (M_li c) (M_he c) (M_go c) (M_sp c) (M_ba c) (M_le c) (M_lf c) (M_mo c) (M_un c) (M_ch c) (M_lc c) (M_ac c) (M_bd c)) :: mT (zG Z) rf T)) C i5_ tyX5_ok nmX5 0 rfl (ci := 5) rfl 19 (by decide) w0_ rfl rfl rfl rfl rfl (Nat.le_of_ble_eq_true rfl) rfl dX5_fall_25 (pc2 := 28) rfl ?_
    refine pk_aload_n C 1 dX5_fall_28 rfl rfl (pc2 := 29) rfl ?_
    refine pk_aload_n C 1 dX5_fall_29 rfl rfl (pc2 := 30) rfl ?_
    refine pk_get (v := .long (M_lo c)) C i5_ (pw_atX 0 rfl) (ci := 5) rfl 20 (by decide) w1_ rfl rfl dX5_fall_30 (pc2 := 33) rfl ?_
    refine pk_lload_n C 2 dX5_fall_33 rfl rfl (pc2 := 34) rfl ?_
    refine pk_ladd C dX5_fall_34 (pc2 := 35) rfl ?_
    refine pk_lload_n C 0 dX5_fall_35 rfl rfl (pc2 := 36) rfl ?_
    refine pk_lsub C dX5_fall_36 (pc2 := 37) rfl ?_
    refine pk_topl (fun n4_ en4_ => ?_)
    refine pk_putX (X' := ((m, kM rf (M_cd c) (M_pt c) (M_mn c) (M_ev c) (M_co c) (M_al c) n3_ n4_ (M_rs c) (M_li c) (M_he c) (M_go c) (M_sp c) (M_ba c) (M_le c) (M_lf c) (M_mo c) (M_un c) (M_ch c) (M_lc c) (M_ac c) (M_bd c)) :: mT (zG Z) rf T)) C i5_ tyX5_ok nmX5 0 rfl (ci := 5) rfl 20 (by decide) w1_ rfl rfl rfl rfl rfl (Nat.le_of_ble_eq_true rfl) rfl dX5_fall_37 (pc2 := 40) rfl ?_
    refine pw_conv (X' := (mX (zG Z) m rf (M_mk (M_cd c) (M_pt c) (M_mn c) (M_ev c) (M_co c) (M_al c) n3_ n4_ (M_rs c) (M_li c) (M_he c) (M_go c) (M_sp c) (M_ba c) (M_le c) (M_lf c) (M_mo c) (M_un c) (M_ch c) (M_lc c) (M_ac c) (M_bd c)) T)) mX_mk ?_
    subst en3_ en4_
    exact pr_void C hE (po_d_rfl rfl (by first | with_reducible rfl | (unfold m_X5_fall; rw [if_neg h1_]))) dX5_fall_40

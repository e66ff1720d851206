def m_X5_clear (c : MR) (T : TR) : MR :=
  (M_mk (M_cd c) (M_pt c) (M_mn c) (M_ev c) 0 0 0 0 0 0 0 0 0 (M_ba c) (M_le c) (M_lf c) (M_mo c) (M_un c) (M_ch c) 0 0 (M_bd c))
set_option maxRecDepth 100000 in
set_option maxHeartbeats 2000000 in
theorem c_X5_clear (l : Launch) (G : pw_G) (L : List Nat) (F : Nat → va_E) (m : Nat) (rf : Nat → Nat) (c : MR) (T : TR) : PM l yX5_clear wsX5_clear ⟨0, 0, 0, 0⟩ G [.ref m] (mX G m rf c T) L F 0 0 (po_d none (mX G m rf (m_X5_clear c T) T) L F) := by
  refine pm_entry (by decide) rfl rfl (Nat.le_of_ble_eq_true rfl) ?_
  intro Z Q C hl0 hG0 hnm hE
  subst hl0
  subst hG0
  have i5_ : ∀ w ∈ wsX50, w ∈ wsX5_clear := by decide +kernel
  have w0_ : Cond.fieldLink RX5 65 "AgedAssetsModel" "cost" "J" ∈ wsX5_clear := by decide +kernel
  have w1_ : Cond.fieldLink RX5 69 "AgedAssetsModel" "allowance" "J" ∈ wsX5_clear := by decide +kernel
  have w2_ : Cond.fieldLink RX5 106 "AgedAssetsModel" "reserve" "J" ∈ wsX5_clear := by decide +kernel
  have w3_ : Cond.fieldLink RX5 109 "AgedAssetsModel" "losses" "J" ∈ wsX5_clear := by decide +kernel
  have w4_ : Cond.fieldLink RX5 79 "AgedAssetsModel" "residual" "J" ∈ wsX5_clear := by decide +kernel
  have w5_ : Cond.fieldLink RX5 85 "AgedAssetsModel" "rest" "I" ∈ wsX5_clear := by decide +kernel
  have w6_ : Cond.fieldLink RX5 134 "AgedAssetsModel" "held" "Z" ∈ wsX5_clear := by decide +kernel
  have w7_ : Cond.fieldLink RX5 130 "AgedAssetsModel" "gone" "Z" ∈ wsX5_clear := by decide +kernel
  have w8_ : Cond.fieldLink RX5 91 "AgedAssetsModel" "spent" "I" ∈ wsX5_clear := by decide +kernel
  have w9_ : Cond.fieldLink RX5 152 "AgedAssetsModel" "last" "J" ∈ wsX5_clear := by decide +kernel
  have w10_ : Cond.fieldLink RX5 163 "AgedAssetsModel" "sum" "J" ∈ wsX5_clear := by decide +kernel
  show PW Z (mX (zG Z) m rf c T) L F 0 0 Q 0 [(0, .ref m)] []
  refine pk_aload_n C 0 dX5_clear_0 rfl rfl (pc2 := 1) rfl ?_
  refine pk_lconst (v := 0) C dX5_clear_1 (by decide) (pc2 := 2) rfl ?_
  refine pk_putX (X' := ((m, kM rf (M_cd c) (M_pt c) (M_mn c) (M_ev c) 0 (M_al c) (M_re c) (M_lo c) (M_rs c) (M_li c) (M_he c) (M_go c) (M_sp c) (M_ba c) (M_le c) (M_lf c) (M_mo c) (M_un c) (M_ch c) (M_lc c) (M_ac c) (M_bd c)) :: mT (zG Z) rf T)) C i5_ tyX5_ok nmX5 0 rfl (ci := 5) rfl 17 (by decide) w0_ rfl rfl rfl rfl rfl (Nat.le_of_ble_eq_true rfl) rfl dX5_clear_2 (pc2 := 5) rfl ?_
  refine pk_aload_n C 0 dX5_clear_5 rfl rfl (pc2 := 6) rfl ?_
  refine pk_lconst (v := 0) C dX5_clear_6 (by decide) (pc2 := 7) rfl ?_
  refine pk_putX (X' := ((m, kM rf (M_cd c) (M_pt c) (M_mn c) (M_ev c) 0 0 (M_re c) (M_lo c) (M_rs c) (M_li c) (M_he c) (M_go c) (M_sp c) (M_ba c) (M_le c) (M_lf c) (M_mo c) (M_un c) (M_ch c) (M_lc c) (M_ac c) (M_bd c)) :: mT (zG Z) rf T)) C i5_ tyX5_ok nmX5 0 rfl (ci := 5) rfl 18 (by decide) w1_ rfl rfl rfl rfl rfl (Nat.le_of_ble_eq_true rfl) rfl dX5_clear_7 (pc2 := 10) rfl ?_
  refine pk_aload_n C 0 dX5_clear_10 rfl rfl (pc2 := 11) rfl ?_
  refine pk_lconst (v := 0) C dX5_clear_11 (by decide) (pc2 := 12) rfl ?_
  refine pk_putX (X' := ((m, kM rf (M_cd c) (M_pt c) (M_mn c) (M_ev c) 0 0 0 (M_lo c) (M_rs c) (M_li c) (M_he c) (M_go c) (M_sp c) (M_ba c) (M_le c) (M_lf c) (M_mo c) (M_un c) (M_ch c) (M_lc c) (M_ac c) (M_bd c)) :: mT (zG Z) rf T)) C i5_ tyX5_ok nmX5 0 rfl (ci := 5) rfl 19 (by decide) w2_ rfl rfl rfl rfl rfl (Nat.le_of_ble_eq_true rfl) rfl dX5_clear_12 (pc2 := 15) rfl ?_
  refine pk_aload_n C 0 dX5_clear_15 rfl rfl (pc2 := 16) rfl ?_
  refine pk_lconst (v := 0) C dX5_clear_16 (by decide) (pc2 := 17) rfl ?_
  refine pk_putX (X' := ((m, kM rf (M_cd c) (M_pt c) (M_mn c) (M_ev c) 0 0 0 0 (M_rs c) (M_li c) (M_he c) (M_go c) (M_sp c) (M_ba c) (M_le c) (M_lf c) (M_mo c) (M_un c) (M_ch c) (M_lc c) (M_ac c) (M_bd c)) :: mT (zG Z) rf T)) C i5_ tyX5_ok nmX5 0 rfl (ci := 5) rfl 20 (by decide) w3_ rfl rfl rfl rfl rfl (Nat.le_of_ble_eq_true rfl) rfl dX5_clear_17 (pc2 := 20) rfl ?_
  refine pk_aload_n C 0 dX5_clear_20 rfl rfl (pc2 := 21) rfl ?_
  refine pk_lconst (v := 0) C dX5_clear_21 (by decide) (pc2 := 22) rfl ?_
  refine pk_putX (X' := ((m, kM rf (M_cd c) (M_pt c) (M_mn c) (M_ev c) 0 0 0 0 0 (M_li c) (M_he c) (M_go c) (M_sp c) (M_ba c) (M_le c) (M_lf c) (M_mo c) (M_un c) (M_ch c) (M_lc c) (M_ac c) (M_bd c)) :: mT (zG Z) rf T)) C i5_ tyX5_ok nmX5 0 rfl (ci := 5) rfl 21 (by decide) w4_ rfl rfl rfl rfl rfl (Nat.le_of_ble_eq_true rfl) rfl dX5_clear_22 (pc2 := 25) rfl ?_
  refine pk_aload_n C 0 dX5_clear_25 rfl rfl (pc2 := 26) rfl ?_
  refine pk_iconst (v := 0) C dX5_clear_26 (by decide) (pc2 := 27) rfl ?_
  refine pk_putX (X' := ((m, kM rf (M_cd c) (M_pt c) (M_mn c) (M_ev c) 0 0 0 0 0 0 (M_he c) (M_go c) (M_sp c) (M_ba c) (M_le c) (M_lf c) (M_mo c) (M_un c) (M_ch c) (M_lc c) (M_ac c) (M_bd c)) :: mT (zG Z) rf T)) C i5_ tyX5_ok nmX5 0 rfl (ci := 5) rfl 22 (by decide) w5_ rfl rfl rfl rfl rfl (Nat.le_of_ble_eq_true rfl) rfl dX5_clear_27 (pc2 := 30) rfl ?_
  refine pk_aload_n C 0 dX5_clear_30 rfl rfl (pc2 := 31) rfl ?_
  refine pk_iconst (v := 0) C dX5_clear_31 (by decide) (pc2 := 32) rfl ?_
  refine pk_putX (X' := ((m, kM rf (M_cd c) (M_pt c) (M_mn c) (M_ev c) 0 0 0 0 0 0 0 (M_go c) (M_sp c) (M_ba c) (M_le c) (M_lf c) (M_mo c) (M_un c) (M_ch c) (M_lc c) (M_ac c) (M_bd c)) :: mT (zG Z) rf T)) C i5_ tyX5_ok nmX5 0 rfl (ci := 5) rfl 23 (by decide) w6_ rfl rfl rfl rfl rfl (Nat.le_of_ble_eq_true rfl) rfl dX5_clear_32 (pc2 := 35) rfl ?_
  refine pk_aload_n C 0 dX5_clear_35 rfl rfl (pc2 := 36) rfl ?_
  refine pk_iconst (v := 0) C dX5_clear_36 (by decide) (pc2 := 37) rfl ?_
  refine pk_putX (X' := ((m, kM rf (M_cd c) (M_pt c) (M_mn c) (M_ev c) 0 0 0 0 0 0 0 0 (M_sp c) (M_ba c) (M_le c) (M_lf c) (M_mo c) (M_un c) (M_ch c) (M_lc c) (M_ac c) (M_bd c)) :: mT (zG Z) rf T)) C i5_ tyX5_ok nmX5 0 rfl (ci := 5) rfl 24 (by decide) w7_ rfl rfl rfl rfl rfl (Nat.le_of_ble_eq_true rfl) rfl dX5_clear_37 (pc2 := 40) rfl ?_
  refine pk_aload_n C 0 dX5_clear_40 rfl rfl (pc2 := 41) rfl ?_
  refine pk_iconst (v := 0) C dX5_clear_41 (by decide) (pc2 := 42) rfl ?_
  refine pk_putX (X' := ((m, kM rf (M_cd c) (M_pt c) (M_mn c) (M_ev c) 0 0 0 0 0 0 0 0 0 (M_ba c) (M_le c) (M_lf c) (M_mo c) (M_un c) (M_ch c) (M_lc c) (M_ac c) (M_bd c)) :: mT (zG Z) rf T)) C i5_ tyX5_ok nmX5 0 rfl (ci := 5) rfl 25 (by decide) w8_ rfl rfl rfl rfl rfl (Nat.le_of_ble_eq_true rfl) rfl dX5_clear_42 (pc2 := 45) rfl ?_
  refine pk_aload_n C 0 dX5_clear_45 rfl rfl (pc2 := 46) rfl ?_
  refine pk_lconst (v := 0) C dX5_clear_46 (by decide) (pc2 := 47) rfl ?_
  refine pk_putX (X' := ((m, kM rf (M_cd c) (M_pt c) (M_mn c) (M_ev c) 0 0 0 0 0 0 0 0 0 (M_ba c) (M_le c) (M_lf c) (M_mo c) (M_un c) (M_ch c) 0 (M_ac c) (M_bd c)) :: mT (zG Z) rf T)) C i5_ tyX5_ok nmX5 0 rfl (ci := 5) rfl 32 (by decide) w9_ rfl rfl rfl rfl rfl (Nat.le_of_ble_eq_true rfl) rfl dX5_clear_47 (pc2 := 50) rfl ?_
  refine pk_aload_n C 0 dX5_clear_50 rfl rfl (pc2 := 51) rfl ?_
  refine pk_lconst (v := 0) C dX5_clear_51 (by decide) (pc2 := 52) rfl ?_
  refine pk_putX (X' := ((m, kM rf (M_cd c) (M_pt c) (M_mn c) (M_ev c) 0 0 0 0 0 0 0 0 0 (M_ba c) (M_le c) (M_lf c) (M_mo c) (M_un c) (M_ch c) 0 0 (M_bd c)) :: mT (zG Z) rf T)) C i5_ tyX5_ok nmX5 0 rfl (ci := 5) rfl 33 (by decide) w10_ rfl rfl rfl rfl rfl (Nat.le_of_ble_eq_true rfl) rfl dX5_clear_52 (pc2 := 55) rfl ?_
  refine pw_conv (X' := (mX (zG Z) m rf (M_mk (M_cd c) (M_pt c) (M_mn c) (M_ev c) 0 0 0 0 0 0 0 0 0 (M_ba c) (M_le c) (M_lf c) (M_mo c) (M_un c) (M_ch c) 0 0 (M_bd c)) T)) mX_mk ?_
  exact pr_void C hE (po_d_rfl rfl (by first | with_reducible rfl | (unfold m_X5_clear; with_reducible rfl))) dX5_clear_55

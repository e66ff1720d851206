def m_X5_writeOff (c : MR) (T : TR) (p : Int32) (mm : Int32) : MR :=
  if (M_he c) = 0 then if (M_go c) = 0 then if (M_li c) = 0 then (M_mk (M_cd c) (M_pt c) (M_mn c) (M_ev c) (M_co c) (M_al c) (M_re c) (M_lo c) (M_rs c) (M_li c) (M_he c) (M_go c) (M_sp c) (M_ba c) (M_le c) (M_lf c) (M_mo c) (M_un c) (M_ch c) 0 (M_ac c) (M_bd c)) else if ((T_me T) (Int32.toNatClampNeg p)) = 3 then if ((T_me T) (Int32.toNatClampNeg p)) = 1 then (M_mk (M_cd c) (M_pt c) (M_mn c) (M_ev c) (M_co c) ((M_al c) + (m_X5_declining (M_mk (M_cd c) (M_pt c) (M_mn c) (M_ev c) (M_co c) (M_al c) (M_re c) (M_lo c) (M_rs c) ((M_li c) - 1) (M_he c) (M_go c) ((M_sp c) + ((T_us T) (Int32.toNatClampNeg ((36 * p) + mm)))) (M_ba c) (M_le c) (M_lf c) ((M_mo c) + 1) ((M_un c) + ((T_us T) (Int32.toNatClampNeg ((36 * p) + mm)))) (M_ch c) 0 (M_ac c) (M_bd c)) T p (((M_li c) - 1) + 1))) (M_re c) (M_lo c) (M_rs c) ((M_li c) - 1) (M_he c) (M_go c) ((M_sp c) + ((T_us T) (Int32.toNatClampNeg ((36 * p) + mm)))) (M_ba c) (M_le c) (M_lf c) ((M_mo c) + 1) ((M_un c) + ((T_us T) (Int32.toNatClampNeg ((36 * p) + mm)))) (M_ch c) (m_X5_declining (M_mk (M_cd c) (M_pt c) (M_mn c) (M_ev c) (M_co c) (M_al c) (M_re c) (M_lo c) (M_rs c) ((M_li c) - 1) (M_he c) (M_go c) ((M_sp c) + ((T_us T) (Int32.toNatClampNeg ((36 * p) + mm)))) (M_ba c) (M_le c) (M_lf c) ((M_mo c) + 1) ((M_un c) + ((T_us T) (Int32.toNatClampNeg ((36 * p) + mm)))) (M_ch c) 0 (M_ac c) (M_bd c)) T p (((M_li c) - 1) + 1)) ((M_ac c) + (m_X5_declining (M_mk (M_cd c) (M_pt c) (M_mn c) (M_ev c) (M_co c) (M_al c) (M_re c) (M_lo c) (M_rs c) ((M_li c) - 1) (M_he c) (M_go c) ((M_sp c) + ((T_us T) (Int32.toNatClampNeg ((36 * p) + mm)))) (M_ba c) (M_le c) (M_lf c) ((M_mo c) + 1) ((M_un c) + ((T_us T) (Int32.toNatClampNeg ((36 * p) + mm)))) (M_ch c) 0 (M_ac c) (M_bd c)) T p (((M_li c) - 1) + 1))) (M_bd c)) else (M_mk (M_cd c) (M_pt c) (M_mn c) (M_ev c) (M_co c) ((M_al c) + ((m_X5_together (M_mk (M_cd c) (M_pt c) (M_mn c) (M_ev c) (M_co c) (M_al c) (M_re c) (M_lo c) (M_rs c) ((M_li c) - 1) (M_he c) (M_go c) ((M_sp c) + ((T_us T) (Int32.toNatClampNeg ((36 * p) + mm)))) (M_ba c) (M_le c) (M_lf c) ((M_mo c) + 1) ((M_un c) + ((T_us T) (Int32.toNatClampNeg ((36 * p) + mm)))) (M_ch c) 0 (M_ac c) (M_bd c)) T p) - (M_ch c))) (M_re c) (M_lo c) (M_rs c) ((M_li c) - 1) (M_he c) (M_go c) ((M_sp c) + ((T_us T) (Int32.toNatClampNeg ((36 * p) + mm)))) (M_ba c) (M_le c) (M_lf c) ((M_mo c) + 1) ((M_un c) + ((T_us T) (Int32.toNatClampNeg ((36 * p) + mm)))) (m_X5_together (M_mk (M_cd c) (M_pt c) (M_mn c) (M_ev c) (M_co c) (M_al c) (M_re c) (M_lo c) (M_rs c) ((M_li c) - 1) (M_he c) (M_go c) ((M_sp c) + ((T_us T) (Int32.toNatClampNeg ((36 * p) + mm)))) (M_ba c) (M_le c) (M_lf c) ((M_mo c) + 1) ((M_un c) + ((T_us T) (Int32.toNatClampNeg ((36 * p) + mm)))) (M_ch c) 0 (M_ac c) (M_bd c)) T p) ((m_X5_together (M_mk (M_cd c) (M_pt c) (M_mn c) (M_ev c) (M_co c) (M_al c) (M_re c) (M_lo c) (M_rs c) ((M_li c) - 1) (M_he c) (M_go c) ((M_sp c) + ((T_us T) (Int32.toNatClampNeg ((36 * p) + mm)))) (M_ba c) (M_le c) (M_lf c) ((M_mo c) + 1) ((M_un c) + ((T_us T) (Int32.toNatClampNeg ((36 * p) + mm)))) (M_ch c) 0 (M_ac c) (M_bd c)) T p) - (M_ch c)) ((M_ac c) + ((m_X5_together (M_mk (M_cd c) (M_pt c) (M_mn c) (M_ev c) (M_co c) (M_al c) (M_re c) (M_lo c) (M_rs c) ((M_li c) - 1) (M_he c) (M_go c) ((M_sp c) + ((T_us T) (Int32.toNatClampNeg ((36 * p) + mm)))) (M_ba c) (M_le c) (M_lf c) ((M_mo c) + 1) ((M_un c) + ((T_us T) (Int32.toNatClampNeg ((36 * p) + mm)))) (M_ch c) 0 (M_ac c) (M_bd c)) T p) - (M_ch c))) (M_bd c)) else if ((T_me T) (Int32.toNatClampNeg p)) = 1 then (M_mk (M_cd c) (M_pt c) (M_mn c) (M_ev c) (M_co c) ((M_al c) + (m_X5_declining (M_mk (M_cd c) (M_pt c) (M_mn c) (M_ev c) (M_co c) (M_al c) (M_re c) (M_lo c) (M_rs c) ((M_li c) - 1) (M_he c) (M_go c) (M_sp c) (M_ba c) (M_le c) (M_lf c) ((M_mo c) + 1) (M_un c) (M_ch c) 0 (M_ac c) (M_bd c)) T p (((M_li c) - 1) + 1))) (M_re c) (M_lo c) (M_rs c) ((M_li c) - 1) (M_he c) (M_go c) (M_sp c) (M_ba c) (M_le c) (M_lf c) ((M_mo c) + 1) (M_un c) (M_ch c) (m_X5_declining (M_mk (M_cd c) (M_pt c) (M_mn c) (M_ev c) (M_co c) (M_al c) (M_re c) (M_lo c) (M_rs c) ((M_li c) - 1) (M_he c) (M_go c) (M_sp c) (M_ba c) (M_le c) (M_lf c) ((M_mo c) + 1) (M_un c) (M_ch c) 0 (M_ac c) (M_bd c)) T p (((M_li c) - 1) + 1)) ((M_ac c) + (m_X5_declining (M_mk (M_cd c) (M_pt c) (M_mn c) (M_ev c) (M_co c) (M_al c) (M_re c) (M_lo c) (M_rs c) ((M_li c) - 1) (M_he c) (M_go c) (M_sp c) (M_ba c) (M_le c) (M_lf c) ((M_mo c) + 1) (M_un c) (M_ch c) 0 (M_ac c) (M_bd c)) T p (((M_li c) - 1) + 1))) (M_bd c)) else (M_mk (M_cd c) (M_pt c) (M_mn c) (M_ev c) (M_co c) ((M_al c) + ((m_X5_together (M_mk (M_cd c) (M_pt c) (M_mn c) (M_ev c) (M_co c) (M_al c) (M_re c) (M_lo c) (M_rs c) ((M_li c) - 1) (M_he c) (M_go c) (M_sp c) (M_ba c) (M_le c) (M_lf c) ((M_mo c) + 1) (M_un c) (M_ch c) 0 (M_ac c) (M_bd c)) T p) - (M_ch c))) (M_re c) (M_lo c) (M_rs c) ((M_li c) - 1) (M_he c) (M_go c) (M_sp c) (M_ba c) (M_le c) (M_lf c) ((M_mo c) + 1) (M_un c) (m_X5_together (M_mk (M_cd c) (M_pt c) (M_mn c) (M_ev c) (M_co c) (M_al c) (M_re c) (M_lo c) (M_rs c) ((M_li c) - 1) (M_he c) (M_go c) (M_sp c) (M_ba c) (M_le c) (M_lf c) ((M_mo c) + 1) (M_un c) (M_ch c) 0 (M_ac c) (M_bd c)) T p) ((m_X5_together (M_mk (M_cd c) (M_pt c) (M_mn c) (M_ev c) (M_co c) (M_al c) (M_re c) (M_lo c) (M_rs c) ((M_li c) - 1) (M_he c) (M_go c) (M_sp c) (M_ba c) (M_le c) (M_lf c) ((M_mo c) + 1) (M_un c) (M_ch c) 0 (M_ac c) (M_bd c)) T p) - (M_ch c)) ((M_ac c) + ((m_X5_together (M_mk (M_cd c) (M_pt c) (M_mn c) (M_ev c) (M_co c) (M_al c) (M_re c) (M_lo c) (M_rs c) ((M_li c) - 1) (M_he c) (M_go c) (M_sp c) (M_ba c) (M_le c) (M_lf c) ((M_mo c) + 1) (M_un c) (M_ch c) 0 (M_ac c) (M_bd c)) T p) - (M_ch c))) (M_bd c)) else (M_mk (M_cd c) (M_pt c) (M_mn c) (M_ev c) (M_co c) (M_al c) (M_re c) (M_lo c) (M_rs c) (M_li c) (M_he c) (M_go c) (M_sp c) (M_ba c) (M_le c) (M_lf c) (M_mo c) (M_un c) (M_ch c) 0 (M_ac c) (M_bd c)) else (M_mk (M_cd c) (M_pt c) (M_mn c) (M_ev c) (M_co c) (M_al c) (M_re c) (M_lo c) (M_rs c) (M_li c) (M_he c) (M_go c) (M_sp c) (M_ba c) (M_le c) (M_lf c) (M_mo c) (M_un c) (M_ch c) 0 (M_ac c) (M_bd c))
set_option maxRecDepth 100000 in
set_option maxHeartbeats 2000000 in
theorem c_X5_writeOff (l : Launch) (G : pw_G) (L : List Nat) (F : Nat → va_E) (m : Nat) (rf : Nat → Nat) (c : MR) (T : TR) (p : Int32) (mm : Int32) (hp : vp_in p 6) (hpm : vp_in ((36 * p) + mm) 216) (hli : 0 ≤ (M_li c).toInt) (hle : ¬ M_li c = 0 → 1 ≤ (M_le c).toInt ∧ (M_le c).toInt ≤ 36) : PM l yX5_writeOff wsX5_writeOff ⟨2, 0, 0, 53⟩ G [.ref m, .int p, .int mm] (mX G m rf c T) L F 0 0 (po_d none (mX G m rf (m_X5_writeOff c T p mm) T) L F) := by
  refine pm_entry (by decide) rfl rfl (Nat.le_of_ble_eq_true rfl) ?_
  intro Z Q C hl0 hG0 hnm hE
  subst hl0
  subst hG0
  have i5_ : ∀ w ∈ wsX50, w ∈ wsX5_writeOff := by decide +kernel
  have w0_ : Cond.fieldLink RX5 152 "AgedAssetsModel" "last" "J" ∈ wsX5_writeOff := by decide +kernel
  have w1_ : Cond.fieldLink RX5 134 "AgedAssetsModel" "held" "Z" ∈ wsX5_writeOff := by decide +kernel
  have w2_ : Cond.fieldLink RX5 130 "AgedAssetsModel" "gone" "Z" ∈ wsX5_writeOff := by decide +kernel
  have w3_ : Cond.fieldLink RX5 85 "AgedAssetsModel" "rest" "I" ∈ wsX5_writeOff := by decide +kernel
  have w4_ : Cond.fieldLink RX5 97 "AgedAssetsModel" "charged" "I" ∈ wsX5_writeOff := by decide +kernel
  have w5_ : Cond.fieldLink RX5 23 "AgedAssetsModel" "methods" "[I" ∈ wsX5_writeOff := by decide +kernel
  have w6_ : Cond.fieldLink RX5 103 "AgedAssetsModel" "done" "J" ∈ wsX5_writeOff := by decide +kernel
  have w7_ : Cond.fieldLink RX5 69 "AgedAssetsModel" "allowance" "J" ∈ wsX5_writeOff := by decide +kernel
  have w8_ : Cond.fieldLink RX5 163 "AgedAssetsModel" "sum" "J" ∈ wsX5_writeOff := by decide +kernel
  have w9_ : Cond.fieldLink RX5 100 "AgedAssetsModel" "stretchUnits" "I" ∈ wsX5_writeOff := by decide +kernel
  have w10_ : Cond.fieldLink RX5 29 "AgedAssetsModel" "used" "[I" ∈ wsX5_writeOff := by decide +kernel
  have w11_ : Cond.fieldLink RX5 91 "AgedAssetsModel" "spent" "I" ∈ wsX5_writeOff := by decide +kernel
  show PW Z (mX (zG Z) m rf c T) L F 0 0 Q 0 [(0, .ref m), (1, .int p), (2, .int mm)] []
  refine pk_aload_n C 0 dX5_writeOff_0 rfl rfl (pc2 := 1) rfl ?_
  refine pk_lconst (v := 0) C dX5_writeOff_1 (by decide) (pc2 := 2) rfl ?_
  refine pk_putX (X' := ((m, kM rf (M_cd c) (M_pt c) (M_mn c) (M_ev c) (M_co c) (M_al c) (M_re c) (M_lo c) (M_rs c) (M_li c) (M_he c) (M_go c) (M_sp c) (M_ba c) (M_le c) (M_lf c) (M_mo c) (M_un c) (M_ch c) 0 (M_ac c) (M_bd c)) :: mT (zG Z) rf T)) C i5_ tyX5_ok nmX5 0 rfl (ci := 5) rfl 32 (by decide) w0_ rfl rfl rfl rfl rfl (Nat.le_of_ble_eq_true rfl) rfl dX5_writeOff_2 (pc2 := 5) rfl ?_
  refine pk_aload_n C 0 dX5_writeOff_5 rfl rfl (pc2 := 6) rfl ?_
  refine pk_get (v := .int (M_he c)) C i5_ (pw_atX 0 rfl) (ci := 5) rfl 23 (by decide) w1_ rfl rfl dX5_writeOff_6 (pc2 := 9) rfl ?_
  refine pk_if_ne (tgt := 26) C dX5_writeOff_9 (by decide) (pc2 := 12) rfl (fun h1_ => ?_) (fun h1_ => ?_)
  ·
    refine pw_conv (X' := (mX (zG Z) m rf (M_mk (M_cd c) (M_pt c) (M_mn c) (M_ev c) (M_co c) (M_al c) (M_re c) (M_lo c) (M_rs c) (M_li c) (M_he c) (M_go c) (M_sp c) (M_ba c) (M_le c) (M_lf c) (M_mo c) (M_un c) (M_ch c) 0 (M_ac c) (M_bd c)) T)) mX_mk ?_
    exact pr_void C hE (po_d_rfl rfl (by first | with_reducible rfl | (unfold m_X5_writeOff; rw [if_neg h1_]))) dX5_writeOff_26
  ·
    refine pk_aload_n C 0 dX5_writeOff_12 rfl rfl (pc2 := 13) rfl ?_
    refine pk_get (v := .int (M_go c)) C i5_ (pw_atX 0 rfl) (ci := 5) rfl 24 (by decide) w2_ rfl rfl dX5_writeOff_13 (pc2 := 16) rfl ?_
    refine pk_if_ne (tgt := 26) C dX5_writeOff_16 (by decide) (pc2 := 19) rfl (fun h2_ => ?_) (fun h2_ => ?_)
    ·
      refine pw_conv (X' := (mX (zG Z) m rf (M_mk (M_cd c) (M_pt c) (M_mn c) (M_ev c) (M_co c) (M_al c) (M_re c) (M_lo c) (M_rs c) (M_li c) (M_he c) (M_go c) (M_sp c) (M_ba c) (M_le c) (M_lf c) (M_mo c) (M_un c) (M_ch c) 0 (M_ac c) (M_bd c)) T)) mX_mk ?_
      exact pr_void C hE (po_d_rfl rfl (by first | with_reducible rfl | (unfold m_X5_writeOff; rw [if_pos h1_, if_neg h2_]))) dX5_writeOff_26
    ·
      refine pk_aload_n C 0 dX5_writeOff_19 rfl rfl (pc2 := 20) rfl ?_
      refine pk_get (v := .int (M_li c)) C i5_ (pw_atX 0 rfl) (ci := 5) rfl 22 (by decide) w3_ rfl rfl dX5_writeOff_20 (pc2 := 23) rfl ?_
      refine pk_if_ne (tgt := 27) C dX5_writeOff_23 (by decide) (pc2 := 26) rfl (fun h3_ => ?_) (fun h3_ => ?_)
      ·
        refine pk_aload_n C 0 dX5_writeOff_27 rfl rfl (pc2 := 28) rfl ?_
        refine pk_aload_n C 0 dX5_writeOff_28 rfl rfl (pc2 := 29) rfl ?_
        refine pk_get (v := .int (M_li c)) C i5_ (pw_atX 0 rfl) (ci := 5) rfl 22 (by decide) w3_ rfl rfl dX5_writeOff_29 (pc2 := 32) rfl ?_
        refine pk_iconst (v := 1) C dX5_writeOff_32 (by decide) (pc2 := 33) rfl ?_
        refine pk_isub C dX5_writeOff_33 (pc2 := 34) rfl ?_
        refine pk_topi (fun n1_ en1_ => ?_)
        refine pk_putX (X' := ((m, kM rf (M_cd c) (M_pt c) (M_mn c) (M_ev c) (M_co c) (M_al c) (M_re c) (M_lo c) (M_rs c) n1_ (M_he c) (M_go c) (M_sp c) (M_ba c) (M_le c) (M_lf c) (M_mo c) (M_un c) (M_ch c) 0 (M_ac c) (M_bd c)) :: mT (zG Z) rf T)) C i5_ tyX5_ok nmX5 0 rfl (ci := 5) rfl 22 (by decide) w3_ rfl rfl rfl rfl rfl (Nat.le_of_ble_eq_true rfl) rfl dX5_writeOff_34 (pc2 := 37) rfl ?_
        refine pk_aload_n C 0 dX5_writeOff_37 rfl rfl (pc2 := 38) rfl ?_
        refine pk_aload_n C 0 dX5_writeOff_38 rfl rfl (pc2 := 39) rfl ?_
        refine pk_get (v := .int (M_mo c)) C i5_ (pw_atX 0 rfl) (ci := 5) rfl 29 (by decide) w4_ rfl rfl dX5_writeOff_39 (pc2 := 42) rfl ?_
        refine pk_iconst (v := 1) C dX5_writeOff_42 (by decide) (pc2 := 43) rfl ?_
        refine pk_iadd C dX5_writeOff_43 (pc2 := 44) rfl ?_
        refine pk_topi (fun n2_ en2_ => ?_)
        refine pk_putX (X' := ((m, kM rf (M_cd c) (M_pt c) (M_mn c) (M_ev c) (M_co c) (M_al c) (M_re c) (M_lo c) (M_rs c) n1_ (M_he c) (M_go c) (M_sp c) (M_ba c) (M_le c) (M_lf c) n2_ (M_un c) (M_ch c) 0 (M_ac c) (M_bd c)) :: mT (zG Z) rf T)) C i5_ tyX5_ok nmX5 0 rfl (ci := 5) rfl 29 (by decide) w4_ rfl rfl rfl rfl rfl (Nat.le_of_ble_eq_true rfl) rfl dX5_writeOff_44 (pc2 := 47) rfl ?_
        refine pk_aload_n C 0 dX5_writeOff_47 rfl rfl (pc2 := 48) rfl ?_
        refine pk_get (v := .ref (rf 4)) C i5_ (pw_atX 0 rfl) (ci := 5) rfl 6 (by decide) w5_ rfl rfl dX5_writeOff_48 (pc2 := 51) rfl ?_
        refine pk_iload_n C 1 dX5_writeOff_51 rfl rfl (pc2 := 52) rfl ?_
        refine pk_iald (v := ((T_me T) (Int32.toNatClampNeg p))) C (pw_atX 5 rfl) hp rfl dX5_writeOff_52 (pc2 := 53) rfl ?_
        refine pk_iconst (v := 3) C dX5_writeOff_53 (by decide) (pc2 := 54) rfl ?_
        refine pk_icmp_ne (tgt := 97) C dX5_writeOff_54 (by decide) (pc2 := 57) rfl (fun h4_ => ?_) (fun h4_ => ?_)
        ·
          refine pk_aload_n C 0 dX5_writeOff_97 rfl rfl (pc2 := 98) rfl ?_
          refine pk_get (v := .ref (rf 4)) C i5_ (pw_atX 0 rfl) (ci := 5) rfl 6 (by decide) w5_ rfl rfl dX5_writeOff_98 (pc2 := 101) rfl ?_
          refine pk_iload_n C 1 dX5_writeOff_101 rfl rfl (pc2 := 102) rfl ?_
          refine pk_iald (v := ((T_me T) (Int32.toNatClampNeg p))) C (pw_atX 5 rfl) hp rfl dX5_writeOff_102 (pc2 := 103) rfl ?_
          refine pk_iconst (v := 1) C dX5_writeOff_103 (by decide) (pc2 := 104) rfl ?_
          refine pk_icmp_ne (tgt := 125) C dX5_writeOff_104 (by decide) (pc2 := 107) rfl (fun h5_ => ?_) (fun h5_ => ?_)
          ·
            refine pk_aload_n C 0 dX5_writeOff_125 rfl rfl (pc2 := 126) rfl ?_
            refine pk_iload_n C 1 dX5_writeOff_126 rfl rfl (pc2 := 127) rfl ?_
            refine pw_conv (X' := (mX (zG Z) m rf (M_mk (M_cd c) (M_pt c) (M_mn c) (M_ev c) (M_co c) (M_al c) (M_re c) (M_lo c) (M_rs c) n1_ (M_he c) (M_go c) (M_sp c) (M_ba c) (M_le c) (M_lf c) n2_ (M_un c) (M_ch c) 0 (M_ac c) (M_bd c)) T)) mX_mk ?_
            refine pk_dV (cx := (mX (zG Z) m rf (M_mk (M_cd c) (M_pt c) (M_mn c) (M_ev c) (M_co c) (M_al c) (M_re c) (M_lo c) (M_rs c) n1_ (M_he c) (M_go c) (M_sp c) (M_ba c) (M_le c) (M_lf c) n2_ (M_un c) (M_ch c) 0 (M_ac c) (M_bd c)) T)) (wr := []) (X2 := (mX (zG Z) m rf (M_mk (M_cd c) (M_pt c) (M_mn c) (M_ev c) (M_co c) (M_al c) (M_re c) (M_lo c) (M_rs c) n1_ (M_he c) (M_go c) (M_sp c) (M_ba c) (M_le c) (M_lf c) n2_ (M_un c) (M_ch c) 0 (M_ac c) (M_bd c)) T)) (st := []) (st2 := [.long (m_X5_together (M_mk (M_cd c) (M_pt c) (M_mn c) (M_ev c) (M_co c) (M_al c) (M_re c) (M_lo c) (M_rs c) n1_ (M_he c) (M_go c) (M_sp c) (M_ba c) (M_le c) (M_lf c) n2_ (M_un c) (M_ch c) 0 (M_ac c) (M_bd c)) T p)]) (As := [.int p]) C (c_X5_together (zl Z) (zG Z) L F m rf (M_mk (M_cd c) (M_pt c) (M_mn c) (M_ev c) (M_co c) (M_al c) (M_re c) (M_lo c) (M_rs c) n1_ (M_he c) (M_go c) (M_sp c) (M_ba c) (M_le c) (M_lf c) n2_ (M_un c) (M_ch c) 0 (M_ac c) (M_bd c)) T p hp (by rw [M_le_mk]; exact hle h3_)) gX5_writeOff_X5_together rfl rfl rfl 1 (by decide +kernel) ⟨Nat.le_of_ble_eq_true rfl, Nat.le_of_ble_eq_true rfl⟩ (pw_atX 0 rfl) rfl rfl rfl (Nat.le_of_ble_eq_true rfl) ⟨Nat.le_of_ble_eq_true rfl, Nat.le_of_ble_eq_true rfl⟩ [0, 1, 2, 3, 4, 5, 6, 7, 8, 9, 10, 11, 12, 13, 14, 15] [] [0, 1, 2, 3, 4, 5, 6, 7, 8, 9, 10, 11, 12, 13, 14, 15] rfl rfl rfl rfl (by decide) rfl rfl dX5_writeOff_127 (pc2 := 130) rfl rfl ?_
            refine pw_conv (X' := ((m, kM rf (M_cd c) (M_pt c) (M_mn c) (M_ev c) (M_co c) (M_al c) (M_re c) (M_lo c) (M_rs c) n1_ (M_he c) (M_go c) (M_sp c) (M_ba c) (M_le c) (M_lf c) n2_ (M_un c) (M_ch c) 0 (M_ac c) (M_bd c)) :: mT (zG Z) rf T)) mX_mk.symm ?_
            refine pk_topl (fun n3_ en3_ => ?_)
            refine pk_lstore_n (lv' := [(3, .long n3_), (0, .ref m), (1, .int p), (2, .int mm)]) C dX5_writeOff_130 rfl (by decide) rfl (pc2 := 131) rfl ?_
            refine pk_aload_n C 1 dX5_writeOff_131 rfl rfl (pc2 := 132) rfl ?_
            refine pk_lload_n C 0 dX5_writeOff_132 rfl rfl (pc2 := 133) rfl ?_
            refine pk_aload_n C 1 dX5_writeOff_133 rfl rfl (pc2 := 134) rfl ?_
            refine pk_get (v := .long (M_ch c)) C i5_ (pw_atX 0 rfl) (ci := 5) rfl 31 (by decide) w6_ rfl rfl dX5_writeOff_134 (pc2 := 137) rfl ?_
            refine pk_lsub C dX5_writeOff_137 (pc2 := 138) rfl ?_
            refine pk_topl (fun n4_ en4_ => ?_)
            refine pk_putX (X' := ((m, kM rf (M_cd c) (M_pt c) (M_mn c) (M_ev c) (M_co c) (M_al c) (M_re c) (M_lo c) (M_rs c) n1_ (M_he c) (M_go c) (M_sp c) (M_ba c) (M_le c) (M_lf c) n2_ (M_un c) (M_ch c) n4_ (M_ac c) (M_bd c)) :: mT (zG Z) rf T)) C i5_ tyX5_ok nmX5 0 rfl (ci := 5) rfl 32 (by decide) w0_ rfl rfl rfl rfl rfl (Nat.le_of_ble_eq_true rfl) rfl dX5_writeOff_138 (pc2 := 141) rfl ?_
            refine pk_aload_n C 1 dX5_writeOff_141 rfl rfl (pc2 := 142) rfl ?_
            refine pk_lload_n C 0 dX5_writeOff_142 rfl rfl (pc2 := 143) rfl ?_
            refine pk_putX (X' := ((m, kM rf (M_cd c) (M_pt c) (M_mn c) (M_ev c) (M_co c) (M_al c) (M_re c) (M_lo c) (M_rs c) n1_ (M_he c) (M_go c) (M_sp c) (M_ba c) (M_le c) (M_lf c) n2_ (M_un c) n3_ n4_ (M_ac c) (M_bd c)) :: mT (zG Z) rf T)) C i5_ tyX5_ok nmX5 0 rfl (ci := 5) rfl 31 (by decide) w6_ rfl rfl rfl rfl rfl (Nat.le_of_ble_eq_true rfl) rfl dX5_writeOff_143 (pc2 := 146) rfl ?_
            refine pk_aload_n C 1 dX5_writeOff_146 rfl rfl (pc2 := 147) rfl ?_
            refine pk_aload_n C 1 dX5_writeOff_147 rfl rfl (pc2 := 148) rfl ?_
            refine pk_get (v := .long (M_al c)) C i5_ (pw_atX 0 rfl) (ci := 5) rfl 18 (by decide) w7_ rfl rfl dX5_writeOff_148 (pc2 := 151) rfl ?_
            refine pk_aload_n C 1 dX5_writeOff_151 rfl rfl (pc2 := 152) rfl ?_
            refine pk_get (v := .long n4_) C i5_ (pw_atX 0 rfl) (ci := 5) rfl 32 (by decide) w0_ rfl rfl dX5_writeOff_152 (pc2 := 155) rfl ?_
            refine pk_ladd C dX5_writeOff_155 (pc2 := 156) rfl ?_
            refine pk_topl (fun n5_ en5_ => ?_)
            refine pk_putX (X' := ((m, kM rf (M_cd c) (M_pt c) (M_mn c) (M_ev c) (M_co c) n5_ (M_re c) (M_lo c) (M_rs c) n1_ (M_he c) (M_go c) (M_sp c) (M_ba c) (M_le c) (M_lf c) n2_ (M_un c) n3_ n4_ (M_ac c) (M_bd c)) :: mT (zG Z) rf T)) C i5_ tyX5_ok nmX5 0 rfl (ci := 5) rfl 18 (by decide) w7_ rfl rfl rfl rfl rfl (Nat.le_of_ble_eq_true rfl) rfl dX5_writeOff_156 (pc2 := 159) rfl ?_
            refine pk_aload_n C 1 dX5_writeOff_159 rfl rfl (pc2 := 160) rfl ?_
            refine pk_aload_n C 1 dX5_writeOff_160 rfl rfl (pc2 := 161) rfl ?_
            refine pk_get (v := .long (M_ac c)) C i5_ (pw_atX 0 rfl) (ci := 5) rfl 33 (by decide) w8_ rfl rfl dX5_writeOff_161 (pc2 := 164) rfl ?_
            refine pk_aload_n C 1 dX5_writeOff_164 rfl rfl (pc2 := 165) rfl ?_
            refine pk_get (v := .long n4_) C i5_ (pw_atX 0 rfl) (ci := 5) rfl 32 (by decide) w0_ rfl rfl dX5_writeOff_165 (pc2 := 168) rfl ?_
            refine pk_ladd C dX5_writeOff_168 (pc2 := 169) rfl ?_
            refine pk_topl (fun n6_ en6_ => ?_)
            refine pk_putX (X' := ((m, kM rf (M_cd c) (M_pt c) (M_mn c) (M_ev c) (M_co c) n5_ (M_re c) (M_lo c) (M_rs c) n1_ (M_he c) (M_go c) (M_sp c) (M_ba c) (M_le c) (M_lf c) n2_ (M_un c) n3_ n4_ n6_ (M_bd c)) :: mT (zG Z) rf T)) C i5_ tyX5_ok nmX5 0 rfl (ci := 5) rfl 33 (by decide) w8_ rfl rfl rfl rfl rfl (Nat.le_of_ble_eq_true rfl) rfl dX5_writeOff_169 (pc2 := 172) rfl ?_
            refine pw_conv (X' := (mX (zG Z) m rf (M_mk (M_cd c) (M_pt c) (M_mn c) (M_ev c) (M_co c) n5_ (M_re c) (M_lo c) (M_rs c) n1_ (M_he c) (M_go c) (M_sp c) (M_ba c) (M_le c) (M_lf c) n2_ (M_un c) n3_ n4_ n6_ (M_bd c)) T)) mX_mk ?_
            subst en1_ en2_ en3_ en4_ en5_ en6_
            exact pr_void C hE (po_d_rfl rfl (by first | with_reducible rfl | (unfold m_X5_writeOff; rw [if_pos h1_, if_pos h2_, if_neg h3_, if_neg h4_, if_neg h5_]))) dX5_writeOff_172
          ·
            refine pk_aload_n C 0 dX5_writeOff_107 rfl rfl (pc2 := 108) rfl ?_
            refine pk_aload_n C 0 dX5_writeOff_108 rfl rfl (pc2 := 109) rfl ?_
            refine pk_iload_n C 1 dX5_writeOff_109 rfl rfl (pc2 := 110) rfl ?_
            refine pk_aload_n C 0 dX5_writeOff_110 rfl rfl (pc2 := 111) rfl ?_
            refine pk_get (v := .int n1_) C i5_ (pw_atX 0 rfl) (ci := 5) rfl 22 (by decide) w3_ rfl rfl dX5_writeOff_111 (pc2 := 114) rfl ?_
            refine pk_iconst (v := 1) C dX5_writeOff_114 (by decide) (pc2 := 115) rfl ?_
            refine pk_iadd C dX5_writeOff_115 (pc2 := 116) rfl ?_
            refine pw_conv (X' := (mX (zG Z) m rf (M_mk (M_cd c) (M_pt c) (M_mn c) (M_ev c) (M_co c) (M_al c) (M_re c) (M_lo c) (M_rs c) n1_ (M_he c) (M_go c) (M_sp c) (M_ba c) (M_le c) (M_lf c) n2_ (M_un c) (M_ch c) 0 (M_ac c) (M_bd c)) T)) mX_mk ?_
            refine pk_dV (cx := (mX (zG Z) m rf (M_mk (M_cd c) (M_pt c) (M_mn c) (M_ev c) (M_co c) (M_al c) (M_re c) (M_lo c) (M_rs c) n1_ (M_he c) (M_go c) (M_sp c) (M_ba c) (M_le c) (M_lf c) n2_ (M_un c) (M_ch c) 0 (M_ac c) (M_bd c)) T)) (wr := []) (X2 := (mX (zG Z) m rf (M_mk (M_cd c) (M_pt c) (M_mn c) (M_ev c) (M_co c) (M_al c) (M_re c) (M_lo c) (M_rs c) n1_ (M_he c) (M_go c) (M_sp c) (M_ba c) (M_le c) (M_lf c) n2_ (M_un c) (M_ch c) 0 (M_ac c) (M_bd c)) T)) (st := [.ref m]) (st2 := [.long (m_X5_declining (M_mk (M_cd c) (M_pt c) (M_mn c) (M_ev c) (M_co c) (M_al c) (M_re c) (M_lo c) (M_rs c) n1_ (M_he c) (M_go c) (M_sp c) (M_ba c) (M_le c) (M_lf c) n2_ (M_un c) (M_ch c) 0 (M_ac c) (M_bd c)) T p (n1_ + 1)), .ref m]) (As := [.int p, .int (n1_ + 1)]) C (c_X5_declining (zl Z) (zG Z) L F m rf (M_mk (M_cd c) (M_pt c) (M_mn c) (M_ev c) (M_co c) (M_al c) (M_re c) (M_lo c) (M_rs c) n1_ (M_he c) (M_go c) (M_sp c) (M_ba c) (M_le c) (M_lf c) n2_ (M_un c) (M_ch c) 0 (M_ac c) (M_bd c)) T p (n1_ + 1) hp (by rw [en1_]; exact wo_lb h3_ hli)) gX5_writeOff_X5_declining rfl rfl rfl 2 (by decide +kernel) ⟨Nat.le_of_ble_eq_true rfl, Nat.le_of_ble_eq_true rfl⟩ (pw_atX 0 rfl) rfl rfl rfl (Nat.le_of_ble_eq_true rfl) ⟨Nat.le_of_ble_eq_true rfl, Nat.le_of_ble_eq_true rfl⟩ [0, 1, 2, 3, 4, 5, 6, 7, 8, 9, 10, 11, 12, 13, 14, 15] [] [0, 1, 2, 3, 4, 5, 6, 7, 8, 9, 10, 11, 12, 13, 14, 15] rfl rfl rfl rfl (by decide) rfl rfl dX5_writeOff_116 (pc2 := 119) rfl rfl ?_
            refine pw_conv (X' := ((m, kM rf (M_cd c) (M_pt c) (M_mn c) (M_ev c) (M_co c) (M_al c) (M_re c) (M_lo c) (M_rs c) n1_ (M_he c) (M_go c) (M_sp c) (M_ba c) (M_le c) (M_lf c) n2_ (M_un c) (M_ch c) 0 (M_ac c) (M_bd c)) :: mT (zG Z) rf T)) mX_mk.symm ?_
            refine pk_topl (fun n7_ en7_ => ?_)
            refine pk_putX (X' := ((m, kM rf (M_cd c) (M_pt c) (M_mn c) (M_ev c) (M_co c) (M_al c) (M_re c) (M_lo c) (M_rs c) n1_ (M_he c) (M_go c) (M_sp c) (M_ba c) (M_le c) (M_lf c) n2_ (M_un c) (M_ch c) n7_ (M_ac c) (M_bd c)) :: mT (zG Z) rf T)) C i5_ tyX5_ok nmX5 0 rfl (ci := 5) rfl 32 (by decide) w0_ rfl rfl rfl rfl rfl (Nat.le_of_ble_eq_true rfl) rfl dX5_writeOff_119 (pc2 := 122) rfl ?_
            refine pk_goto (tgt := 146) C dX5_writeOff_122 (by decide) ?_
            refine pk_aload_n C 0 dX5_writeOff_146 rfl rfl (pc2 := 147) rfl ?_
            refine pk_aload_n C 0 dX5_writeOff_147 rfl rfl (pc2 := 148) rfl ?_
            refine pk_get (v := .long (M_al c)) C i5_ (pw_atX 0 rfl) (ci := 5) rfl 18 (by decide) w7_ rfl rfl dX5_writeOff_148 (pc2 := 151) rfl ?_
            refine pk_aload_n C 0 dX5_writeOff_151 rfl rfl (pc2 := 152) rfl ?_
            refine pk_get (v := .long n7_) C i5_ (pw_atX 0 rfl) (ci := 5) rfl 32 (by decide) w0_ rfl rfl dX5_writeOff_152 (pc2 := 155) rfl ?_
            refine pk_ladd C dX5_writeOff_155 (pc2 := 156) rfl ?_
            refine pk_topl (fun n8_ en8_ => ?_)
            refine pk_putX (X' := ((m, kM rf (M_cd c) (M_pt c) (M_mn c) (M_ev c) (M_co c) n8_ (M_re c) (M_lo c) (M_rs c) n1_ (M_he c) (M_go c) (M_sp c) (M_ba c) (M_le c) (M_lf c) n2_ (M_un c) (M_ch c) n7_ (M_ac c) (M_bd c)) :: mT (zG Z) rf T)) C i5_ tyX5_ok nmX5 0 rfl (ci := 5) rfl 18 (by decide) w7_ rfl rfl rfl rfl rfl (Nat.le_of_ble_eq_true rfl) rfl dX5_writeOff_156 (pc2 := 159) rfl ?_
            refine pk_aload_n C 0 dX5_writeOff_159 rfl rfl (pc2 := 160) rfl ?_
            refine pk_aload_n C 0 dX5_writeOff_160 rfl rfl (pc2 := 161) rfl ?_
            refine pk_get (v := .long (M_ac c)) C i5_ (pw_atX 0 rfl) (ci := 5) rfl 33 (by decide) w8_ rfl rfl dX5_writeOff_161 (pc2 := 164) rfl ?_
            refine pk_aload_n C 0 dX5_writeOff_164 rfl rfl (pc2 := 165) rfl ?_
            refine pk_get (v := .long n7_) C i5_ (pw_atX 0 rfl) (ci := 5) rfl 32 (by decide) w0_ rfl rfl dX5_writeOff_165 (pc2 := 168) rfl ?_
            refine pk_ladd C dX5_writeOff_168 (pc2 := 169) rfl ?_
            refine pk_topl (fun n9_ en9_ => ?_)
            refine pk_putX (X' := ((m, kM rf (M_cd c) (M_pt c) (M_mn c) (M_ev c) (M_co c) n8_ (M_re c) (M_lo c) (M_rs c) n1_ (M_he c) (M_go c) (M_sp c) (M_ba c) (M_le c) (M_lf c) n2_ (M_un c) (M_ch c) n7_ n9_ (M_bd c)) :: mT (zG Z) rf T)) C i5_ tyX5_ok nmX5 0 rfl (ci := 5) rfl 33 (by decide) w8_ rfl rfl rfl rfl rfl (Nat.le_of_ble_eq_true rfl) rfl dX5_writeOff_169 (pc2 := 172) rfl ?_
            refine pw_conv (X' := (mX (zG Z) m rf (M_mk (M_cd c) (M_pt c) (M_mn c) (M_ev c) (M_co c) n8_ (M_re c) (M_lo c) (M_rs c) n1_ (M_he c) (M_go c) (M_sp c) (M_ba c) (M_le c) (M_lf c) n2_ (M_un c) (M_ch c) n7_ n9_ (M_bd c)) T)) mX_mk ?_
            subst en1_ en2_ en7_ en8_ en9_
            exact pr_void C hE (po_d_rfl rfl (by first | with_reducible rfl | (unfold m_X5_writeOff; rw [if_pos h1_, if_pos h2_, if_neg h3_, if_neg h4_, if_pos h5_]))) dX5_writeOff_172
        ·
          refine pk_aload_n C 0 dX5_writeOff_57 rfl rfl (pc2 := 58) rfl ?_
          refine pk_aload_n C 0 dX5_writeOff_58 rfl rfl (pc2 := 59) rfl ?_
          refine pk_get (v := .int (M_un c)) C i5_ (pw_atX 0 rfl) (ci := 5) rfl 30 (by decide) w9_ rfl rfl dX5_writeOff_59 (pc2 := 62) rfl ?_
          refine pk_aload_n C 0 dX5_writeOff_62 rfl rfl (pc2 := 63) rfl ?_
          refine pk_get (v := .ref (rf 6)) C i5_ (pw_atX 0 rfl) (ci := 5) rfl 8 (by decide) w10_ rfl rfl dX5_writeOff_63 (pc2 := 66) rfl ?_
          refine pk_bipush (v := 36) C dX5_writeOff_66 (by decide) (pc2 := 68) rfl ?_
          refine pk_iload_n C 1 dX5_writeOff_68 rfl rfl (pc2 := 69) rfl ?_
          refine pk_imul C dX5_writeOff_69 (pc2 := 70) rfl ?_
          refine pk_iload_n C 2 dX5_writeOff_70 rfl rfl (pc2 := 71) rfl ?_
          refine pk_iadd C dX5_writeOff_71 (pc2 := 72) rfl ?_
          refine pk_iald (v := ((T_us T) (Int32.toNatClampNeg ((36 * p) + mm)))) C (pw_atX 7 rfl) hpm rfl dX5_writeOff_72 (pc2 := 73) rfl ?_
          refine pk_iadd C dX5_writeOff_73 (pc2 := 74) rfl ?_
          refine pk_topi (fun n10_ en10_ => ?_)
          refine pk_putX (X' := ((m, kM rf (M_cd c) (M_pt c) (M_mn c) (M_ev c) (M_co c) (M_al c) (M_re c) (M_lo c) (M_rs c) n1_ (M_he c) (M_go c) (M_sp c) (M_ba c) (M_le c) (M_lf c) n2_ n10_ (M_ch c) 0 (M_ac c) (M_bd c)) :: mT (zG Z) rf T)) C i5_ tyX5_ok nmX5 0 rfl (ci := 5) rfl 30 (by decide) w9_ rfl rfl rfl rfl rfl (Nat.le_of_ble_eq_true rfl) rfl dX5_writeOff_74 (pc2 := 77) rfl ?_
          refine pk_aload_n C 0 dX5_writeOff_77 rfl rfl (pc2 := 78) rfl ?_
          refine pk_aload_n C 0 dX5_writeOff_78 rfl rfl (pc2 := 79) rfl ?_
          refine pk_get (v := .int (M_sp c)) C i5_ (pw_atX 0 rfl) (ci := 5) rfl 25 (by decide) w11_ rfl rfl dX5_writeOff_79 (pc2 := 82) rfl ?_
          refine pk_aload_n C 0 dX5_writeOff_82 rfl rfl (pc2 := 83) rfl ?_
          refine pk_get (v := .ref (rf 6)) C i5_ (pw_atX 0 rfl) (ci := 5) rfl 8 (by decide) w10_ rfl rfl dX5_writeOff_83 (pc2 := 86) rfl ?_
          refine pk_bipush (v := 36) C dX5_writeOff_86 (by decide) (pc2 := 88) rfl ?_
          refine pk_iload_n C 1 dX5_writeOff_88 rfl rfl (pc2 := 89) rfl ?_
          refine pk_imul C dX5_writeOff_89 (pc2 := 90) rfl ?_
          refine pk_iload_n C 2 dX5_writeOff_90 rfl rfl (pc2 := 91) rfl ?_
          refine pk_iadd C dX5_writeOff_91 (pc2 := 92) rfl ?_
          refine pk_iald (v := ((T_us T) (Int32.toNatClampNeg ((36 * p) + mm)))) C (pw_atX 7 rfl) hpm rfl dX5_writeOff_92 (pc2 := 93) rfl ?_
          refine pk_iadd C dX5_writeOff_93 (pc2 := 94) rfl ?_
          refine pk_topi (fun n11_ en11_ => ?_)
          refine pk_putX (X' := ((m, kM rf (M_cd c) (M_pt c) (M_mn c) (M_ev c) (M_co c) (M_al c) (M_re c) (M_lo c) (M_rs c) n1_ (M_he c) (M_go c) n11_ (M_ba c) (M_le c) (M_lf c) n2_ n10_ (M_ch c) 0 (M_ac c) (M_bd c)) :: mT (zG Z) rf T)) C i5_ tyX5_ok nmX5 0 rfl (ci := 5) rfl 25 (by decide) w11_ rfl rfl rfl rfl rfl (Nat.le_of_ble_eq_true rfl) rfl dX5_writeOff_94 (pc2 := 97) rfl ?_
          refine pk_aload_n C 0 dX5_writeOff_97 rfl rfl (pc2 := 98) rfl ?_
          refine pk_get (v := .ref (rf 4)) C i5_ (pw_atX 0 rfl) (ci := 5) rfl 6 (by decide) w5_ rfl rfl dX5_writeOff_98 (pc2 := 101) rfl ?_
          refine pk_iload_n C 1 dX5_writeOff_101 rfl rfl (pc2 := 102) rfl ?_
          refine pk_iald (v := ((T_me T) (Int32.toNatClampNeg p))) C (pw_atX 5 rfl) hp rfl dX5_writeOff_102 (pc2 := 103) rfl ?_
          refine pk_iconst (v := 1) C dX5_writeOff_103 (by decide) (pc2 := 104) rfl ?_
          refine pk_icmp_ne (tgt := 125) C dX5_writeOff_104 (by decide) (pc2 := 107) rfl (fun h6_ => ?_) (fun h6_ => ?_)
          ·
            refine pk_aload_n C 0 dX5_writeOff_125 rfl rfl (pc2 := 126) rfl ?_
            refine pk_iload_n C 1 dX5_writeOff_126 rfl rfl (pc2 := 127) rfl ?_
            refine pw_conv (X' := (mX (zG Z) m rf (M_mk (M_cd c) (M_pt c) (M_mn c) (M_ev c) (M_co c) (M_al c) (M_re c) (M_lo c) (M_rs c) n1_ (M_he c) (M_go c) n11_ (M_ba c) (M_le c) (M_lf c) n2_ n10_ (M_ch c) 0 (M_ac c) (M_bd c)) T)) mX_mk ?_
            refine pk_dV (cx := (mX (zG Z) m rf (M_mk (M_cd c) (M_pt c) (M_mn c) (M_ev c) (M_co c) (M_al c) (M_re c) (M_lo c) (M_rs c) n1_ (M_he c) (M_go c) n11_ (M_ba c) (M_le c) (M_lf c) n2_ n10_ (M_ch c) 0 (M_ac c) (M_bd c)) T)) (wr := []) (X2 := (mX (zG Z) m rf (M_mk (M_cd c) (M_pt c) (M_mn c) (M_ev c) (M_co c) (M_al c) (M_re c) (M_lo c) (M_rs c) n1_ (M_he c) (M_go c) n11_ (M_ba c) (M_le c) (M_lf c) n2_ n10_ (M_ch c) 0 (M_ac c) (M_bd c)) T)) (st := []) (st2 := [.long (m_X5_together (M_mk (M_cd c) (M_pt c) (M_mn c) (M_ev c) (M_co c) (M_al c) (M_re c) (M_lo c) (M_rs c) n1_ (M_he c) (M_go c) n11_ (M_ba c) (M_le c) (M_lf c) n2_ n10_ (M_ch c) 0 (M_ac c) (M_bd c)) T p)]) (As := [.int p]) C (c_X5_together (zl Z) (zG Z) L F m rf (M_mk (M_cd c) (M_pt c) (M_mn c) (M_ev c) (M_co c) (M_al c) (M_re c) (M_lo c) (M_rs c) n1_ (M_he c) (M_go c) n11_ (M_ba c) (M_le c) (M_lf c) n2_ n10_ (M_ch c) 0 (M_ac c) (M_bd c)) T p hp (by rw [M_le_mk]; exact hle h3_)) gX5_writeOff_X5_together rfl rfl rfl 1 (by decide +kernel) ⟨Nat.le_of_ble_eq_true rfl, Nat.le_of_ble_eq_true rfl⟩ (pw_atX 0 rfl) rfl rfl rfl (Nat.le_of_ble_eq_true rfl) ⟨Nat.le_of_ble_eq_true rfl, Nat.le_of_ble_eq_true rfl⟩ [0, 1, 2, 3, 4, 5, 6, 7, 8, 9, 10, 11, 12, 13, 14, 15] [] [0, 1, 2, 3, 4, 5, 6, 7, 8, 9, 10, 11, 12, 13, 14, 15] rfl rfl rfl rfl (by decide) rfl rfl dX5_writeOff_127 (pc2 := 130) rfl rfl ?_
            refine pw_conv (X' := ((m, kM rf (M_cd c) (M_pt c) (M_mn c) (M_ev c) (M_co c) (M_al c) (M_re c) (M_lo c) (M_rs c) n1_ (M_he c) (M_go c) n11_ (M_ba c) (M_le c) (M_lf c) n2_ n10_ (M_ch c) 0 (M_ac c) (M_bd c)) :: mT (zG Z) rf T)) mX_mk.symm ?_
            refine pk_topl (fun n12_ en12_ => ?_)
            refine pk_lstore_n (lv' := [(3, .long n12_), (0, .ref m), (1, .int p), (2, .int mm)]) C dX5_writeOff_130 rfl (by decide) rfl (pc2 := 131) rfl ?_
            refine pk_aload_n C 1 dX5_writeOff_131 rfl rfl (pc2 := 132) rfl ?_
            refine pk_lload_n C 0 dX5_writeOff_132 rfl rfl (pc2 := 133) rfl ?_
            refine pk_aload_n C 1 dX5_writeOff_133 rfl rfl (pc2 := 134) rfl ?_
            refine pk_get (v := .long (M_ch c)) C i5_ (pw_atX 0 rfl) (ci := 5) rfl 31 (by decide) w6_ rfl rfl dX5_writeOff_134 (pc2 := 137) rfl ?_
            refine pk_lsub C dX5_writeOff_137 (pc2 := 138) rfl ?_
            refine pk_topl (fun n13_ en13_ => ?_)
            refine pk_putX (X' := ((m, kM rf (M_cd c) (M_pt c) (M_mn c) (M_ev c) (M_co c) (M_al c) (M_re c) (M_lo c) (M_rs c) n1_ (M_he c) (M_go c) n11_ (M_ba c) (M_le c) (M_lf c) n2_ n10_ (M_ch c) n13_ (M_ac c) (M_bd c)) :: mT (zG Z) rf T)) C i5_ tyX5_ok nmX5 0 rfl (ci := 5) rfl 32 (by decide) w0_ rfl rfl rfl rfl rfl (Nat.le_of_ble_eq_true rfl) rfl dX5_writeOff_138 (pc2 := 141) rfl ?_
            refine pk_aload_n C 1 dX5_writeOff_141 rfl rfl (pc2 := 142) rfl ?_
            refine pk_lload_n C 0 dX5_writeOff_142 rfl rfl (pc2 := 143) rfl ?_
            refine pk_putX (X' := ((m, kM rf (M_cd c) (M_pt c) (M_mn c) (M_ev c) (M_co c) (M_al c) (M_re c) (M_lo c) (M_rs c) n1_ (M_he c) (M_go c) n11_ (M_ba c) (M_le c) (M_lf c) n2_ n10_ n12_ n13_ (M_ac c) (M_bd c)) :: mT (zG Z) rf T)) C i5_ tyX5_ok nmX5 0 rfl (ci := 5) rfl 31 (by decide) w6_ rfl rfl rfl rfl rfl (Nat.le_of_ble_eq_true rfl) rfl dX5_writeOff_143 (pc2 := 146) rfl ?_
            refine pk_aload_n C 1 dX5_writeOff_146 rfl rfl (pc2 := 147) rfl ?_
            refine pk_aload_n C 1 dX5_writeOff_147 rfl rfl (pc2 := 148) rfl ?_
            refine pk_get (v := .long (M_al c)) C i5_ (pw_atX 0 rfl) (ci := 5) rfl 18 (by decide) w7_ rfl rfl dX5_writeOff_148 (pc2 := 151) rfl ?_
            refine pk_aload_n C 1 dX5_writeOff_151 rfl rfl (pc2 := 152) rfl ?_
            refine pk_get (v := .long n13_) C i5_ (pw_atX 0 rfl) (ci := 5) rfl 32 (by decide) w0_ rfl rfl dX5_writeOff_152 (pc2 := 155) rfl ?_
            refine pk_ladd C dX5_writeOff_155 (pc2 := 156) rfl ?_
            refine pk_topl (fun n14_ en14_ => ?_)
            refine pk_putX (X' := ((m, kM rf (M_cd c) (M_pt c) (M_mn c) (M_ev c) (M_co c) n14_ (M_re c) (M_lo c) (M_rs c) n1_ (M_he c) (M_go c) n11_ (M_ba c) (M_le c) (M_lf c) n2_ n10_ n12_ n13_ (M_ac c) (M_bd c)) :: mT (zG Z) rf T)) C i5_ tyX5_ok nmX5 0 rfl (ci := 5) rfl 18 (by decide) w7_ rfl rfl rfl rfl rfl (Nat.le_of_ble_eq_true rfl) rfl dX5_writeOff_156 (pc2 := 159) rfl ?_
            refine pk_aload_n C 1 dX5_writeOff_159 rfl rfl (pc2 := 160) rfl ?_
            refine pk_aload_n C 1 dX5_writeOff_160 rfl rfl (pc2 := 161) rfl ?_
            refine pk_get (v := .long (M_ac c)) C i5_ (pw_atX 0 rfl) (ci := 5) rfl 33 (by decide) w8_ rfl rfl dX5_writeOff_161 (pc2 := 164) rfl ?_
            refine pk_aload_n C 1 dX5_writeOff_164 rfl rfl (pc2 := 165) rfl ?_
            refine pk_get (v := .long n13_) C i5_ (pw_atX 0 rfl) (ci := 5) rfl 32 (by decide) w0_ rfl rfl dX5_writeOff_165 (pc2 := 168) rfl ?_
            refine pk_ladd C dX5_writeOff_168 (pc2 := 169) rfl ?_
            refine pk_topl (fun n15_ en15_ => ?_)
            refine pk_putX (X' := ((m, kM rf (M_cd c) (M_pt c) (M_mn c) (M_ev c) (M_co c) n14_ (M_re c) (M_lo c) (M_rs c) n1_ (M_he c) (M_go c) n11_ (M_ba c) (M_le c) (M_lf c) n2_ n10_ n12_ n13_ n15_ (M_bd c)) :: mT (zG Z) rf T)) C i5_ tyX5_ok nmX5 0 rfl (ci := 5) rfl 33 (by decide) w8_ rfl rfl rfl rfl rfl (Nat.le_of_ble_eq_true rfl) rfl dX5_writeOff_169 (pc2 := 172) rfl ?_
            refine pw_conv (X' := (mX (zG Z) m rf (M_mk (M_cd c) (M_pt c) (M_mn c) (M_ev c) (M_co c) n14_ (M_re c) (M_lo c) (M_rs c) n1_ (M_he c) (M_go c) n11_ (M_ba c) (M_le c) (M_lf c) n2_ n10_ n12_ n13_ n15_ (M_bd c)) T)) mX_mk ?_
            subst en1_ en2_ en10_ en11_ en12_ en13_ en14_ en15_
            exact pr_void C hE (po_d_rfl rfl (by first | with_reducible rfl | (unfold m_X5_writeOff; rw [if_pos h1_, if_pos h2_, if_neg h3_, if_pos h4_, if_neg h6_]))) dX5_writeOff_172
          ·
            refine pk_aload_n C 0 dX5_writeOff_107 rfl rfl (pc2 := 108) rfl ?_
            refine pk_aload_n C 0 dX5_writeOff_108 rfl rfl (pc2 := 109) rfl ?_
            refine pk_iload_n C 1 dX5_writeOff_109 rfl rfl (pc2 := 110) rfl ?_
            refine pk_aload_n C 0 dX5_writeOff_110 rfl rfl (pc2 := 111) rfl ?_
            refine pk_get (v := .int n1_) C i5_ (pw_atX 0 rfl) (ci := 5) rfl 22 (by decide) w3_ rfl rfl dX5_writeOff_111 (pc2 := 114) rfl ?_
            refine pk_iconst (v := 1) C dX5_writeOff_114 (by decide) (pc2 := 115) rfl ?_
            refine pk_iadd C dX5_writeOff_115 (pc2 := 116) rfl ?_
            refine pw_conv (X' := (mX (zG Z) m rf (M_mk (M_cd c) (M_pt c) (M_mn c) (M_ev c) (M_co c) (M_al c) (M_re c) (M_lo c) (M_rs c) n1_ (M_he c) (M_go c) n11_ (M_ba c) (M_le c) (M_lf c) n2_ n10_ (M_ch c) 0 (M_ac c) (M_bd c)) T)) mX_mk ?_
            refine pk_dV (cx := (mX (zG Z) m rf (M_mk (M_cd c) (M_pt c) (M_mn c) (M_ev c) (M_co c) (M_al c) (M_re c) (M_lo c) (M_rs c) n1_ (M_he c) (M_go c) n11_ (M_ba c) (M_le c) (M_lf c) n2_ n10_ (M_ch c) 0 (M_ac c) (M_bd c)) T)) (wr := []) (X2 := (mX (zG Z) m rf (M_mk (M_cd c) (M_pt c) (M_mn c) (M_ev c) (M_co c) (M_al c) (M_re c) (M_lo c) (M_rs c) n1_ (M_he c) (M_go c) n11_ (M_ba c) (M_le c) (M_lf c) n2_ n10_ (M_ch c) 0 (M_ac c) (M_bd c)) T)) (st := [.ref m]) (st2 := [.long (m_X5_declining (M_mk (M_cd c) (M_pt c) (M_mn c) (M_ev c) (M_co c) (M_al c) (M_re c) (M_lo c) (M_rs c) n1_ (M_he c) (M_go c) n11_ (M_ba c) (M_le c) (M_lf c) n2_ n10_ (M_ch c) 0 (M_ac c) (M_bd c)) T p (n1_ + 1)), .ref m]) (As := [.int p, .int (n1_ + 1)]) C (c_X5_declining (zl Z) (zG Z) L F m rf (M_mk (M_cd c) (M_pt c) (M_mn c) (M_ev c) (M_co c) (M_al c) (M_re c) (M_lo c) (M_rs c) n1_ (M_he c) (M_go c) n11_ (M_ba c) (M_le c) (M_lf c) n2_ n10_ (M_ch c) 0 (M_ac c) (M_bd c)) T p (n1_ + 1) hp (by rw [en1_]; exact wo_lb h3_ hli)) gX5_writeOff_X5_declining rfl rfl rfl 2 (by decide +kernel) ⟨Nat.le_of_ble_eq_true rfl, Nat.le_of_ble_eq_true rfl⟩ (pw_atX 0 rfl) rfl rfl rfl (Nat.le_of_ble_eq_true rfl) ⟨Nat.le_of_ble_eq_true rfl, Nat.le_of_ble_eq_true rfl⟩ [0, 1, 2, 3, 4, 5, 6, 7, 8, 9, 10, 11, 12, 13, 14, 15] [] [0, 1, 2, 3, 4, 5, 6, 7, 8, 9, 10, 11, 12, 13, 14, 15] rfl rfl rfl rfl (by decide) rfl rfl dX5_writeOff_116 (pc2 := 119) rfl rfl ?_
            refine pw_conv (X' := ((m, kM rf (M_cd c) (M_pt c) (M_mn c) (M_ev c) (M_co c) (M_al c) (M_re c) (M_lo c) (M_rs c) n1_ (M_he c) (M_go c) n11_ (M_ba c) (M_le c) (M_lf c) n2_ n10_ (M_ch c) 0 (M_ac c) (M_bd c)) :: mT (zG Z) rf T)) mX_mk.symm ?_
            refine pk_topl (fun n16_ en16_ => ?_)
            refine pk_putX (X' := ((m, kM rf (M_cd c) (M_pt c) (M_mn c) (M_ev c) (M_co c) (M_al c) (M_re c) (M_lo c) (M_rs c) n1_ (M_he c) (M_go c) n11_ (M_ba c) (M_le c) (M_lf c) n2_ n10_ (M_ch c) n16_ (M_ac c) (M_bd c)) :: mT (zG Z) rf T)) C i5_ tyX5_ok nmX5 0 rfl (ci := 5) rfl 32 (by decide) w0_ rfl rfl rfl rfl rfl (Nat.le_of_ble_eq_true rfl) rfl dX5_writeOff_119 (pc2 := 122) rfl ?_
            refine pk_goto (tgt := 146) C dX5_writeOff_122 (by decide) ?_
            refine pk_aload_n C 0 dX5_writeOff_146 rfl rfl (pc2 := 147) rfl ?_
            refine pk_aload_n C 0 dX5_writeOff_147 rfl rfl (pc2 := 148) rfl ?_
            refine pk_get (v := .long (M_al c)) C i5_ (pw_atX 0 rfl) (ci := 5) rfl 18 (by decide) w7_ rfl rfl dX5_writeOff_148 (pc2 := 151) rfl ?_
            refine pk_aload_n C 0 dX5_writeOff_151 rfl rfl (pc2 := 152) rfl ?_
            refine pk_get (v := .long n16_) C i5_ (pw_atX 0 rfl) (ci := 5) rfl 32 (by decide) w0_ rfl rfl dX5_writeOff_152 (pc2 := 155) rfl ?_
            refine pk_ladd C dX5_writeOff_155 (pc2 := 156) rfl ?_
            refine pk_topl (fun n17_ en17_ => ?_)
            refine pk_putX (X' := ((m, kM rf (M_cd c) (M_pt c) (M_mn c) (M_ev c) (M_co c) n17_ (M_re c) (M_lo c) (M_rs c) n1_ (M_he c) (M_go c) n11_ (M_ba c) (M_le c) (M_lf c) n2_ n10_ (M_ch c) n16_ (M_ac c) (M_bd c)) :: mT (zG Z) rf T)) C i5_ tyX5_ok nmX5 0 rfl (ci := 5) rfl 18 (by decide) w7_ rfl rfl rfl rfl rfl (Nat.le_of_ble_eq_true rfl) rfl dX5_writeOff_156 (pc2 := 159) rfl ?_
            refine pk_aload_n C 0 dX5_writeOff_159 rfl rfl (pc2 := 160) rfl ?_
            refine pk_aload_n C 0 dX5_writeOff_160 rfl rfl (pc2 := 161) rfl ?_
            refine pk_get (v := .long (M_ac c)) C i5_ (pw_atX 0 rfl) (ci := 5) rfl 33 (by decide) w8_ rfl rfl dX5_writeOff_161 (pc2 := 164) rfl ?_
            refine pk_aload_n C 0 dX5_writeOff_164 rfl rfl (pc2 := 165) rfl ?_
            refine pk_get (v := .long n16_) C i5_ (pw_atX 0 rfl) (ci := 5) rfl 32 (by decide) w0_ rfl rfl dX5_writeOff_165 (pc2 := 168) rfl ?_
            refine pk_ladd C dX5_writeOff_168 (pc2 := 169) rfl ?_
            refine pk_topl (fun n18_ en18_ => ?_)
            refine pk_putX (X' := ((m, kM rf (M_cd c) (M_pt c) (M_mn c) (M_ev c) (M_co c) n17_ (M_re c) (M_lo c) (M_rs c) n1_ (M_he c) (M_go c) n11_ (M_ba c) (M_le c) (M_lf c) n2_ n10_ (M_ch c) n16_ n18_ (M_bd c)) :: mT (zG Z) rf T)) C i5_ tyX5_ok nmX5 0 rfl (ci := 5) rfl 33 (by decide) w8_ rfl rfl rfl rfl rfl (Nat.le_of_ble_eq_true rfl) rfl dX5_writeOff_169 (pc2 := 172) rfl ?_
            refine pw_conv (X' := (mX (zG Z) m rf (M_mk (M_cd c) (M_pt c) (M_mn c) (M_ev c) (M_co c) n17_ (M_re c) (M_lo c) (M_rs c) n1_ (M_he c) (M_go c) n11_ (M_ba c) (M_le c) (M_lf c) n2_ n10_ (M_ch c) n16_ n18_ (M_bd c)) T)) mX_mk ?_
            subst en1_ en2_ en10_ en11_ en16_ en17_ en18_
            exact pr_void C hE (po_d_rfl rfl (by first | with_reducible rfl | (unfold m_X5_writeOff; rw [if_pos h1_, if_pos h2_, if_neg h3_, if_pos h4_, if_pos h6_]))) dX5_writeOff_172
      ·
        refine pw_conv (X' := (mX (zG Z) m rf (M_mk (M_cd c) (M_pt c) (M_mn c) (M_ev c) (M_co c) (M_al c) (M_re c) (M_lo c) (M_rs c) (M_li c) (M_he c) (M_go c) (M_sp c) (M_ba c) (M_le c) (M_lf c) (M_mo c) (M_un c) (M_ch c) 0 (M_ac c) (M_bd c)) T)) mX_mk ?_
        exact pr_void C hE (po_d_rfl rfl (by first | with_reducible rfl | (unfold m_X5_writeOff; rw [if_pos h1_, if_pos h2_, if_pos h3_]))) dX5_writeOff_26

theorem zi_ite {α : Sort _} {P : α → Prop} {c : Prop} [Decidable c] {a b : α} (h1 : c → P a) (h2 : ¬ c → P b) : P (if c then a else b) := by
  by_cases h : c
  · rw [if_pos h]; exact h1 h
  · rw [if_neg h]; exact h2 h
def m_X5_happens (c : MR) (T : TR) (e : Int32) (mm : Int32) : Int32 × MR :=
  if (M_go c) = 0 then if (M_he c) = 0 then if ((T_ki T) (Int32.toNatClampNeg e)) = 0 then if (M_li c) ≤ 0 then (0, (M_mk (M_cd c) (M_pt c) (M_mn c) (M_ev c) ((M_co c) + ((T_am T) (Int32.toNatClampNeg e))) (M_al c) (M_re c) (M_lo c) (M_rs c) (M_li c) (M_he c) (M_go c) (M_sp c) (M_ba c) (M_le c) (M_lf c) (M_mo c) (M_un c) (M_ch c) (M_lc c) (M_ac c) (M_bd c))) else if (m_X5_book (M_mk (M_cd c) (M_pt c) (M_mn c) (M_ev c) ((M_co c) + ((T_am T) (Int32.toNatClampNeg e))) (M_al c) (M_re c) (M_lo c) (M_rs c) (M_li c) (M_he c) (M_go c) (M_sp c) (M_ba c) (M_le c) (M_lf c) (M_mo c) (M_un c) (M_ch c) (M_lc c) (M_ac c) (M_bd c)) T) < (M_rs c) then (0, (M_mk (M_cd c) (M_pt c) (M_mn c) (M_ev c) ((M_co c) + ((T_am T) (Int32.toNatClampNeg e))) (M_al c) (M_re c) (M_lo c) (M_rs c) (M_li c) (M_he c) (M_go c) (M_sp c) (M_ba c) (M_le c) (M_lf c) (M_mo c) (M_un c) (M_ch c) (M_lc c) (M_ac c) (M_bd c))) else (1, (M_mk (M_cd c) (M_pt c) (M_mn c) (M_ev c) ((M_co c) + ((T_am T) (Int32.toNatClampNeg e))) (M_al c) (M_re c) (M_lo c) (M_rs c) (M_li c) (M_he c) (M_go c) (M_sp c) (M_ba c) (M_le c) (M_lf c) (M_mo c) (M_un c) (M_ch c) (M_lc c) (M_ac c) (M_bd c))) else if ((T_ki T) (Int32.toNatClampNeg e)) = 1 then if (m_X5_book (M_mk (M_cd c) (M_pt c) (M_mn c) (M_ev c) (M_co c) (M_al c) (M_re c) (M_lo c) ((T_am T) (Int32.toNatClampNeg e)) ((T_nu T) (Int32.toNatClampNeg e)) (M_he c) (M_go c) (M_sp c) (M_ba c) (M_le c) (M_lf c) (M_mo c) (M_un c) (M_ch c) (M_lc c) (M_ac c) (M_bd c)) T) < ((T_am T) (Int32.toNatClampNeg e)) then (0, (M_mk (M_cd c) (M_pt c) (M_mn c) (M_ev c) (M_co c) (M_al c) (M_re c) (M_lo c) ((T_am T) (Int32.toNatClampNeg e)) ((T_nu T) (Int32.toNatClampNeg e)) (M_he c) (M_go c) (M_sp c) (M_ba c) (M_le c) (M_lf c) (M_mo c) (M_un c) (M_ch c) (M_lc c) (M_ac c) (M_bd c))) else (1, (M_mk (M_cd c) (M_pt c) (M_mn c) (M_ev c) (M_co c) (M_al c) (M_re c) (M_lo c) ((T_am T) (Int32.toNatClampNeg e)) ((T_nu T) (Int32.toNatClampNeg e)) (M_he c) (M_go c) (M_sp c) (M_ba c) (M_le c) (M_lf c) (M_mo c) (M_un c) (M_ch c) (M_lc c) (M_ac c) (M_bd c))) else if ((T_ki T) (Int32.toNatClampNeg e)) = 2 then (1, (m_X5_values c T ((T_am T) (Int32.toNatClampNeg e)))) else if ((T_ki T) (Int32.toNatClampNeg e)) = 3 then (((m_X5_impairs c T ((T_am T) (Int32.toNatClampNeg e))).1), ((m_X5_impairs c T ((T_am T) (Int32.toNatClampNeg e))).2)) else if ((T_ki T) (Int32.toNatClampNeg e)) = 4 then (((m_X5_restores c T ((T_am T) (Int32.toNatClampNeg e)) mm).1), ((m_X5_restores c T ((T_am T) (Int32.toNatClampNeg e)) mm).2)) else if ((T_ki T) (Int32.toNatClampNeg e)) = 5 then (1, (m_X5_sells c T ((T_nu T) (Int32.toNatClampNeg e)))) else if ((T_ki T) (Int32.toNatClampNeg e)) = 6 then (1, (M_mk (M_cd c) (M_pt c) (M_mn c) (M_ev c) (M_co c) (M_al c) (M_re c) (M_lo c) (M_rs c) (M_li c) 1 (M_go c) (M_sp c) (M_ba c) (M_le c) (M_lf c) (M_mo c) (M_un c) (M_ch c) (M_lc c) (M_ac c) (M_bd c))) else ((M_he c), (M_mk (M_cd c) (M_pt c) (M_mn c) (M_ev c) (M_co c) (M_al c) (M_re c) (M_lo c) (M_rs c) (M_li c) 0 (M_go c) (M_sp c) (M_ba c) (M_le c) (M_lf c) (M_mo c) (M_un c) (M_ch c) (M_lc c) (M_ac c) (M_bd c))) else if ((T_ki T) (Int32.toNatClampNeg e)) = 5 then (1, (m_X5_sells c T ((T_nu T) (Int32.toNatClampNeg e)))) else if ((T_ki T) (Int32.toNatClampNeg e)) = 7 then if ((T_ki T) (Int32.toNatClampNeg e)) = 0 then if (M_li c) ≤ 0 then (0, (M_mk (M_cd c) (M_pt c) (M_mn c) (M_ev c) ((M_co c) + ((T_am T) (Int32.toNatClampNeg e))) (M_al c) (M_re c) (M_lo c) (M_rs c) (M_li c) (M_he c) (M_go c) (M_sp c) (M_ba c) (M_le c) (M_lf c) (M_mo c) (M_un c) (M_ch c) (M_lc c) (M_ac c) (M_bd c))) else if (m_X5_book (M_mk (M_cd c) (M_pt c) (M_mn c) (M_ev c) ((M_co c) + ((T_am T) (Int32.toNatClampNeg e))) (M_al c) (M_re c) (M_lo c) (M_rs c) (M_li c) (M_he c) (M_go c) (M_sp c) (M_ba c) (M_le c) (M_lf c) (M_mo c) (M_un c) (M_ch c) (M_lc c) (M_ac c) (M_bd c)) T) < (M_rs c) then (0, (M_mk (M_cd c) (M_pt c) (M_mn c) (M_ev c) ((M_co c) + ((T_am T) (Int32.toNatClampNeg e))) (M_al c) (M_re c) (M_lo c) (M_rs c) (M_li c) (M_he c) (M_go c) (M_sp c) (M_ba c) (M_le c) (M_lf c) (M_mo c) (M_un c) (M_ch c) (M_lc c) (M_ac c) (M_bd c))) else (1, (M_mk (M_cd c) (M_pt c) (M_mn c) (M_ev c) ((M_co c) + ((T_am T) (Int32.toNatClampNeg e))) (M_al c) (M_re c) (M_lo c) (M_rs c) (M_li c) (M_he c) (M_go c) (M_sp c) (M_ba c) (M_le c) (M_lf c) (M_mo c) (M_un c) (M_ch c) (M_lc c) (M_ac c) (M_bd c))) else if ((T_ki T) (Int32.toNatClampNeg e)) = 1 then if (m_X5_book (M_mk (M_cd c) (M_pt c) (M_mn c) (M_ev c) (M_co c) (M_al c) (M_re c) (M_lo c) ((T_am T) (Int32.toNatClampNeg e)) ((T_nu T) (Int32.toNatClampNeg e)) (M_he c) (M_go c) (M_sp c) (M_ba c) (M_le c) (M_lf c) (M_mo c) (M_un c) (M_ch c) (M_lc c) (M_ac c) (M_bd c)) T) < ((T_am T) (Int32.toNatClampNeg e)) then (0, (M_mk (M_cd c) (M_pt c) (M_mn c) (M_ev c) (M_co c) (M_al c) (M_re c) (M_lo c) ((T_am T) (Int32.toNatClampNeg e)) ((T_nu T) (Int32.toNatClampNeg e)) (M_he c) (M_go c) (M_sp c) (M_ba c) (M_le c) (M_lf c) (M_mo c) (M_un c) (M_ch c) (M_lc c) (M_ac c) (M_bd c))) else (1, (M_mk (M_cd c) (M_pt c) (M_mn c) (M_ev c) (M_co c) (M_al c) (M_re c) (M_lo c) ((T_am T) (Int32.toNatClampNeg e)) ((T_nu T) (Int32.toNatClampNeg e)) (M_he c) (M_go c) (M_sp c) (M_ba c) (M_le c) (M_lf c) (M_mo c) (M_un c) (M_ch c) (M_lc c) (M_ac c) (M_bd c))) else if ((T_ki T) (Int32.toNatClampNeg e)) = 2 then (1, (m_X5_values c T ((T_am T) (Int32.toNatClampNeg e)))) else if ((T_ki T) (Int32.toNatClampNeg e)) = 3 then (((m_X5_impairs c T ((T_am T) (Int32.toNatClampNeg e))).1), ((m_X5_impairs c T ((T_am T) (Int32.toNatClampNeg e))).2)) else if ((T_ki T) (Int32.toNatClampNeg e)) = 4 then (((m_X5_restores c T ((T_am T) (Int32.toNatClampNeg e)) mm).1), ((m_X5_restores c T ((T_am T) (Int32.toNatClampNeg e)) mm).2)) else if ((T_ki T) (Int32.toNatClampNeg e)) = 6 then (1, (M_mk (M_cd c) (M_pt c) (M_mn c) (M_ev c) (M_co c) (M_al c) (M_re c) (M_lo c) (M_rs c) (M_li c) 1 (M_go c) (M_sp c) (M_ba c) (M_le c) (M_lf c) (M_mo c) (M_un c) (M_ch c) (M_lc c) (M_ac c) (M_bd c))) else ((M_he c), (M_mk (M_cd c) (M_pt c) (M_mn c) (M_ev c) (M_co c) (M_al c) (M_re c) (M_lo c) (M_rs c) (M_li c) 0 (M_go c) (M_sp c) (M_ba c) (M_le c) (M_lf c) (M_mo c) (M_un c) (M_ch c) (M_lc c) (M_ac c) (M_bd c))) else (0, c) else (0, c)
set_option maxRecDepth 100000 in
set_option maxHeartbeats 2000000 in
theorem c_X5_happens (l : Launch) (G : pw_G) (L : List Nat) (F : Nat → va_E) (m : Nat) (rf : Nat → Nat) (c : MR) (T : TR) (e : Int32) (mm : Int32) (he : vp_in e 40) (hm : vp_in mm 36) (hhe : M_he c = 0 ∨ M_he c = 1) : PM l yX5_happens wsX5_happens ⟨3, 0, 0, 66⟩ G [.ref m, .int e, .int mm] (mX G m rf c T) L F 0 0 (po_d (some (.int (m_X5_happens c T e mm).1)) (mX G m rf ((m_X5_happens c T e mm).2) T) L F) := by
  refine pm_entry (by decide) rfl rfl (Nat.le_of_ble_eq_true rfl) ?_
  intro Z Q C hl0 hG0 hnm hE
  subst hl0
  subst hG0
  have i5_ : ∀ w ∈ wsX50, w ∈ wsX5_happens := by decide +kernel
  have w0_ : Cond.fieldLink RX5 41 "AgedAssetsModel" "kinds" "[I" ∈ wsX5_happens := by decide +kernel
  have w1_ : Cond.fieldLink RX5 44 "AgedAssetsModel" "amounts" "[J" ∈ wsX5_happens := by decide +kernel
  have w2_ : Cond.fieldLink RX5 130 "AgedAssetsModel" "gone" "Z" ∈ wsX5_happens := by decide +kernel
  have w3_ : Cond.fieldLink RX5 134 "AgedAssetsModel" "held" "Z" ∈ wsX5_happens := by decide +kernel
  have w4_ : Cond.fieldLink RX5 65 "AgedAssetsModel" "cost" "J" ∈ wsX5_happens := by decide +kernel
  have w5_ : Cond.fieldLink RX5 85 "AgedAssetsModel" "rest" "I" ∈ wsX5_happens := by decide +kernel
  have w6_ : Cond.fieldLink RX5 79 "AgedAssetsModel" "residual" "J" ∈ wsX5_happens := by decide +kernel
  have w7_ : Cond.fieldLink RX5 47 "AgedAssetsModel" "numbers" "[I" ∈ wsX5_happens := by decide +kernel
  show PW Z (mX (zG Z) m rf c T) L F 0 0 Q 0 [(0, .ref m), (1, .int e), (2, .int mm)] []
  refine pk_aload_n C 0 dX5_happens_0 rfl rfl (pc2 := 1) rfl ?_
  refine pk_get (v := .ref (rf 10)) C i5_ (pw_atX 0 rfl) (ci := 5) rfl 14 (by decide) w0_ rfl rfl dX5_happens_1 (pc2 := 4) rfl ?_
  refine pk_iload_n C 1 dX5_happens_4 rfl rfl (pc2 := 5) rfl ?_
  refine pk_iald (v := ((T_ki T) (Int32.toNatClampNeg e))) C (pw_atX 11 rfl) he rfl dX5_happens_5 (pc2 := 6) rfl ?_
  refine pk_topi (fun n1_ en1_ => ?_)
  refine pk_istore_n (lv' := [(3, .int n1_), (0, .ref m), (1, .int e), (2, .int mm)]) C dX5_happens_6 rfl (by decide) rfl (pc2 := 7) rfl ?_
  refine pk_aload_n C 1 dX5_happens_7 rfl rfl (pc2 := 8) rfl ?_
  refine pk_get (v := .ref (rf 11)) C i5_ (pw_atX 0 rfl) (ci := 5) rfl 15 (by decide) w1_ rfl rfl dX5_happens_8 (pc2 := 11) rfl ?_
  refine pk_iload_n C 2 dX5_happens_11 rfl rfl (pc2 := 12) rfl ?_
  refine pk_lald (v := ((T_am T) (Int32.toNatClampNeg e))) C (pw_atX 12 rfl) he rfl dX5_happens_12 (pc2 := 13) rfl ?_
  refine pk_topl (fun n2_ en2_ => ?_)
  refine pk_lstore (lv' := [(4, .long n2_), (3, .int n1_), (0, .ref m), (1, .int e), (2, .int mm)]) C dX5_happens_13 (by decide) rfl (pc2 := 15) rfl ?_
  refine pk_aload_n C 2 dX5_happens_15 rfl rfl (pc2 := 16) rfl ?_
  refine pk_get (v := .int (M_go c)) C i5_ (pw_atX 0 rfl) (ci := 5) rfl 24 (by decide) w2_ rfl rfl dX5_happens_16 (pc2 := 19) rfl ?_
  refine pk_if_ne (tgt := 40) C dX5_happens_19 (by decide) (pc2 := 22) rfl (fun h1_ => ?_) (fun h1_ => ?_)
  ·
    refine pk_iconst (v := 0) C dX5_happens_40 (by decide) (pc2 := 41) rfl ?_
    subst en1_ en2_
    exact pr_int (ty := .boolean) C hE rfl rfl (po_d_rfl (by first | with_reducible rfl | (unfold m_X5_happens; rw [if_neg h1_])) (by first | with_reducible rfl | (unfold m_X5_happens; rw [if_neg h1_]))) dX5_happens_41
  ·
    refine pk_aload_n C 2 dX5_happens_22 rfl rfl (pc2 := 23) rfl ?_
    refine pk_get (v := .int (M_he c)) C i5_ (pw_atX 0 rfl) (ci := 5) rfl 23 (by decide) w3_ rfl rfl dX5_happens_23 (pc2 := 26) rfl ?_
    refine pk_if_eq (tgt := 42) C dX5_happens_26 (by decide) (pc2 := 29) rfl (fun h2_ => ?_) (fun h2_ => ?_)
    ·
      refine pk_iload_n C 1 dX5_happens_42 rfl rfl (pc2 := 43) rfl ?_
      by_cases h3_ : n1_ = 0
      ·
        refine pk_tableIn (tgt := 84) C dX5_happens_43 (by rw [h3_]; decide) (by rw [h3_]; decide) (by rw [h3_]; first | done | rfl) (by decide) ?_
        refine pk_aload_n C 2 dX5_happens_84 rfl rfl (pc2 := 85) rfl ?_
        refine pk_aload_n C 2 dX5_happens_85 rfl rfl (pc2 := 86) rfl ?_
        refine pk_get (v := .long (M_co c)) C i5_ (pw_atX 0 rfl) (ci := 5) rfl 17 (by decide) w4_ rfl rfl dX5_happens_86 (pc2 := 89) rfl ?_
        refine pk_lload C 0 dX5_happens_89 rfl (pc2 := 91) rfl ?_
        refine pk_ladd C dX5_happens_91 (pc2 := 92) rfl ?_
        refine pk_topl (fun n3_ en3_ => ?_)
        refine pk_putX (X' := ((m, kM rf (M_cd c) (M_pt c) (M_mn c) (M_ev c) n3_ (M_al c) (M_re c) (M_lo c) (M_rs c) (M_li c) (M_he c) (M_go c) (M_sp c) (M_ba c) (M_le c) (M_lf c) (M_mo c) (M_un c) (M_ch c) (M_lc c) (M_ac c) (M_bd c)) :: mT (zG Z) rf T)) C i5_ tyX5_ok nmX5 0 rfl (ci := 5) rfl 17 (by decide) w4_ rfl rfl rfl rfl rfl (Nat.le_of_ble_eq_true rfl) rfl dX5_happens_92 (pc2 := 95) rfl ?_
        refine pk_aload_n C 2 dX5_happens_95 rfl rfl (pc2 := 96) rfl ?_
        refine pk_get (v := .int (M_li c)) C i5_ (pw_atX 0 rfl) (ci := 5) rfl 22 (by decide) w5_ rfl rfl dX5_happens_96 (pc2 := 99) rfl ?_
        refine pk_if_le (tgt := 118) C dX5_happens_99 (by decide) (pc2 := 102) rfl (fun h4_ => ?_) (fun h4_ => ?_)
        ·
          refine pk_iconst (v := 0) C dX5_happens_118 (by decide) (pc2 := 119) rfl ?_
          refine pw_conv (X' := (mX (zG Z) m rf (M_mk (M_cd c) (M_pt c) (M_mn c) (M_ev c) n3_ (M_al c) (M_re c) (M_lo c) (M_rs c) (M_li c) (M_he c) (M_go c) (M_sp c) (M_ba c) (M_le c) (M_lf c) (M_mo c) (M_un c) (M_ch c) (M_lc c) (M_ac c) (M_bd c)) T)) mX_mk ?_
          subst en1_ en2_ en3_
          exact pr_int (ty := .boolean) C hE rfl rfl (po_d_rfl (by first | with_reducible rfl | (unfold m_X5_happens; rw [if_pos h1_, if_pos h2_, if_pos h3_, if_pos h4_])) (by first | with_reducible rfl | (unfold m_X5_happens; rw [if_pos h1_, if_pos h2_, if_pos h3_, if_pos h4_]))) dX5_happens_119
        ·
          refine pk_aload_n C 2 dX5_happens_102 rfl rfl (pc2 := 103) rfl ?_
          refine pk_get (v := .long (M_rs c)) C i5_ (pw_atX 0 rfl) (ci := 5) rfl 21 (by decide) w6_ rfl rfl dX5_happens_103 (pc2 := 106) rfl ?_
          refine pk_aload_n C 2 dX5_happens_106 rfl rfl (pc2 := 107) rfl ?_
          refine pw_conv (X' := (mX (zG Z) m rf (M_mk (M_cd c) (M_pt c) (M_mn c) (M_ev c) n3_ (M_al c) (M_re c) (M_lo c) (M_rs c) (M_li c) (M_he c) (M_go c) (M_sp c) (M_ba c) (M_le c) (M_lf c) (M_mo c) (M_un c) (M_ch c) (M_lc c) (M_ac c) (M_bd c)) T)) mX_mk ?_
          refine pk_dV (cx := (mX (zG Z) m rf (M_mk (M_cd c) (M_pt c) (M_mn c) (M_ev c) n3_ (M_al c) (M_re c) (M_lo c) (M_rs c) (M_li c) (M_he c) (M_go c) (M_sp c) (M_ba c) (M_le c) (M_lf c) (M_mo c) (M_un c) (M_ch c) (M_lc c) (M_ac c) (M_bd c)) T)) (wr := []) (X2 := (mX (zG Z) m rf (M_mk (M_cd c) (M_pt c) (M_mn c) (M_ev c) n3_ (M_al c) (M_re c) (M_lo c) (M_rs c) (M_li c) (M_he c) (M_go c) (M_sp c) (M_ba c) (M_le c) (M_lf c) (M_mo c) (M_un c) (M_ch c) (M_lc c) (M_ac c) (M_bd c)) T)) (st := [.long (M_rs c)]) (st2 := [.long (m_X5_book (M_mk (M_cd c) (M_pt c) (M_mn c) (M_ev c) n3_ (M_al c) (M_re c) (M_lo c) (M_rs c) (M_li c) (M_he c) (M_go c) (M_sp c) (M_ba c) (M_le c) (M_lf c) (M_mo c) (M_un c) (M_ch c) (M_lc c) (M_ac c) (M_bd c)) T), .long (M_rs c)]) (As := []) C (c_X5_book (zl Z) (zG Z) L F m rf (M_mk (M_cd c) (M_pt c) (M_mn c) (M_ev c) n3_ (M_al c) (M_re c) (M_lo c) (M_rs c) (M_li c) (M_he c) (M_go c) (M_sp c) (M_ba c) (M_le c) (M_lf c) (M_mo c) (M_un c) (M_ch c) (M_lc c) (M_ac c) (M_bd c)) T) gX5_happens_X5_book rfl rfl rfl 0 (by decide +kernel) ⟨Nat.le_of_ble_eq_true rfl, Nat.le_of_ble_eq_true rfl⟩ (pw_atX 0 rfl) rfl rfl rfl (Nat.le_of_ble_eq_true rfl) ⟨Nat.le_of_ble_eq_true rfl, Nat.le_of_ble_eq_true rfl⟩ [0, 1, 2, 3, 4, 5, 6, 7, 8, 9, 10, 11, 12, 13, 14, 15] [] [0, 1, 2, 3, 4, 5, 6, 7, 8, 9, 10, 11, 12, 13, 14, 15] rfl rfl rfl rfl (by decide) rfl rfl dX5_happens_107 (pc2 := 110) rfl rfl ?_
          refine pw_conv (X' := ((m, kM rf (M_cd c) (M_pt c) (M_mn c) (M_ev c) n3_ (M_al c) (M_re c) (M_lo c) (M_rs c) (M_li c) (M_he c) (M_go c) (M_sp c) (M_ba c) (M_le c) (M_lf c) (M_mo c) (M_un c) (M_ch c) (M_lc c) (M_ac c) (M_bd c)) :: mT (zG Z) rf T)) mX_mk.symm ?_
          refine pk_topl (fun n4_ en4_ => ?_)
          refine pk_lcmp_gt (tgt := 118) C dX5_happens_110 dX5_happens_111 (pc1 := 111) rfl (by decide) (pc2 := 114) rfl (fun h5_ => ?_) (fun h5_ => ?_)
          ·
            refine pk_iconst (v := 0) C dX5_happens_118 (by decide) (pc2 := 119) rfl ?_
            refine pw_conv (X' := (mX (zG Z) m rf (M_mk (M_cd c) (M_pt c) (M_mn c) (M_ev c) n3_ (M_al c) (M_re c) (M_lo c) (M_rs c) (M_li c) (M_he c) (M_go c) (M_sp c) (M_ba c) (M_le c) (M_lf c) (M_mo c) (M_un c) (M_ch c) (M_lc c) (M_ac c) (M_bd c)) T)) mX_mk ?_
            subst en1_ en2_ en3_ en4_
            exact pr_int (ty := .boolean) C hE rfl rfl (po_d_rfl (by first | with_reducible rfl | (unfold m_X5_happens; rw [if_pos h1_, if_pos h2_, if_pos h3_, if_neg h4_, if_pos h5_])) (by first | with_reducible rfl | (unfold m_X5_happens; rw [if_pos h1_, if_pos h2_, if_pos h3_, if_neg h4_, if_pos h5_]))) dX5_happens_119
          ·
            refine pk_iconst (v := 1) C dX5_happens_114 (by decide) (pc2 := 115) rfl ?_
            refine pk_goto (tgt := 119) C dX5_happens_115 (by decide) ?_
            refine pw_conv (X' := (mX (zG Z) m rf (M_mk (M_cd c) (M_pt c) (M_mn c) (M_ev c) n3_ (M_al c) (M_re c) (M_lo c) (M_rs c) (M_li c) (M_he c) (M_go c) (M_sp c) (M_ba c) (M_le c) (M_lf c) (M_mo c) (M_un c) (M_ch c) (M_lc c) (M_ac c) (M_bd c)) T)) mX_mk ?_
            subst en1_ en2_ en3_ en4_
            exact pr_int (ty := .boolean) C hE rfl rfl (po_d_rfl (by first | with_reducible rfl | (unfold m_X5_happens; rw [if_pos h1_, if_pos h2_, if_pos h3_, if_neg h4_, if_neg h5_])) (by first | with_reducible rfl | (unfold m_X5_happens; rw [if_pos h1_, if_pos h2_, if_pos h3_, if_neg h4_, if_neg h5_]))) dX5_happens_119
      by_cases h6_ : n1_ = 1
      ·
        refine pk_tableIn (tgt := 120) C dX5_happens_43 (by rw [h6_]; decide) (by rw [h6_]; decide) (by rw [h6_]; first | done | rfl) (by decide) ?_
        refine pk_aload_n C 2 dX5_happens_120 rfl rfl (pc2 := 121) rfl ?_
        refine pk_lload C 0 dX5_happens_121 rfl (pc2 := 123) rfl ?_
        refine pk_putX (X' := ((m, kM rf (M_cd c) (M_pt c) (M_mn c) (M_ev c) (M_co c) (M_al c) (M_re c) (M_lo c) n2_ (M_li c) (M_he c) (M_go c) (M_sp c) (M_ba c) (M_le c) (M_lf c) (M_mo c) (M_un c) (M_ch c) (M_lc c) (M_ac c) (M_bd c)) :: mT (zG Z) rf T)) C i5_ tyX5_ok nmX5 0 rfl (ci := 5) rfl 21 (by decide) w6_ rfl rfl rfl rfl rfl (Nat.le_of_ble_eq_true rfl) rfl dX5_happens_123 (pc2 := 126) rfl ?_
        refine pk_aload_n C 2 dX5_happens_126 rfl rfl (pc2 := 127) rfl ?_
        refine pk_aload_n C 2 dX5_happens_127 rfl rfl (pc2 := 128) rfl ?_
        refine pk_get (v := .ref (rf 12)) C i5_ (pw_atX 0 rfl) (ci := 5) rfl 16 (by decide) w7_ rfl rfl dX5_happens_128 (pc2 := 131) rfl ?_
        refine pk_iload_n C 3 dX5_happens_131 rfl rfl (pc2 := 132) rfl ?_
        refine pk_iald (v := ((T_nu T) (Int32.toNatClampNeg e))) C (pw_atX 13 rfl) he rfl dX5_happens_132 (pc2 := 133) rfl ?_
        refine pk_topi (fun n5_ en5_ => ?_)
        refine pk_putX (X' := ((m, kM rf (M_cd c) (M_pt c) (M_mn c) (M_ev c) (M_co c) (M_al c) (M_re c) (M_lo c) n2_ n5_ (M_he c) (M_go c) (M_sp c) (M_ba c) (M_le c) (M_lf c) (M_mo c) (M_un c) (M_ch c) (M_lc c) (M_ac c) (M_bd c)) :: mT (zG Z) rf T)) C i5_ tyX5_ok nmX5 0 rfl (ci := 5) rfl 22 (by decide) w5_ rfl rfl rfl rfl rfl (Nat.le_of_ble_eq_true rfl) rfl dX5_happens_133 (pc2 := 136) rfl ?_
        refine pk_aload_n C 2 dX5_happens_136 rfl rfl (pc2 := 137) rfl ?_
        refine pk_get (v := .long n2_) C i5_ (pw_atX 0 rfl) (ci := 5) rfl 21 (by decide) w6_ rfl rfl dX5_happens_137 (pc2 := 140) rfl ?_
        refine pk_aload_n C 2 dX5_happens_140 rfl rfl (pc2 := 141) rfl ?_
        refine pw_conv (X' := (mX (zG Z) m rf (M_mk (M_cd c) (M_pt c) (M_mn c) (M_ev c) (M_co c) (M_al c) (M_re c) (M_lo c) n2_ n5_ (M_he c) (M_go c) (M_sp c) (M_ba c) (M_le c) (M_lf c) (M_mo c) (M_un c) (M_ch c) (M_lc c) (M_ac c) (M_bd c)) T)) mX_mk ?_
        refine pk_dV (cx := (mX (zG Z) m rf (M_mk (M_cd c) (M_pt c) (M_mn c) (M_ev c) (M_co c) (M_al c) (M_re c) (M_lo c) n2_ n5_ (M_he c) (M_go c) (M_sp c) (M_ba c) (M_le c) (M_lf c) (M_mo c) (M_un c) (M_ch c) (M_lc c) (M_ac c) (M_bd c)) T)) (wr := []) (X2 := (mX (zG Z) m rf (M_mk (M_cd c) (M_pt c) (M_mn c) (M_ev c) (M_co c) (M_al c) (M_re c) (M_lo c) n2_ n5_ (M_he c) (M_go c) (M_sp c) (M_ba c) (M_le c) (M_lf c) (M_mo c) (M_un c) (M_ch c) (M_lc c) (M_ac c) (M_bd c)) T)) (st := [.long n2_]) (st2 := [.long (m_X5_book (M_mk (M_cd c) (M_pt c) (M_mn c) (M_ev c) (M_co c) (M_al c) (M_re c) (M_lo c) n2_ n5_ (M_he c) (M_go c) (M_sp c) (M_ba c) (M_le c) (M_lf c) (M_mo c) (M_un c) (M_ch c) (M_lc c) (M_ac c) (M_bd c)) T), .long n2_]) (As := []) C (c_X5_book (zl Z) (zG Z) L F m rf (M_mk (M_cd c) (M_pt c) (M_mn c) (M_ev c) (M_co c) (M_al c) (M_re c) (M_lo c) n2_ n5_ (M_he c) (M_go c) (M_sp c) (M_ba c) (M_le c) (M_lf c) (M_mo c) (M_un c) (M_ch c) (M_lc c) (M_ac c) (M_bd c)) T) gX5_happens_X5_book rfl rfl rfl 0 (by decide +kernel) ⟨Nat.le_of_ble_eq_true rfl, Nat.le_of_ble_eq_true rfl⟩ (pw_atX 0 rfl) rfl rfl rfl (Nat.le_of_ble_eq_true rfl) ⟨Nat.le_of_ble_eq_true rfl, Nat.le_of_ble_eq_true rfl⟩ [0, 1, 2, 3, 4, 5, 6, 7, 8, 9, 10, 11, 12, 13, 14, 15] [] [0, 1, 2, 3, 4, 5, 6, 7, 8, 9, 10, 11, 12, 13, 14, 15] rfl rfl rfl rfl (by decide) rfl rfl dX5_happens_141 (pc2 := 144) rfl rfl ?_
        refine pw_conv (X' := ((m, kM rf (M_cd c) (M_pt c) (M_mn c) (M_ev c) (M_co c) (M_al c) (M_re c) (M_lo c) n2_ n5_ (M_he c) (M_go c) (M_sp c) (M_ba c) (M_le c) (M_lf c) (M_mo c) (M_un c) (M_ch c) (M_lc c) (M_ac c) (M_bd c)) :: mT (zG Z) rf T)) mX_mk.symm ?_
        refine pk_topl (fun n6_ en6_ => ?_)
        refine pk_lcmp_gt (tgt := 152) C dX5_happens_144 dX5_happens_145 (pc1 := 145) rfl (by decide) (pc2 := 148) rfl (fun h7_ => ?_) (fun h7_ => ?_)
        ·
          refine pk_iconst (v := 0) C dX5_happens_152 (by decide) (pc2 := 153) rfl ?_
          refine pw_conv (X' := (mX (zG Z) m rf (M_mk (M_cd c) (M_pt c) (M_mn c) (M_ev c) (M_co c) (M_al c) (M_re c) (M_lo c) n2_ n5_ (M_he c) (M_go c) (M_sp c) (M_ba c) (M_le c) (M_lf c) (M_mo c) (M_un c) (M_ch c) (M_lc c) (M_ac c) (M_bd c)) T)) mX_mk ?_
          subst en1_ en2_ en5_ en6_
          exact pr_int (ty := .boolean) C hE rfl rfl (po_d_rfl (by first | with_reducible rfl | (unfold m_X5_happens; rw [if_pos h1_, if_pos h2_, if_neg h3_, if_pos h6_, if_pos h7_])) (by first | with_reducible rfl | (unfold m_X5_happens; rw [if_pos h1_, if_pos h2_, if_neg h3_, if_pos h6_, if_pos h7_]))) dX5_happens_153
        ·
          refine pk_iconst (v := 1) C dX5_happens_148 (by decide) (pc2 := 149) rfl ?_
          refine pk_goto (tgt := 153) C dX5_happens_149 (by decide) ?_
          refine pw_conv (X' := (mX (zG Z) m rf (M_mk (M_cd c) (M_pt c) (M_mn c) (M_ev c) (M_co c) (M_al c) (M_re c) (M_lo c) n2_ n5_ (M_he c) (M_go c) (M_sp c) (M_ba c) (M_le c) (M_lf c) (M_mo c) (M_un c) (M_ch c) (M_lc c) (M_ac c) (M_bd c)) T)) mX_mk ?_
          subst en1_ en2_ en5_ en6_
          exact pr_int (ty := .boolean) C hE rfl rfl (po_d_rfl (by first | with_reducible rfl | (unfold m_X5_happens; rw [if_pos h1_, if_pos h2_, if_neg h3_, if_pos h6_, if_neg h7_])) (by first | with_reducible rfl | (unfold m_X5_happens; rw [if_pos h1_, if_pos h2_, if_neg h3_, if_pos h6_, if_neg h7_]))) dX5_happens_153
      by_cases h8_ : n1_ = 2
      ·
        refine pk_tableIn (tgt := 154) C dX5_happens_43 (by rw [h8_]; decide) (by rw [h8_]; decide) (by rw [h8_]; first | done | rfl) (by decide) ?_
        refine pk_aload_n C 2 dX5_happens_154 rfl rfl (pc2 := 155) rfl ?_
        refine pk_lload C 0 dX5_happens_155 rfl (pc2 := 157) rfl ?_
        refine pk_dV (cx := (mX (zG Z) m rf c T)) (wr := []) (X2 := (mX (zG Z) m rf (m_X5_values c T n2_) T)) (st := []) (st2 := []) (As := [.long n2_]) C (c_X5_values (zl Z) (zG Z) L F m rf c T n2_) gX5_happens_X5_values rfl rfl rfl 1 (by decide +kernel) ⟨Nat.le_of_ble_eq_true rfl, Nat.le_of_ble_eq_true rfl⟩ (pw_atX 0 rfl) rfl rfl rfl (Nat.le_of_ble_eq_true rfl) ⟨Nat.le_of_ble_eq_true rfl, Nat.le_of_ble_eq_true rfl⟩ [0, 1, 2, 3, 4, 5, 6, 7, 8, 9, 10, 11, 12, 13, 14, 15] [] [0, 1, 2, 3, 4, 5, 6, 7, 8, 9, 10, 11, 12, 13, 14, 15] rfl rfl rfl rfl (by decide) rfl rfl dX5_happens_157 (pc2 := 160) rfl rfl ?_
        generalize en7_ : (m_X5_values c T n2_) = n7_
        refine pk_iconst (v := 1) C dX5_happens_160 (by decide) (pc2 := 161) rfl ?_
        subst en1_ en2_ en7_
        exact pr_int (ty := .boolean) C hE rfl rfl (po_d_rfl (by first | with_reducible rfl | (unfold m_X5_happens; rw [if_pos h1_, if_pos h2_, if_neg h3_, if_neg h6_, if_pos h8_])) (by first | with_reducible rfl | (unfold m_X5_happens; rw [if_pos h1_, if_pos h2_, if_neg h3_, if_neg h6_, if_pos h8_]))) dX5_happens_161
      by_cases h9_ : n1_ = 3
      ·
        refine pk_tableIn (tgt := 162) C dX5_happens_43 (by rw [h9_]; decide) (by rw [h9_]; decide) (by rw [h9_]; first | done | rfl) (by decide) ?_
        refine pk_aload_n C 2 dX5_happens_162 rfl rfl (pc2 := 163) rfl ?_
        refine pk_lload C 0 dX5_happens_163 rfl (pc2 := 165) rfl ?_
        refine pk_dV (cx := (mX (zG Z) m rf c T)) (wr := []) (X2 := (mX (zG Z) m rf ((m_X5_impairs c T n2_).2) T)) (st := []) (st2 := [.int ((m_X5_impairs c T n2_).1)]) (As := [.long n2_]) C (c_X5_impairs (zl Z) (zG Z) L F m rf c T n2_) gX5_happens_X5_impairs rfl rfl rfl 1 (by decide +kernel) ⟨Nat.le_of_ble_eq_true rfl, Nat.le_of_ble_eq_true rfl⟩ (pw_atX 0 rfl) rfl rfl rfl (Nat.le_of_ble_eq_true rfl) ⟨Nat.le_of_ble_eq_true rfl, Nat.le_of_ble_eq_true rfl⟩ [0, 1, 2, 3, 4, 5, 6, 7, 8, 9, 10, 11, 12, 13, 14, 15] [] [0, 1, 2, 3, 4, 5, 6, 7, 8, 9, 10, 11, 12, 13, 14, 15] rfl rfl rfl rfl (by decide) rfl rfl dX5_happens_165 (pc2 := 168) rfl rfl ?_
        generalize en8_ : ((m_X5_impairs c T n2_).2) = n8_
        refine pk_topi (fun n9_ en9_ => ?_)
        subst en1_ en2_ en8_ en9_
        exact pr_int (ty := .boolean) C hE rfl (zb_n (zb_m_X5_impairs _ _ _)) (po_d_rfl (by first | with_reducible rfl | (unfold m_X5_happens; rw [if_pos h1_, if_pos h2_, if_neg h3_, if_neg h6_, if_neg h8_, if_pos h9_])) (by first | with_reducible rfl | (unfold m_X5_happens; rw [if_pos h1_, if_pos h2_, if_neg h3_, if_neg h6_, if_neg h8_, if_pos h9_]))) dX5_happens_168
      by_cases h10_ : n1_ = 4
      ·
        refine pk_tableIn (tgt := 169) C dX5_happens_43 (by rw [h10_]; decide) (by rw [h10_]; decide) (by rw [h10_]; first | done | rfl) (by decide) ?_
        refine pk_aload_n C 2 dX5_happens_169 rfl rfl (pc2 := 170) rfl ?_
        refine pk_lload C 0 dX5_happens_170 rfl (pc2 := 172) rfl ?_
        refine pk_iload_n C 4 dX5_happens_172 rfl rfl (pc2 := 173) rfl ?_
        refine pk_dV (cx := (mX (zG Z) m rf c T)) (wr := []) (X2 := (mX (zG Z) m rf ((m_X5_restores c T n2_ mm).2) T)) (st := []) (st2 := [.int ((m_X5_restores c T n2_ mm).1)]) (As := [.long n2_, .int mm]) C (c_X5_restores (zl Z) (zG Z) L F m rf c T n2_ mm hm) gX5_happens_X5_restores rfl rfl rfl 2 (by decide +kernel) ⟨Nat.le_of_ble_eq_true rfl, Nat.le_of_ble_eq_true rfl⟩ (pw_atX 0 rfl) rfl rfl rfl (Nat.le_of_ble_eq_true rfl) ⟨Nat.le_of_ble_eq_true rfl, Nat.le_of_ble_eq_true rfl⟩ [0, 1, 2, 3, 4, 5, 6, 7, 8, 9, 10, 11, 12, 13, 14, 15] [] [0, 1, 2, 3, 4, 5, 6, 7, 8, 9, 10, 11, 12, 13, 14, 15] rfl rfl rfl rfl (by decide) rfl rfl dX5_happens_173 (pc2 := 176) rfl rfl ?_
        generalize en10_ : ((m_X5_restores c T n2_ mm).2) = n10_
        refine pk_topi (fun n11_ en11_ => ?_)
        subst en1_ en2_ en10_ en11_
        exact pr_int (ty := .boolean) C hE rfl (zb_n (zb_m_X5_restores _ _ _ _)) (po_d_rfl (by first | with_reducible rfl | (unfold m_X5_happens; rw [if_pos h1_, if_pos h2_, if_neg h3_, if_neg h6_, if_neg h8_, if_neg h9_, if_pos h10_])) (by first | with_reducible rfl | (unfold m_X5_happens; rw [if_pos h1_, if_pos h2_, if_neg h3_, if_neg h6_, if_neg h8_, if_neg h9_, if_pos h10_]))) dX5_happens_176
      by_cases h11_ : n1_ = 5
      ·
        refine pk_tableIn (tgt := 177) C dX5_happens_43 (by rw [h11_]; decide) (by rw [h11_]; decide) (by rw [h11_]; first | done | rfl) (by decide) ?_
        refine pk_aload_n C 2 dX5_happens_177 rfl rfl (pc2 := 178) rfl ?_
        refine pk_aload_n C 2 dX5_happens_178 rfl rfl (pc2 := 179) rfl ?_
        refine pk_get (v := .ref (rf 12)) C i5_ (pw_atX 0 rfl) (ci := 5) rfl 16 (by decide) w7_ rfl rfl dX5_happens_179 (pc2 := 182) rfl ?_
        refine pk_iload_n C 3 dX5_happens_182 rfl rfl (pc2 := 183) rfl ?_
        refine pk_iald (v := ((T_nu T) (Int32.toNatClampNeg e))) C (pw_atX 13 rfl) he rfl dX5_happens_183 (pc2 := 184) rfl ?_
        refine pk_dV (cx := (mX (zG Z) m rf c T)) (wr := []) (X2 := (mX (zG Z) m rf (m_X5_sells c T ((T_nu T) (Int32.toNatClampNeg e))) T)) (st := []) (st2 := []) (As := [.int ((T_nu T) (Int32.toNatClampNeg e))]) C (c_X5_sells (zl Z) (zG Z) L F m rf c T ((T_nu T) (Int32.toNatClampNeg e))) gX5_happens_X5_sells rfl rfl rfl 1 (by decide +kernel) ⟨Nat.le_of_ble_eq_true rfl, Nat.le_of_ble_eq_true rfl⟩ (pw_atX 0 rfl) rfl rfl rfl (Nat.le_of_ble_eq_true rfl) ⟨Nat.le_of_ble_eq_true rfl, Nat.le_of_ble_eq_true rfl⟩ [0, 1, 2, 3, 4, 5, 6, 7, 8, 9, 10, 11, 12, 13, 14, 15] [] [0, 1, 2, 3, 4, 5, 6, 7, 8, 9, 10, 11, 12, 13, 14, 15] rfl rfl rfl rfl (by decide) rfl rfl dX5_happens_184 (pc2 := 187) rfl rfl ?_
        generalize en12_ : (m_X5_sells c T ((T_nu T) (Int32.toNatClampNeg e))) = n12_
        refine pk_iconst (v := 1) C dX5_happens_187 (by decide) (pc2 := 188) rfl ?_
        subst en1_ en2_ en12_
        exact pr_int (ty := .boolean) C hE rfl rfl (po_d_rfl (by first | with_reducible rfl | (unfold m_X5_happens; rw [if_pos h1_, if_pos h2_, if_neg h3_, if_neg h6_, if_neg h8_, if_neg h9_, if_neg h10_, if_pos h11_])) (by first | with_reducible rfl | (unfold m_X5_happens; rw [if_pos h1_, if_pos h2_, if_neg h3_, if_neg h6_, if_neg h8_, if_neg h9_, if_neg h10_, if_pos h11_]))) dX5_happens_188
      by_cases h12_ : n1_ = 6
      ·
        refine pk_tableIn (tgt := 189) C dX5_happens_43 (by rw [h12_]; decide) (by rw [h12_]; decide) (by rw [h12_]; first | done | rfl) (by decide) ?_
        refine pk_aload_n C 2 dX5_happens_189 rfl rfl (pc2 := 190) rfl ?_
        refine pk_iconst (v := 1) C dX5_happens_190 (by decide) (pc2 := 191) rfl ?_
        refine pk_putX (X' := ((m, kM rf (M_cd c) (M_pt c) (M_mn c) (M_ev c) (M_co c) (M_al c) (M_re c) (M_lo c) (M_rs c) (M_li c) 1 (M_go c) (M_sp c) (M_ba c) (M_le c) (M_lf c) (M_mo c) (M_un c) (M_ch c) (M_lc c) (M_ac c) (M_bd c)) :: mT (zG Z) rf T)) C i5_ tyX5_ok nmX5 0 rfl (ci := 5) rfl 23 (by decide) w3_ rfl rfl rfl rfl rfl (Nat.le_of_ble_eq_true rfl) rfl dX5_happens_191 (pc2 := 194) rfl ?_
        refine pk_iconst (v := 1) C dX5_happens_194 (by decide) (pc2 := 195) rfl ?_
        refine pw_conv (X' := (mX (zG Z) m rf (M_mk (M_cd c) (M_pt c) (M_mn c) (M_ev c) (M_co c) (M_al c) (M_re c) (M_lo c) (M_rs c) (M_li c) 1 (M_go c) (M_sp c) (M_ba c) (M_le c) (M_lf c) (M_mo c) (M_un c) (M_ch c) (M_lc c) (M_ac c) (M_bd c)) T)) mX_mk ?_
        subst en1_ en2_
        exact pr_int (ty := .boolean) C hE rfl rfl (po_d_rfl (by first | with_reducible rfl | (unfold m_X5_happens; rw [if_pos h1_, if_pos h2_, if_neg h3_, if_neg h6_, if_neg h8_, if_neg h9_, if_neg h10_, if_neg h11_, if_pos h12_])) (by first | with_reducible rfl | (unfold m_X5_happens; rw [if_pos h1_, if_pos h2_, if_neg h3_, if_neg h6_, if_neg h8_, if_neg h9_, if_neg h10_, if_neg h11_, if_pos h12_]))) dX5_happens_195
      refine pk_tableOut (tgt := 196) C dX5_happens_43 (sw_6 h3_ h6_ h8_ h9_ h10_ h11_ h12_) (by decide) ?_
      refine pk_aload_n C 2 dX5_happens_196 rfl rfl (pc2 := 197) rfl ?_
      refine pk_get (v := .int (M_he c)) C i5_ (pw_atX 0 rfl) (ci := 5) rfl 23 (by decide) w3_ rfl rfl dX5_happens_197 (pc2 := 200) rfl ?_
      refine pk_istore (lv' := [(6, .int (M_he c)), (4, .long n2_), (3, .int n1_), (0, .ref m), (1, .int e), (2, .int mm)]) C dX5_happens_200 (by decide) rfl (pc2 := 202) rfl ?_
      refine pk_aload_n C 3 dX5_happens_202 rfl rfl (pc2 := 203) rfl ?_
      refine pk_iconst (v := 0) C dX5_happens_203 (by decide) (pc2 := 204) rfl ?_
      refine pk_putX (X' := ((m, kM rf (M_cd c) (M_pt c) (M_mn c) (M_ev c) (M_co c) (M_al c) (M_re c) (M_lo c) (M_rs c) (M_li c) 0 (M_go c) (M_sp c) (M_ba c) (M_le c) (M_lf c) (M_mo c) (M_un c) (M_ch c) (M_lc c) (M_ac c) (M_bd c)) :: mT (zG Z) rf T)) C i5_ tyX5_ok nmX5 0 rfl (ci := 5) rfl 23 (by decide) w3_ rfl rfl rfl rfl rfl (Nat.le_of_ble_eq_true rfl) rfl dX5_happens_204 (pc2 := 207) rfl ?_
      refine pk_iload C 0 dX5_happens_207 rfl (pc2 := 209) rfl ?_
      refine pw_conv (X' := (mX (zG Z) m rf (M_mk (M_cd c) (M_pt c) (M_mn c) (M_ev c) (M_co c) (M_al c) (M_re c) (M_lo c) (M_rs c) (M_li c) 0 (M_go c) (M_sp c) (M_ba c) (M_le c) (M_lf c) (M_mo c) (M_un c) (M_ch c) (M_lc c) (M_ac c) (M_bd c)) T)) mX_mk ?_
      subst en1_ en2_
      exact pr_int (ty := .boolean) C hE rfl (zb_n (by assumption)) (po_d_rfl (by first | with_reducible rfl | (unfold m_X5_happens; rw [if_pos h1_, if_pos h2_, if_neg h3_, if_neg h6_, if_neg h8_, if_neg h9_, if_neg h10_, if_neg h11_, if_neg h12_])) (by first | with_reducible rfl | (unfold m_X5_happens; rw [if_pos h1_, if_pos h2_, if_neg h3_, if_neg h6_, if_neg h8_, if_neg h9_, if_neg h10_, if_neg h11_, if_neg h12_]))) dX5_happens_209
    ·
      refine pk_iload_n C 1 dX5_happens_29 rfl rfl (pc2 := 30) rfl ?_
      refine pk_iconst (v := 5) C dX5_happens_30 (by decide) (pc2 := 31) rfl ?_
      refine pk_icmp_eq (tgt := 42) C dX5_happens_31 (by decide) (pc2 := 34) rfl (fun h13_ => ?_) (fun h13_ => ?_)
      ·
        refine pk_iload_n C 1 dX5_happens_42 rfl rfl (pc2 := 43) rfl ?_
        refine pk_tableIn (tgt := 177) C dX5_happens_43 (by rw [h13_]; decide) (by rw [h13_]; decide) (by rw [h13_]; first | done | rfl) (by decide) ?_
        refine pk_aload_n C 2 dX5_happens_177 rfl rfl (pc2 := 178) rfl ?_
        refine pk_aload_n C 2 dX5_happens_178 rfl rfl (pc2 := 179) rfl ?_
        refine pk_get (v := .ref (rf 12)) C i5_ (pw_atX 0 rfl) (ci := 5) rfl 16 (by decide) w7_ rfl rfl dX5_happens_179 (pc2 := 182) rfl ?_
        refine pk_iload_n C 3 dX5_happens_182 rfl rfl (pc2 := 183) rfl ?_
        refine pk_iald (v := ((T_nu T) (Int32.toNatClampNeg e))) C (pw_atX 13 rfl) he rfl dX5_happens_183 (pc2 := 184) rfl ?_
        refine pk_dV (cx := (mX (zG Z) m rf c T)) (wr := []) (X2 := (mX (zG Z) m rf (m_X5_sells c T ((T_nu T) (Int32.toNatClampNeg e))) T)) (st := []) (st2 := []) (As := [.int ((T_nu T) (Int32.toNatClampNeg e))]) C (c_X5_sells (zl Z) (zG Z) L F m rf c T ((T_nu T) (Int32.toNatClampNeg e))) gX5_happens_X5_sells rfl rfl rfl 1 (by decide +kernel) ⟨Nat.le_of_ble_eq_true rfl, Nat.le_of_ble_eq_true rfl⟩ (pw_atX 0 rfl) rfl rfl rfl (Nat.le_of_ble_eq_true rfl) ⟨Nat.le_of_ble_eq_true rfl, Nat.le_of_ble_eq_true rfl⟩ [0, 1, 2, 3, 4, 5, 6, 7, 8, 9, 10, 11, 12, 13, 14, 15] [] [0, 1, 2, 3, 4, 5, 6, 7, 8, 9, 10, 11, 12, 13, 14, 15] rfl rfl rfl rfl (by decide) rfl rfl dX5_happens_184 (pc2 := 187) rfl rfl ?_
        generalize en13_ : (m_X5_sells c T ((T_nu T) (Int32.toNatClampNeg e))) = n13_
        refine pk_iconst (v := 1) C dX5_happens_187 (by decide) (pc2 := 188) rfl ?_
        subst en1_ en2_ en13_
        exact pr_int (ty := .boolean) C hE rfl rfl (po_d_rfl (by first | with_reducible rfl | (unfold m_X5_happens; rw [if_pos h1_, if_neg h2_, if_pos h13_])) (by first | with_reducible rfl | (unfold m_X5_happens; rw [if_pos h1_, if_neg h2_, if_pos h13_]))) dX5_happens_188
      ·
        refine pk_iload_n C 1 dX5_happens_34 rfl rfl (pc2 := 35) rfl ?_
        refine pk_bipush (v := 7) C dX5_happens_35 (by decide) (pc2 := 37) rfl ?_
        refine pk_icmp_eq (tgt := 42) C dX5_happens_37 (by decide) (pc2 := 40) rfl (fun h14_ => ?_) (fun h14_ => ?_)
        ·
          refine pk_iload_n C 1 dX5_happens_42 rfl rfl (pc2 := 43) rfl ?_
          by_cases h15_ : n1_ = 0
          ·
            refine pk_tableIn (tgt := 84) C dX5_happens_43 (by rw [h15_]; decide) (by rw [h15_]; decide) (by rw [h15_]; first | done | rfl) (by decide) ?_
            refine pk_aload_n C 2 dX5_happens_84 rfl rfl (pc2 := 85) rfl ?_
            refine pk_aload_n C 2 dX5_happens_85 rfl rfl (pc2 := 86) rfl ?_
            refine pk_get (v := .long (M_co c)) C i5_ (pw_atX 0 rfl) (ci := 5) rfl 17 (by decide) w4_ rfl rfl dX5_happens_86 (pc2 := 89) rfl ?_
            refine pk_lload C 0 dX5_happens_89 rfl (pc2 := 91) rfl ?_
            refine pk_ladd C dX5_happens_91 (pc2 := 92) rfl ?_
            refine pk_topl (fun n14_ en14_ => ?_)
            refine pk_putX (X' := ((m, kM rf (M_cd c) (M_pt c) (M_mn c) (M_ev c) n14_ (M_al c) (M_re c) (M_lo c) (M_rs c) (M_li c) (M_he c) (M_go c) (M_sp c) (M_ba c) (M_le c) (M_lf c) (M_mo c) (M_un c) (M_ch c) (M_lc c) (M_ac c) (M_bd c)) :: mT (zG Z) rf T)) C i5_ tyX5_ok nmX5 0 rfl (ci := 5) rfl 17 (by decide) w4_ rfl rfl rfl rfl rfl (Nat.le_of_ble_eq_true rfl) rfl dX5_happens_92 (pc2 := 95) rfl ?_
            refine pk_aload_n C 2 dX5_happens_95 rfl rfl (pc2 := 96) rfl ?_
            refine pk_get (v := .int (M_li c)) C i5_ (pw_atX 0 rfl) (ci := 5) rfl 22 (by decide) w5_ rfl rfl dX5_happens_96 (pc2 := 99) rfl ?_
            refine pk_if_le (tgt := 118) C dX5_happens_99 (by decide) (pc2 := 102) rfl (fun h16_ => ?_) (fun h16_ => ?_)
            ·
              refine pk_iconst (v := 0) C dX5_happens_118 (by decide) (pc2 := 119) rfl ?_
              refine pw_conv (X' := (mX (zG Z) m rf (M_mk (M_cd c) (M_pt c) (M_mn c) (M_ev c) n14_ (M_al c) (M_re c) (M_lo c) (M_rs c) (M_li c) (M_he c) (M_go c) (M_sp c) (M_ba c) (M_le c) (M_lf c) (M_mo c) (M_un c) (M_ch c) (M_lc c) (M_ac c) (M_bd c)) T)) mX_mk ?_
              subst en1_ en2_ en14_
              exact pr_int (ty := .boolean) C hE rfl rfl (po_d_rfl (by first | with_reducible rfl | (unfold m_X5_happens; rw [if_pos h1_, if_neg h2_, if_neg h13_, if_pos h14_, if_pos h15_, if_pos h16_])) (by first | with_reducible rfl | (unfold m_X5_happens; rw [if_pos h1_, if_neg h2_, if_neg h13_, if_pos h14_, if_pos h15_, if_pos h16_]))) dX5_happens_119
            ·
              refine pk_aload_n C 2 dX5_happens_102 rfl rfl (pc2 := 103) rfl ?_
              refine pk_get (v := .long (M_rs c)) C i5_ (pw_atX 0 rfl) (ci := 5) rfl 21 (by decide) w6_ rfl rfl dX5_happens_103 (pc2 := 106) rfl ?_
              refine pk_aload_n C 2 dX5_happens_106 rfl rfl (pc2 := 107) rfl ?_
              refine pw_conv (X' := (mX (zG Z) m rf (M_mk (M_cd c) (M_pt c) (M_mn c) (M_ev c) n14_ (M_al c) (M_re c) (M_lo c) (M_rs c) (M_li c) (M_he c) (M_go c) (M_sp c) (M_ba c) (M_le c) (M_lf c) (M_mo c) (M_un c) (M_ch c) (M_lc c) (M_ac c) (M_bd c)) T)) mX_mk ?_
              refine pk_dV (cx := (mX (zG Z) m rf (M_mk (M_cd c) (M_pt c) (M_mn c) (M_ev c) n14_ (M_al c) (M_re c) (M_lo c) (M_rs c) (M_li c) (M_he c) (M_go c) (M_sp c) (M_ba c) (M_le c) (M_lf c) (M_mo c) (M_un c) (M_ch c) (M_lc c) (M_ac c) (M_bd c)) T)) (wr := []) (X2 := (mX (zG Z) m rf (M_mk (M_cd c) (M_pt c) (M_mn c) (M_ev c) n14_ (M_al c) (M_re c) (M_lo c) (M_rs c) (M_li c) (M_he c) (M_go c) (M_sp c) (M_ba c) (M_le c) (M_lf c) (M_mo c) (M_un c) (M_ch c) (M_lc c) (M_ac c) (M_bd c)) T)) (st := [.long (M_rs c)]) (st2 := [.long (m_X5_book (M_mk (M_cd c) (M_pt c) (M_mn c) (M_ev c) n14_ (M_al c) (M_re c) (M_lo c) (M_rs c) (M_li c) (M_he c) (M_go c) (M_sp c) (M_ba c) (M_le c) (M_lf c) (M_mo c) (M_un c) (M_ch c) (M_lc c) (M_ac c) (M_bd c)) T), .long (M_rs c)]) (As := []) C (c_X5_book (zl Z) (zG Z) L F m rf (M_mk (M_cd c) (M_pt c) (M_mn c) (M_ev c) n14_ (M_al c) (M_re c) (M_lo c) (M_rs c) (M_li c) (M_he c) (M_go c) (M_sp c) (M_ba c) (M_le c) (M_lf c) (M_mo c) (M_un c) (M_ch c) (M_lc c) (M_ac c) (M_bd c)) T) gX5_happens_X5_book rfl rfl rfl 0 (by decide +kernel) ⟨Nat.le_of_ble_eq_true rfl, Nat.le_of_ble_eq_true rfl⟩ (pw_atX 0 rfl) rfl rfl rfl (Nat.le_of_ble_eq_true rfl) ⟨Nat.le_of_ble_eq_true rfl, Nat.le_of_ble_eq_true rfl⟩ [0, 1, 2, 3, 4, 5, 6, 7, 8, 9, 10, 11, 12, 13, 14, 15] [] [0, 1, 2, 3, 4, 5, 6, 7, 8, 9, 10, 11, 12, 13, 14, 15] rfl rfl rfl rfl (by decide) rfl rfl dX5_happens_107 (pc2 := 110) rfl rfl ?_
              refine pw_conv (X' := ((m, kM rf (M_cd c) (M_pt c) (M_mn c) (M_ev c) n14_ (M_al c) (M_re c) (M_lo c) (M_rs c) (M_li c) (M_he c) (M_go c) (M_sp c) (M_ba c) (M_le c) (M_lf c) (M_mo c) (M_un c) (M_ch c) (M_lc c) (M_ac c) (M_bd c)) :: mT (zG Z) rf T)) mX_mk.symm ?_
              refine pk_topl (fun n15_ en15_ => ?_)
              refine pk_lcmp_gt (tgt := 118) C dX5_happens_110 dX5_happens_111 (pc1 := 111) rfl (by decide) (pc2 := 114) rfl (fun h17_ => ?_) (fun h17_ => ?_)
              ·
                refine pk_iconst (v := 0) C dX5_happens_118 (by decide) (pc2 := 119) rfl ?_
                refine pw_conv (X' := (mX (zG Z) m rf (M_mk (M_cd c) (M_pt c) (M_mn c) (M_ev c) n14_ (M_al c) (M_re c) (M_lo c) (M_rs c) (M_li c) (M_he c) (M_go c) (M_sp c) (M_ba c) (M_le c) (M_lf c) (M_mo c) (M_un c) (M_ch c) (M_lc c) (M_ac c) (M_bd c)) T)) mX_mk ?_
                subst en1_ en2_ en14_ en15_
                exact pr_int (ty := .boolean) C hE rfl rfl (po_d_rfl (by first | with_reducible rfl | (unfold m_X5_happens; rw [if_pos h1_, if_neg h2_, if_neg h13_, if_pos h14_, if_pos h15_, if_neg h16_, if_pos h17_])) (by first | with_reducible rfl | (unfold m_X5_happens; rw [if_pos h1_, if_neg h2_, if_neg h13_, if_pos h14_, if_pos h15_, if_neg h16_, if_pos h17_]))) dX5_happens_119
              ·
                refine pk_iconst (v := 1) C dX5_happens_114 (by decide) (pc2 := 115) rfl ?_
                refine pk_goto (tgt := 119) C dX5_happens_115 (by decide) ?_
                refine pw_conv (X' := (mX (zG Z) m rf (M_mk (M_cd c) (M_pt c) (M_mn c) (M_ev c) n14_ (M_al c) (M_re c) (M_lo c) (M_rs c) (M_li c) (M_he c) (M_go c) (M_sp c) (M_ba c) (M_le c) (M_lf c) (M_mo c) (M_un c) (M_ch c) (M_lc c) (M_ac c) (M_bd c)) T)) mX_mk ?_
                subst en1_ en2_ en14_ en15_
                exact pr_int (ty := .boolean) C hE rfl rfl (po_d_rfl (by first | with_reducible rfl | (unfold m_X5_happens; rw [if_pos h1_, if_neg h2_, if_neg h13_, if_pos h14_, if_pos h15_, if_neg h16_, if_neg h17_])) (by first | with_reducible rfl | (unfold m_X5_happens; rw [if_pos h1_, if_neg h2_, if_neg h13_, if_pos h14_, if_pos h15_, if_neg h16_, if_neg h17_]))) dX5_happens_119
          by_cases h18_ : n1_ = 1
          ·
            refine pk_tableIn (tgt := 120) C dX5_happens_43 (by rw [h18_]; decide) (by rw [h18_]; decide) (by rw [h18_]; first | done | rfl) (by decide) ?_
            refine pk_aload_n C 2 dX5_happens_120 rfl rfl (pc2 := 121) rfl ?_
            refine pk_lload C 0 dX5_happens_121 rfl (pc2 := 123) rfl ?_
            refine pk_putX (X' := ((m, kM rf (M_cd c) (M_pt c) (M_mn c) (M_ev c) (M_co c) (M_al c) (M_re c) (M_lo c) n2_ (M_li c) (M_he c) (M_go c) (M_sp c) (M_ba c) (M_le c) (M_lf c) (M_mo c) (M_un c) (M_ch c) (M_lc c) (M_ac c) (M_bd c)) :: mT (zG Z) rf T)) C i5_ tyX5_ok nmX5 0 rfl (ci := 5) rfl 21 (by decide) w6_ rfl rfl rfl rfl rfl (Nat.le_of_ble_eq_true rfl) rfl dX5_happens_123 (pc2 := 126) rfl ?_
            refine pk_aload_n C 2 dX5_happens_126 rfl rfl (pc2 := 127) rfl ?_
            refine pk_aload_n C 2 dX5_happens_127 rfl rfl (pc2 := 128) rfl ?_
            refine pk_get (v := .ref (rf 12)) C i5_ (pw_atX 0 rfl) (ci := 5) rfl 16 (by decide) w7_ rfl rfl dX5_happens_128 (pc2 := 131) rfl ?_
            refine pk_iload_n C 3 dX5_happens_131 rfl rfl (pc2 := 132) rfl ?_
            refine pk_iald (v := ((T_nu T) (Int32.toNatClampNeg e))) C (pw_atX 13 rfl) he rfl dX5_happens_132 (pc2 := 133) rfl ?_
            refine pk_topi (fun n16_ en16_ => ?_)
            refine pk_putX (X' := ((m, kM rf (M_cd c) (M_pt c) (M_mn c) (M_ev c) (M_co c) (M_al c) (M_re c) (M_lo c) n2_ n16_ (M_he c) (M_go c) (M_sp c) (M_ba c) (M_le c) (M_lf c) (M_mo c) (M_un c) (M_ch c) (M_lc c) (M_ac c) (M_bd c)) :: mT (zG Z) rf T)) C i5_ tyX5_ok nmX5 0 rfl (ci := 5) rfl 22 (by decide) w5_ rfl rfl rfl rfl rfl (Nat.le_of_ble_eq_true rfl) rfl dX5_happens_133 (pc2 := 136) rfl ?_
            refine pk_aload_n C 2 dX5_happens_136 rfl rfl (pc2 := 137) rfl ?_
            refine pk_get (v := .long n2_) C i5_ (pw_atX 0 rfl) (ci := 5) rfl 21 (by decide) w6_ rfl rfl dX5_happens_137 (pc2 := 140) rfl ?_
            refine pk_aload_n C 2 dX5_happens_140 rfl rfl (pc2 := 141) rfl ?_
            refine pw_conv (X' := (mX (zG Z) m rf (M_mk (M_cd c) (M_pt c) (M_mn c) (M_ev c) (M_co c) (M_al c) (M_re c) (M_lo c) n2_ n16_ (M_he c) (M_go c) (M_sp c) (M_ba c) (M_le c) (M_lf c) (M_mo c) (M_un c) (M_ch c) (M_lc c) (M_ac c) (M_bd c)) T)) mX_mk ?_
            refine pk_dV (cx := (mX (zG Z) m rf (M_mk (M_cd c) (M_pt c) (M_mn c) (M_ev c) (M_co c) (M_al c) (M_re c) (M_lo c) n2_ n16_ (M_he c) (M_go c) (M_sp c) (M_ba c) (M_le c) (M_lf c) (M_mo c) (M_un c) (M_ch c) (M_lc c) (M_ac c) (M_bd c)) T)) (wr := []) (X2 := (mX (zG Z) m rf (M_mk (M_cd c) (M_pt c) (M_mn c) (M_ev c) (M_co c) (M_al c) (M_re c) (M_lo c) n2_ n16_ (M_he c) (M_go c) (M_sp c) (M_ba c) (M_le c) (M_lf c) (M_mo c) (M_un c) (M_ch c) (M_lc c) (M_ac c) (M_bd c)) T)) (st := [.long n2_]) (st2 := [.long (m_X5_book (M_mk (M_cd c) (M_pt c) (M_mn c) (M_ev c) (M_co c) (M_al c) (M_re c) (M_lo c) n2_ n16_ (M_he c) (M_go c) (M_sp c) (M_ba c) (M_le c) (M_lf c) (M_mo c) (M_un c) (M_ch c) (M_lc c) (M_ac c) (M_bd c)) T), .long n2_]) (As := []) C (c_X5_book (zl Z) (zG Z) L F m rf (M_mk (M_cd c) (M_pt c) (M_mn c) (M_ev c) (M_co c) (M_al c) (M_re c) (M_lo c) n2_ n16_ (M_he c) (M_go c) (M_sp c) (M_ba c) (M_le c) (M_lf c) (M_mo c) (M_un c) (M_ch c) (M_lc c) (M_ac c) (M_bd c)) T) gX5_happens_X5_book rfl rfl rfl 0 (by decide +kernel) ⟨Nat.le_of_ble_eq_true rfl, Nat.le_of_ble_eq_true rfl⟩ (pw_atX 0 rfl) rfl rfl rfl (Nat.le_of_ble_eq_true rfl) ⟨Nat.le_of_ble_eq_true rfl, Nat.le_of_ble_eq_true rfl⟩ [0, 1, 2, 3, 4, 5, 6, 7, 8, 9, 10, 11, 12, 13, 14, 15] [] [0, 1, 2, 3, 4, 5, 6, 7, 8, 9, 10, 11, 12, 13, 14, 15] rfl rfl rfl rfl (by decide) rfl rfl dX5_happens_141 (pc2 := 144) rfl rfl ?_
            refine pw_conv (X' := ((m, kM rf (M_cd c) (M_pt c) (M_mn c) (M_ev c) (M_co c) (M_al c) (M_re c) (M_lo c) n2_ n16_ (M_he c) (M_go c) (M_sp c) (M_ba c) (M_le c) (M_lf c) (M_mo c) (M_un c) (M_ch c) (M_lc c) (M_ac c) (M_bd c)) :: mT (zG Z) rf T)) mX_mk.symm ?_
            refine pk_topl (fun n17_ en17_ => ?_)
            refine pk_lcmp_gt (tgt := 152) C dX5_happens_144 dX5_happens_145 (pc1 := 145) rfl (by decide) (pc2 := 148) rfl (fun h19_ => ?_) (fun h19_ => ?_)
            ·
              refine pk_iconst (v := 0) C dX5_happens_152 (by decide) (pc2 := 153) rfl ?_
              refine pw_conv (X' := (mX (zG Z) m rf (M_mk (M_cd c) (M_pt c) (M_mn c) (M_ev c) (M_co c) (M_al c) (M_re c) (M_lo c) n2_ n16_ (M_he c) (M_go c) (M_sp c) (M_ba c) (M_le c) (M_lf c) (M_mo c) (M_un c) (M_ch c) (M_lc c) (M_ac c) (M_bd c)) T)) mX_mk ?_
              subst en1_ en2_ en16_ en17_
              exact pr_int (ty := .boolean) C hE rfl rfl (po_d_rfl (by first | with_reducible rfl | (unfold m_X5_happens; rw [if_pos h1_, if_neg h2_, if_neg h13_, if_pos h14_, if_neg h15_, if_pos h18_, if_pos h19_])) (by first | with_reducible rfl | (unfold m_X5_happens; rw [if_pos h1_, if_neg h2_, if_neg h13_, if_pos h14_, if_neg h15_, if_pos h18_, if_pos h19_]))) dX5_happens_153
            ·
              refine pk_iconst (v := 1) C dX5_happens_148 (by decide) (pc2 := 149) rfl ?_
              refine pk_goto (tgt := 153) C dX5_happens_149 (by decide) ?_
              refine pw_conv (X' := (mX (zG Z) m rf (M_mk (M_cd c) (M_pt c) (M_mn c) (M_ev c) (M_co c) (M_al c) (M_re c) (M_lo c) n2_ n16_ (M_he c) (M_go c) (M_sp c) (M_ba c) (M_le c) (M_lf c) (M_mo c) (M_un c) (M_ch c) (M_lc c) (M_ac c) (M_bd c)) T)) mX_mk ?_
              subst en1_ en2_ en16_ en17_
              exact pr_int (ty := .boolean) C hE rfl rfl (po_d_rfl (by first | with_reducible rfl | (unfold m_X5_happens; rw [if_pos h1_, if_neg h2_, if_neg h13_, if_pos h14_, if_neg h15_, if_pos h18_, if_neg h19_])) (by first | with_reducible rfl | (unfold m_X5_happens; rw [if_pos h1_, if_neg h2_, if_neg h13_, if_pos h14_, if_neg h15_, if_pos h18_, if_neg h19_]))) dX5_happens_153
          by_cases h20_ : n1_ = 2
          ·
            refine pk_tableIn (tgt := 154) C dX5_happens_43 (by rw [h20_]; decide) (by rw [h20_]; decide) (by rw [h20_]; first | done | rfl) (by decide) ?_
            refine pk_aload_n C 2 dX5_happens_154 rfl rfl (pc2 := 155) rfl ?_
            refine pk_lload C 0 dX5_happens_155 rfl (pc2 := 157) rfl ?_
            refine pk_dV (cx := (mX (zG Z) m rf c T)) (wr := []) (X2 := (mX (zG Z) m rf (m_X5_values c T n2_) T)) (st := []) (st2 := []) (As := [.long n2_]) C (c_X5_values (zl Z) (zG Z) L F m rf c T n2_) gX5_happens_X5_values rfl rfl rfl 1 (by decide +kernel) ⟨Nat.le_of_ble_eq_true rfl, Nat.le_of_ble_eq_true rfl⟩ (pw_atX 0 rfl) rfl rfl rfl (Nat.le_of_ble_eq_true rfl) ⟨Nat.le_of_ble_eq_true rfl, Nat.le_of_ble_eq_true rfl⟩ [0, 1, 2, 3, 4, 5, 6, 7, 8, 9, 10, 11, 12, 13, 14, 15] [] [0, 1, 2, 3, 4, 5, 6, 7, 8, 9, 10, 11, 12, 13, 14, 15] rfl rfl rfl rfl (by decide) rfl rfl dX5_happens_157 (pc2 := 160) rfl rfl ?_
            generalize en18_ : (m_X5_values c T n2_) = n18_
            refine pk_iconst (v := 1) C dX5_happens_160 (by decide) (pc2 := 161) rfl ?_
            subst en1_ en2_ en18_
            exact pr_int (ty := .boolean) C hE rfl rfl (po_d_rfl (by first | with_reducible rfl | (unfold m_X5_happens; rw [if_pos h1_, if_neg h2_, if_neg h13_, if_pos h14_, if_neg h15_, if_neg h18_, if_pos h20_])) (by first | with_reducible rfl | (unfold m_X5_happens; rw [if_pos h1_, if_neg h2_, if_neg h13_, if_pos h14_, if_neg h15_, if_neg h18_, if_pos h20_]))) dX5_happens_161
          by_cases h21_ : n1_ = 3
          ·
            refine pk_tableIn (tgt := 162) C dX5_happens_43 (by rw [h21_]; decide) (by rw [h21_]; decide) (by rw [h21_]; first | done | rfl) (by decide) ?_
            refine pk_aload_n C 2 dX5_happens_162 rfl rfl (pc2 := 163) rfl ?_
            refine pk_lload C 0 dX5_happens_163 rfl (pc2 := 165) rfl ?_
            refine pk_dV (cx := (mX (zG Z) m rf c T)) (wr := []) (X2 := (mX (zG Z) m rf ((m_X5_impairs c T n2_).2) T)) (st := []) (st2 := [.int ((m_X5_impairs c T n2_).1)]) (As := [.long n2_]) C (c_X5_impairs (zl Z) (zG Z) L F m rf c T n2_) gX5_happens_X5_impairs rfl rfl rfl 1 (by decide +kernel) ⟨Nat.le_of_ble_eq_true rfl, Nat.le_of_ble_eq_true rfl⟩ (pw_atX 0 rfl) rfl rfl rfl (Nat.le_of_ble_eq_true rfl) ⟨Nat.le_of_ble_eq_true rfl, Nat.le_of_ble_eq_true rfl⟩ [0, 1, 2, 3, 4, 5, 6, 7, 8, 9, 10, 11, 12, 13, 14, 15] [] [0, 1, 2, 3, 4, 5, 6, 7, 8, 9, 10, 11, 12, 13, 14, 15] rfl rfl rfl rfl (by decide) rfl rfl dX5_happens_165 (pc2 := 168) rfl rfl ?_
            generalize en19_ : ((m_X5_impairs c T n2_).2) = n19_
            refine pk_topi (fun n20_ en20_ => ?_)
            subst en1_ en2_ en19_ en20_
            exact pr_int (ty := .boolean) C hE rfl (zb_n (zb_m_X5_impairs _ _ _)) (po_d_rfl (by first | with_reducible rfl | (unfold m_X5_happens; rw [if_pos h1_, if_neg h2_, if_neg h13_, if_pos h14_, if_neg h15_, if_neg h18_, if_neg h20_, if_pos h21_])) (by first | with_reducible rfl | (unfold m_X5_happens; rw [if_pos h1_, if_neg h2_, if_neg h13_, if_pos h14_, if_neg h15_, if_neg h18_, if_neg h20_, if_pos h21_]))) dX5_happens_168
          by_cases h22_ : n1_ = 4
          ·
            refine pk_tableIn (tgt := 169) C dX5_happens_43 (by rw [h22_]; decide) (by rw [h22_]; decide) (by rw [h22_]; first | done | rfl) (by decide) ?_
            refine pk_aload_n C 2 dX5_happens_169 rfl rfl (pc2 := 170) rfl ?_
            refine pk_lload C 0 dX5_happens_170 rfl (pc2 := 172) rfl ?_
            refine pk_iload_n C 4 dX5_happens_172 rfl rfl (pc2 := 173) rfl ?_
            refine pk_dV (cx := (mX (zG Z) m rf c T)) (wr := []) (X2 := (mX (zG Z) m rf ((m_X5_restores c T n2_ mm).2) T)) (st := []) (st2 := [.int ((m_X5_restores c T n2_ mm).1)]) (As := [.long n2_, .int mm]) C (c_X5_restores (zl Z) (zG Z) L F m rf c T n2_ mm hm) gX5_happens_X5_restores rfl rfl rfl 2 (by decide +kernel) ⟨Nat.le_of_ble_eq_true rfl, Nat.le_of_ble_eq_true rfl⟩ (pw_atX 0 rfl) rfl rfl rfl (Nat.le_of_ble_eq_true rfl) ⟨Nat.le_of_ble_eq_true rfl, Nat.le_of_ble_eq_true rfl⟩ [0, 1, 2, 3, 4, 5, 6, 7, 8, 9, 10, 11, 12, 13, 14, 15] [] [0, 1, 2, 3, 4, 5, 6, 7, 8, 9, 10, 11, 12, 13, 14, 15] rfl rfl rfl rfl (by decide) rfl rfl dX5_happens_173 (pc2 := 176) rfl rfl ?_
            generalize en21_ : ((m_X5_restores c T n2_ mm).2) = n21_
            refine pk_topi (fun n22_ en22_ => ?_)
            subst en1_ en2_ en21_ en22_
            exact pr_int (ty := .boolean) C hE rfl (zb_n (zb_m_X5_restores _ _ _ _)) (po_d_rfl (by first | with_reducible rfl | (unfold m_X5_happens; rw [if_pos h1_, if_neg h2_, if_neg h13_, if_pos h14_, if_neg h15_, if_neg h18_, if_neg h20_, if_neg h21_, if_pos h22_])) (by first | with_reducible rfl | (unfold m_X5_happens; rw [if_pos h1_, if_neg h2_, if_neg h13_, if_pos h14_, if_neg h15_, if_neg h18_, if_neg h20_, if_neg h21_, if_pos h22_]))) dX5_happens_176
          by_cases h23_ : n1_ = 6
          ·
            refine pk_tableIn (tgt := 189) C dX5_happens_43 (by rw [h23_]; decide) (by rw [h23_]; decide) (by rw [h23_]; first | done | rfl) (by decide) ?_
            refine pk_aload_n C 2 dX5_happens_189 rfl rfl (pc2 := 190) rfl ?_
            refine pk_iconst (v := 1) C dX5_happens_190 (by decide) (pc2 := 191) rfl ?_
            refine pk_putX (X' := ((m, kM rf (M_cd c) (M_pt c) (M_mn c) (M_ev c) (M_co c) (M_al c) (M_re c) (M_lo c) (M_rs c) (M_li c) 1 (M_go c) (M_sp c) (M_ba c) (M_le c) (M_lf c) (M_mo c) (M_un c) (M_ch c) (M_lc c) (M_ac c) (M_bd c)) :: mT (zG Z) rf T)) C i5_ tyX5_ok nmX5 0 rfl (ci := 5) rfl 23 (by decide) w3_ rfl rfl rfl rfl rfl (Nat.le_of_ble_eq_true rfl) rfl dX5_happens_191 (pc2 := 194) rfl ?_
            refine pk_iconst (v := 1) C dX5_happens_194 (by decide) (pc2 := 195) rfl ?_
            refine pw_conv (X' := (mX (zG Z) m rf (M_mk (M_cd c) (M_pt c) (M_mn c) (M_ev c) (M_co c) (M_al c) (M_re c) (M_lo c) (M_rs c) (M_li c) 1 (M_go c) (M_sp c) (M_ba c) (M_le c) (M_lf c) (M_mo c) (M_un c) (M_ch c) (M_lc c) (M_ac c) (M_bd c)) T)) mX_mk ?_
            subst en1_ en2_
            exact pr_int (ty := .boolean) C hE rfl rfl (po_d_rfl (by first | with_reducible rfl | (unfold m_X5_happens; rw [if_pos h1_, if_neg h2_, if_neg h13_, if_pos h14_, if_neg h15_, if_neg h18_, if_neg h20_, if_neg h21_, if_neg h22_, if_pos h23_])) (by first | with_reducible rfl | (unfold m_X5_happens; rw [if_pos h1_, if_neg h2_, if_neg h13_, if_pos h14_, if_neg h15_, if_neg h18_, if_neg h20_, if_neg h21_, if_neg h22_, if_pos h23_]))) dX5_happens_195
          refine pk_tableOut (tgt := 196) C dX5_happens_43 (sw_6 h15_ h18_ h20_ h21_ h22_ h13_ h23_) (by decide) ?_
          refine pk_aload_n C 2 dX5_happens_196 rfl rfl (pc2 := 197) rfl ?_
          refine pk_get (v := .int (M_he c)) C i5_ (pw_atX 0 rfl) (ci := 5) rfl 23 (by decide) w3_ rfl rfl dX5_happens_197 (pc2 := 200) rfl ?_
          refine pk_istore (lv' := [(6, .int (M_he c)), (4, .long n2_), (3, .int n1_), (0, .ref m), (1, .int e), (2, .int mm)]) C dX5_happens_200 (by decide) rfl (pc2 := 202) rfl ?_
          refine pk_aload_n C 3 dX5_happens_202 rfl rfl (pc2 := 203) rfl ?_
          refine pk_iconst (v := 0) C dX5_happens_203 (by decide) (pc2 := 204) rfl ?_
          refine pk_putX (X' := ((m, kM rf (M_cd c) (M_pt c) (M_mn c) (M_ev c) (M_co c) (M_al c) (M_re c) (M_lo c) (M_rs c) (M_li c) 0 (M_go c) (M_sp c) (M_ba c) (M_le c) (M_lf c) (M_mo c) (M_un c) (M_ch c) (M_lc c) (M_ac c) (M_bd c)) :: mT (zG Z) rf T)) C i5_ tyX5_ok nmX5 0 rfl (ci := 5) rfl 23 (by decide) w3_ rfl rfl rfl rfl rfl (Nat.le_of_ble_eq_true rfl) rfl dX5_happens_204 (pc2 := 207) rfl ?_
          refine pk_iload C 0 dX5_happens_207 rfl (pc2 := 209) rfl ?_
          refine pw_conv (X' := (mX (zG Z) m rf (M_mk (M_cd c) (M_pt c) (M_mn c) (M_ev c) (M_co c) (M_al c) (M_re c) (M_lo c) (M_rs c) (M_li c) 0 (M_go c) (M_sp c) (M_ba c) (M_le c) (M_lf c) (M_mo c) (M_un c) (M_ch c) (M_lc c) (M_ac c) (M_bd c)) T)) mX_mk ?_
          subst en1_ en2_
          exact pr_int (ty := .boolean) C hE rfl (zb_n (by assumption)) (po_d_rfl (by first | with_reducible rfl | (unfold m_X5_happens; rw [if_pos h1_, if_neg h2_, if_neg h13_, if_pos h14_, if_neg h15_, if_neg h18_, if_neg h20_, if_neg h21_, if_neg h22_, if_neg h23_])) (by first | with_reducible rfl | (unfold m_X5_happens; rw [if_pos h1_, if_neg h2_, if_neg h13_, if_pos h14_, if_neg h15_, if_neg h18_, if_neg h20_, if_neg h21_, if_neg h22_, if_neg h23_]))) dX5_happens_209
        ·
          refine pk_iconst (v := 0) C dX5_happens_40 (by decide) (pc2 := 41) rfl ?_
          subst en1_ en2_
          exact pr_int (ty := .boolean) C hE rfl rfl (po_d_rfl (by first | with_reducible rfl | (unfold m_X5_happens; rw [if_pos h1_, if_neg h2_, if_neg h13_, if_neg h14_])) (by first | with_reducible rfl | (unfold m_X5_happens; rw [if_pos h1_, if_neg h2_, if_neg h13_, if_neg h14_]))) dX5_happens_41
set_option maxRecDepth 100000 in
theorem zb_m_X5_happens (c : MR) (T : TR) (e : Int32) (mm : Int32) (hhe : M_he c = 0 ∨ M_he c = 1) : (m_X5_happens c T e mm).1 = 0 ∨ (m_X5_happens c T e mm).1 = 1 := by
  unfold m_X5_happens
  repeat' (first | (refine zi_ite (P := fun (x : Int32 × MR) => x.1 = 0 ∨ x.1 = 1) (fun _ => ?_) (fun _ => ?_)) | (exact Or.inl rfl) | (exact Or.inr rfl) | assumption | (exact (zb_m_X5_impairs _ _ _)) | (exact (zb_m_X5_restores _ _ _ _)))

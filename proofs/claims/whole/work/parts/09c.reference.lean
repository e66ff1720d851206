def m_X5_impairs (c : MR) (T : TR) (v : Int64) : Int32 × MR :=
  if v < (m_X5_book c T) then (1, (M_mk (M_cd (m_X5_fall c T ((m_X5_book c T) - v))) (M_pt (m_X5_fall c T ((m_X5_book c T) - v))) (M_mn (m_X5_fall c T ((m_X5_book c T) - v))) (M_ev (m_X5_fall c T ((m_X5_book c T) - v))) (M_co (m_X5_fall c T ((m_X5_book c T) - v))) ((M_co (m_X5_fall c T ((m_X5_book c T) - v))) - v) (M_re (m_X5_fall c T ((m_X5_book c T) - v))) (M_lo (m_X5_fall c T ((m_X5_book c T) - v))) (M_rs (m_X5_fall c T ((m_X5_book c T) - v))) (M_li (m_X5_fall c T ((m_X5_book c T) - v))) (M_he (m_X5_fall c T ((m_X5_book c T) - v))) (M_go (m_X5_fall c T ((m_X5_book c T) - v))) (M_sp (m_X5_fall c T ((m_X5_book c T) - v))) (M_ba (m_X5_fall c T ((m_X5_book c T) - v))) (M_le (m_X5_fall c T ((m_X5_book c T) - v))) (M_lf (m_X5_fall c T ((m_X5_book c T) - v))) (M_mo (m_X5_fall c T ((m_X5_book c T) - v))) (M_un (m_X5_fall c T ((m_X5_book c T) - v))) (M_ch (m_X5_fall c T ((m_X5_book c T) - v))) (M_lc (m_X5_fall c T ((m_X5_book c T) - v))) (M_ac (m_X5_fall c T ((m_X5_book c T) - v))) (M_bd (m_X5_fall c T ((m_X5_book c T) - v))))) else (0, c)
set_option maxRecDepth 100000 in
set_option maxHeartbeats 2000000 in
theorem c_X5_impairs (l : Launch) (G : pw_G) (L : List Nat) (F : Nat → va_E) (m : Nat) (rf : Nat → Nat) (c : MR) (T : TR) (v : Int64) : PM l yX5_impairs wsX5_impairs ⟨1, 0, 0, 24⟩ G [.ref m, .long v] (mX G m rf c T) L F 0 0 (po_d (some (.int (m_X5_impairs c T v).1)) (mX G m rf ((m_X5_impairs c T v).2) T) L F) := by
  refine pm_entry (by decide) rfl rfl (Nat.le_of_ble_eq_true rfl) ?_
  intro Z Q C hl0 hG0 hnm hE
  subst hl0
  subst hG0
  have i5_ : ∀ w ∈ wsX50, w ∈ wsX5_impairs := by decide +kernel
  have w0_ : Cond.fieldLink RX5 65 "AgedAssetsModel" "cost" "J" ∈ wsX5_impairs := by decide +kernel
  have w1_ : Cond.fieldLink RX5 69 "AgedAssetsModel" "allowance" "J" ∈ wsX5_impairs := by decide +kernel
  show PW Z (mX (zG Z) m rf c T) L F 0 0 Q 0 [(0, .ref m), (1, .long v)] []
  refine pk_lload_n C 1 dX5_impairs_0 rfl rfl (pc2 := 1) rfl ?_
  refine pk_aload_n C 0 dX5_impairs_1 rfl rfl (pc2 := 2) rfl ?_
  refine pk_dV (cx := (mX (zG Z) m rf c T)) (wr := []) (X2 := (mX (zG Z) m rf c T)) (st := [.long v]) (st2 := [.long (m_X5_book c T), .long v]) (As := []) C (c_X5_book (zl Z) (zG Z) L F m rf c T) gX5_impairs_X5_book rfl rfl rfl 0 (by decide +kernel) ⟨Nat.le_of_ble_eq_true rfl, Nat.le_of_ble_eq_true rfl⟩ (pw_atX 0 rfl) rfl rfl rfl (Nat.le_of_ble_eq_true rfl) ⟨Nat.le_of_ble_eq_true rfl, Nat.le_of_ble_eq_true rfl⟩ [0, 1, 2, 3, 4, 5, 6, 7, 8, 9, 10, 11, 12, 13, 14, 15] [] [0, 1, 2, 3, 4, 5, 6, 7, 8, 9, 10, 11, 12, 13, 14, 15] rfl rfl rfl rfl (by decide) rfl rfl dX5_impairs_2 (pc2 := 5) rfl rfl ?_
  refine pk_topl (fun n1_ en1_ => ?_)
  refine pk_lcmp_lt (tgt := 11) C dX5_impairs_5 dX5_impairs_6 (pc1 := 6) rfl (by decide) (pc2 := 9) rfl (fun h1_ => ?_) (fun h1_ => ?_)
  ·
    refine pk_aload_n C 0 dX5_impairs_11 rfl rfl (pc2 := 12) rfl ?_
    refine pk_aload_n C 0 dX5_impairs_12 rfl rfl (pc2 := 13) rfl ?_
    refine pk_dV (cx := (mX (zG Z) m rf c T)) (wr := []) (X2 := (mX (zG Z) m rf c T)) (st := [.ref m]) (st2 := [.long (m_X5_book c T), .ref m]) (As := []) C (c_X5_book (zl Z) (zG Z) L F m rf c T) gX5_impairs_X5_book rfl rfl rfl 0 (by decide +kernel) ⟨Nat.le_of_ble_eq_true rfl, Nat.le_of_ble_eq_true rfl⟩ (pw_atX 0 rfl) rfl rfl rfl (Nat.le_of_ble_eq_true rfl) ⟨Nat.le_of_ble_eq_true rfl, Nat.le_of_ble_eq_true rfl⟩ [0, 1, 2, 3, 4, 5, 6, 7, 8, 9, 10, 11, 12, 13, 14, 15] [] [0, 1, 2, 3, 4, 5, 6, 7, 8, 9, 10, 11, 12, 13, 14, 15] rfl rfl rfl rfl (by decide) rfl rfl dX5_impairs_13 (pc2 := 16) rfl rfl ?_
    refine pk_topl (fun n2_ en2_ => ?_)
    refine pk_lload_n C 1 dX5_impairs_16 rfl rfl (pc2 := 17) rfl ?_
    refine pk_lsub C dX5_impairs_17 (pc2 := 18) rfl ?_
    refine pk_dV (cx := (mX (zG Z) m rf c T)) (wr := []) (X2 := (mX (zG Z) m rf (m_X5_fall c T (n2_ - v)) T)) (st := []) (st2 := []) (As := [.long (n2_ - v)]) C (c_X5_fall (zl Z) (zG Z) L F m rf c T (n2_ - v)) gX5_impairs_X5_fall rfl rfl rfl 1 (by decide +kernel) ⟨Nat.le_of_ble_eq_true rfl, Nat.le_of_ble_eq_true rfl⟩ (pw_atX 0 rfl) rfl rfl rfl (Nat.le_of_ble_eq_true rfl) ⟨Nat.le_of_ble_eq_true rfl, Nat.le_of_ble_eq_true rfl⟩ [0, 1, 2, 3, 4, 5, 6, 7, 8, 9, 10, 11, 12, 13, 14, 15] [] [0, 1, 2, 3, 4, 5, 6, 7, 8, 9, 10, 11, 12, 13, 14, 15] rfl rfl rfl rfl (by decide) rfl rfl dX5_impairs_18 (pc2 := 21) rfl rfl ?_
    generalize en3_ : (m_X5_fall c T (n2_ - v)) = n3_
    refine pk_aload_n C 0 dX5_impairs_21 rfl rfl (pc2 := 22) rfl ?_
    refine pk_aload_n C 0 dX5_impairs_22 rfl rfl (pc2 := 23) rfl ?_
    refine pk_get (v := .long (M_co n3_)) C i5_ (pw_atX 0 rfl) (ci := 5) rfl 17 (by decide) w0_ rfl rfl dX5_impairs_23 (pc2 := 26) rfl ?_
    refine pk_lload_n C 1 dX5_impairs_26 rfl rfl (pc2 := 27) rfl ?_
    refine pk_lsub C dX5_impairs_27 (pc2 := 28) rfl ?_
    refine pk_topl (fun n4_ en4_ => ?_)
    refine pk_putX (X' := ((m, kM rf (M_cd n3_) (M_pt n3_) (M_mn n3_) (M_ev n3_) (M_co n3_) n4_ (M_re n3_) (M_lo n3_) (M_rs n3_) (M_li n3_) (M_he n3_) (M_go n3_) (M_sp n3_) (M_ba n3_) (M_le n3_) (M_lf n3_) (M_mo n3_) (M_un n3_) (M_ch n3_) (M_lc n3_) (M_ac n3_) (M_bd n3_)) :: mT (zG Z) rf T)) C i5_ tyX5_ok nmX5 0 rfl (ci := 5) rfl 18 (by decide) w1_ rfl rfl rfl rfl rfl (Nat.le_of_ble_eq_true rfl) rfl dX5_impairs_28 (pc2 := 31) rfl ?_
    refine pk_iconst (v := 1) C dX5_impairs_31 (by decide) (pc2 := 32) rfl ?_
    refine pw_conv (X' := (mX (zG Z) m rf (M_mk (M_cd n3_) (M_pt n3_) (M_mn n3_) (M_ev n3_) (M_co n3_) n4_ (M_re n3_) (M_lo n3_) (M_rs n3_) (M_li n3_) (M_he n3_) (M_go n3_) (M_sp n3_) (M_ba n3_) (M_le n3_) (M_lf n3_) (M_mo n3_) (M_un n3_) (M_ch n3_) (M_lc n3_) (M_ac n3_) (M_bd n3_)) T)) mX_mk ?_
    subst en1_ en2_ en3_ en4_
    exact pr_int (ty := .boolean) C hE rfl rfl (po_d_rfl (by first | with_reducible rfl | (unfold m_X5_impairs; rw [if_pos h1_])) (by first | with_reducible rfl | (unfold m_X5_impairs; rw [if_pos h1_]))) dX5_impairs_32
  ·
    refine pk_iconst (v := 0) C dX5_impairs_9 (by decide) (pc2 := 10) rfl ?_
    subst en1_
    exact pr_int (ty := .boolean) C hE rfl rfl (po_d_rfl (by first | with_reducible rfl | (unfold m_X5_impairs; rw [if_neg h1_])) (by first | with_reducible rfl | (unfold m_X5_impairs; rw [if_neg h1_]))) dX5_impairs_10
theorem zb_m_X5_impairs (c : MR) (T : TR) (v : Int64) : (m_X5_impairs c T v).1 = 0 ∨ (m_X5_impairs c T v).1 = 1 := by
  unfold m_X5_impairs
  repeat (first | split | (exact Or.inl rfl) | (exact Or.inr rfl) | assumption)
def m_X5_restores (c : MR) (T : TR) (v : Int64) (mm : Int32) : Int32 × MR :=
  if (M_bd c) ≤ mm then (0, c) else if (v - (m_X5_book c T)) ≤ 0 then (0, c) else if ((T_bf T) (Int32.toNatClampNeg mm)) < v then (0, c) else if (v - (m_X5_book c T)) ≤ (M_al c) then if (M_lo c) ≤ (v - (m_X5_book c T)) then if (m_X5_book (M_mk (M_cd c) (M_pt c) (M_mn c) (M_ev c) (M_co c) ((M_al c) - (v - (m_X5_book c T))) (M_re c) 0 (M_rs c) (M_li c) (M_he c) (M_go c) (M_sp c) (M_ba c) (M_le c) (M_lf c) (M_mo c) (M_un c) (M_ch c) (M_lc c) (M_ac c) (M_bd c)) T) < (M_rs c) then (0, (M_mk (M_cd c) (M_pt c) (M_mn c) (M_ev c) (M_co c) ((M_al c) - (v - (m_X5_book c T))) (M_re c) 0 (M_rs c) (M_li c) (M_he c) (M_go c) (M_sp c) (M_ba c) (M_le c) (M_lf c) (M_mo c) (M_un c) (M_ch c) (M_lc c) (M_ac c) (M_bd c))) else (1, (M_mk (M_cd c) (M_pt c) (M_mn c) (M_ev c) (M_co c) ((M_al c) - (v - (m_X5_book c T))) (M_re c) 0 (M_rs c) (M_li c) (M_he c) (M_go c) (M_sp c) (M_ba c) (M_le c) (M_lf c) (M_mo c) (M_un c) (M_ch c) (M_lc c) (M_ac c) (M_bd c))) else if (m_X5_book (M_mk (M_cd c) (M_pt c) (M_mn c) (M_ev c) (M_co c) ((M_al c) - (v - (m_X5_book c T))) (M_re c) ((M_lo c) - (v - (m_X5_book c T))) (M_rs c) (M_li c) (M_he c) (M_go c) (M_sp c) (M_ba c) (M_le c) (M_lf c) (M_mo c) (M_un c) (M_ch c) (M_lc c) (M_ac c) (M_bd c)) T) < (M_rs c) then (0, (M_mk (M_cd c) (M_pt c) (M_mn c) (M_ev c) (M_co c) ((M_al c) - (v - (m_X5_book c T))) (M_re c) ((M_lo c) - (v - (m_X5_book c T))) (M_rs c) (M_li c) (M_he c) (M_go c) (M_sp c) (M_ba c) (M_le c) (M_lf c) (M_mo c) (M_un c) (M_ch c) (M_lc c) (M_ac c) (M_bd c))) else (1, (M_mk (M_cd c) (M_pt c) (M_mn c) (M_ev c) (M_co c) ((M_al c) - (v - (m_X5_book c T))) (M_re c) ((M_lo c) - (v - (m_X5_book c T))) (M_rs c) (M_li c) (M_he c) (M_go c) (M_sp c) (M_ba c) (M_le c) (M_lf c) (M_mo c) (M_un c) (M_ch c) (M_lc c) (M_ac c) (M_bd c))) else (0, c)
set_option maxRecDepth 100000 in
set_option maxHeartbeats 2000000 in
theorem c_X5_restores (l : Launch) (G : pw_G) (L : List Nat) (F : Nat → va_E) (m : Nat) (rf : Nat → Nat) (c : MR) (T : TR) (v : Int64) (mm : Int32) (hm : vp_in mm 36) : PM l yX5_restores wsX5_restores ⟨1, 0, 0, 20⟩ G [.ref m, .long v, .int mm] (mX G m rf c T) L F 0 0 (po_d (some (.int (m_X5_restores c T v mm).1)) (mX G m rf ((m_X5_restores c T v mm).2) T) L F) := by
  refine pm_entry (by decide) rfl rfl (Nat.le_of_ble_eq_true rfl) ?_
  intro Z Q C hl0 hG0 hnm hE
  subst hl0
  subst hG0
  have i5_ : ∀ w ∈ wsX50, w ∈ wsX5_restores := by decide +kernel
  have w0_ : Cond.fieldLink RX5 116 "AgedAssetsModel" "bad" "I" ∈ wsX5_restores := by decide +kernel
  have w1_ : Cond.fieldLink RX5 50 "AgedAssetsModel" "before" "[J" ∈ wsX5_restores := by decide +kernel
  have w2_ : Cond.fieldLink RX5 69 "AgedAssetsModel" "allowance" "J" ∈ wsX5_restores := by decide +kernel
  have w3_ : Cond.fieldLink RX5 109 "AgedAssetsModel" "losses" "J" ∈ wsX5_restores := by decide +kernel
  have w4_ : Cond.fieldLink RX5 79 "AgedAssetsModel" "residual" "J" ∈ wsX5_restores := by decide +kernel
  show PW Z (mX (zG Z) m rf c T) L F 0 0 Q 0 [(0, .ref m), (1, .long v), (3, .int mm)] []
  refine pk_lload_n C 1 dX5_restores_0 rfl rfl (pc2 := 1) rfl ?_
  refine pk_aload_n C 0 dX5_restores_1 rfl rfl (pc2 := 2) rfl ?_
  refine pk_dV (cx := (mX (zG Z) m rf c T)) (wr := []) (X2 := (mX (zG Z) m rf c T)) (st := [.long v]) (st2 := [.long (m_X5_book c T), .long v]) (As := []) C (c_X5_book (zl Z) (zG Z) L F m rf c T) gX5_restores_X5_book rfl rfl rfl 0 (by decide +kernel) ⟨Nat.le_of_ble_eq_true rfl, Nat.le_of_ble_eq_true rfl⟩ (pw_atX 0 rfl) rfl rfl rfl (Nat.le_of_ble_eq_true rfl) ⟨Nat.le_of_ble_eq_true rfl, Nat.le_of_ble_eq_true rfl⟩ [0, 1, 2, 3, 4, 5, 6, 7, 8, 9, 10, 11, 12, 13, 14, 15] [] [0, 1, 2, 3, 4, 5, 6, 7, 8, 9, 10, 11, 12, 13, 14, 15] rfl rfl rfl rfl (by decide) rfl rfl dX5_restores_2 (pc2 := 5) rfl rfl ?_
  refine pk_topl (fun n1_ en1_ => ?_)
  refine pk_lsub C dX5_restores_5 (pc2 := 6) rfl ?_
  refine pk_topl (fun n2_ en2_ => ?_)
  refine pk_lstore (lv' := [(4, .long n2_), (0, .ref m), (1, .long v), (3, .int mm)]) C dX5_restores_6 (by decide) rfl (pc2 := 8) rfl ?_
  refine pk_aload_n C 1 dX5_restores_8 rfl rfl (pc2 := 9) rfl ?_
  refine pk_get (v := .int (M_bd c)) C i5_ (pw_atX 0 rfl) (ci := 5) rfl 36 (by decide) w0_ rfl rfl dX5_restores_9 (pc2 := 12) rfl ?_
  refine pk_iload_n C 3 dX5_restores_12 rfl rfl (pc2 := 13) rfl ?_
  refine pk_icmp_le (tgt := 44) C dX5_restores_13 (by decide) (pc2 := 16) rfl (fun h1_ => ?_) (fun h1_ => ?_)
  ·
    refine pk_iconst (v := 0) C dX5_restores_44 (by decide) (pc2 := 45) rfl ?_
    subst en1_ en2_
    exact pr_int (ty := .boolean) C hE rfl rfl (po_d_rfl (by first | with_reducible rfl | (unfold m_X5_restores; rw [if_pos h1_])) (by first | with_reducible rfl | (unfold m_X5_restores; rw [if_pos h1_]))) dX5_restores_45
  ·
    refine pk_lload C 0 dX5_restores_16 rfl (pc2 := 18) rfl ?_
    refine pk_lconst (v := 0) C dX5_restores_18 (by decide) (pc2 := 19) rfl ?_
    refine pk_lcmp_le (tgt := 44) C dX5_restores_19 dX5_restores_20 (pc1 := 20) rfl (by decide) (pc2 := 23) rfl (fun h2_ => ?_) (fun h2_ => ?_)
    ·
      refine pk_iconst (v := 0) C dX5_restores_44 (by decide) (pc2 := 45) rfl ?_
      subst en1_ en2_
      exact pr_int (ty := .boolean) C hE rfl rfl (po_d_rfl (by first | with_reducible rfl | (unfold m_X5_restores; rw [if_neg h1_, if_pos h2_])) (by first | with_reducible rfl | (unfold m_X5_restores; rw [if_neg h1_, if_pos h2_]))) dX5_restores_45
    ·
      refine pk_lload_n C 2 dX5_restores_23 rfl rfl (pc2 := 24) rfl ?_
      refine pk_aload_n C 1 dX5_restores_24 rfl rfl (pc2 := 25) rfl ?_
      refine pk_get (v := .ref (rf 13)) C i5_ (pw_atX 0 rfl) (ci := 5) rfl 34 (by decide) w1_ rfl rfl dX5_restores_25 (pc2 := 28) rfl ?_
      refine pk_iload_n C 3 dX5_restores_28 rfl rfl (pc2 := 29) rfl ?_
      refine pk_lald (v := ((T_bf T) (Int32.toNatClampNeg mm))) C (pw_atX 14 rfl) hm rfl dX5_restores_29 (pc2 := 30) rfl ?_
      refine pk_lcmp_gt (tgt := 44) C dX5_restores_30 dX5_restores_31 (pc1 := 31) rfl (by decide) (pc2 := 34) rfl (fun h3_ => ?_) (fun h3_ => ?_)
      ·
        refine pk_iconst (v := 0) C dX5_restores_44 (by decide) (pc2 := 45) rfl ?_
        subst en1_ en2_
        exact pr_int (ty := .boolean) C hE rfl rfl (po_d_rfl (by first | with_reducible rfl | (unfold m_X5_restores; rw [if_neg h1_, if_neg h2_, if_pos h3_])) (by first | with_reducible rfl | (unfold m_X5_restores; rw [if_neg h1_, if_neg h2_, if_pos h3_]))) dX5_restores_45
      ·
        refine pk_lload C 0 dX5_restores_34 rfl (pc2 := 36) rfl ?_
        refine pk_aload_n C 1 dX5_restores_36 rfl rfl (pc2 := 37) rfl ?_
        refine pk_get (v := .long (M_al c)) C i5_ (pw_atX 0 rfl) (ci := 5) rfl 18 (by decide) w2_ rfl rfl dX5_restores_37 (pc2 := 40) rfl ?_
        refine pk_lcmp_le (tgt := 46) C dX5_restores_40 dX5_restores_41 (pc1 := 41) rfl (by decide) (pc2 := 44) rfl (fun h4_ => ?_) (fun h4_ => ?_)
        ·
          refine pk_aload_n C 1 dX5_restores_46 rfl rfl (pc2 := 47) rfl ?_
          refine pk_aload_n C 1 dX5_restores_47 rfl rfl (pc2 := 48) rfl ?_
          refine pk_get (v := .long (M_al c)) C i5_ (pw_atX 0 rfl) (ci := 5) rfl 18 (by decide) w2_ rfl rfl dX5_restores_48 (pc2 := 51) rfl ?_
          refine pk_lload C 0 dX5_restores_51 rfl (pc2 := 53) rfl ?_
          refine pk_lsub C dX5_restores_53 (pc2 := 54) rfl ?_
          refine pk_topl (fun n3_ en3_ => ?_)
          refine pk_putX (X' := ((m, kM rf (M_cd c) (M_pt c) (M_mn c) (M_ev c) (M_co c) n3_ (M_re c) (M_lo c) (M_rs c) (M_li c) (M_he c) (M_go c) (M_sp c) (M_ba c) (M_le c) (M_lf c) (M_mo c) (M_un c) (M_ch c) (M_lc c) (M_ac c) (M_bd c)) :: mT (zG Z) rf T)) C i5_ tyX5_ok nmX5 0 rfl (ci := 5) rfl 18 (by decide) w2_ rfl rfl rfl rfl rfl (Nat.le_of_ble_eq_true rfl) rfl dX5_restores_54 (pc2 := 57) rfl ?_
          refine pk_aload_n C 1 dX5_restores_57 rfl rfl (pc2 := 58) rfl ?_
          refine pk_aload_n C 1 dX5_restores_58 rfl rfl (pc2 := 59) rfl ?_
          refine pk_get (v := .long (M_lo c)) C i5_ (pw_atX 0 rfl) (ci := 5) rfl 20 (by decide) w3_ rfl rfl dX5_restores_59 (pc2 := 62) rfl ?_
          refine pk_lload C 0 dX5_restores_62 rfl (pc2 := 64) rfl ?_
          refine pk_lcmp_le (tgt := 78) C dX5_restores_64 dX5_restores_65 (pc1 := 65) rfl (by decide) (pc2 := 68) rfl (fun h5_ => ?_) (fun h5_ => ?_)
          ·
            refine pk_lconst (v := 0) C dX5_restores_78 (by decide) (pc2 := 79) rfl ?_
            refine pk_putX (X' := ((m, kM rf (M_cd c) (M_pt c) (M_mn c) (M_ev c) (M_co c) n3_ (M_re c) 0 (M_rs c) (M_li c) (M_he c) (M_go c) (M_sp c) (M_ba c) (M_le c) (M_lf c) (M_mo c) (M_un c) (M_ch c) (M_lc c) (M_ac c) (M_bd c)) :: mT (zG Z) rf T)) C i5_ tyX5_ok nmX5 0 rfl (ci := 5) rfl 20 (by decide) w3_ rfl rfl rfl rfl rfl (Nat.le_of_ble_eq_true rfl) rfl dX5_restores_79 (pc2 := 82) rfl ?_
            refine pk_aload_n C 1 dX5_restores_82 rfl rfl (pc2 := 83) rfl ?_
            refine pk_get (v := .long (M_rs c)) C i5_ (pw_atX 0 rfl) (ci := 5) rfl 21 (by decide) w4_ rfl rfl dX5_restores_83 (pc2 := 86) rfl ?_
            refine pk_aload_n C 1 dX5_restores_86 rfl rfl (pc2 := 87) rfl ?_
            refine pw_conv (X' := (mX (zG Z) m rf (M_mk (M_cd c) (M_pt c) (M_mn c) (M_ev c) (M_co c) n3_ (M_re c) 0 (M_rs c) (M_li c) (M_he c) (M_go c) (M_sp c) (M_ba c) (M_le c) (M_lf c) (M_mo c) (M_un c) (M_ch c) (M_lc c) (M_ac c) (M_bd c)) T)) mX_mk ?_
            refine pk_dV (cx := (mX (zG Z) m rf (M_mk (M_cd c) (M_pt c) (M_mn c) (M_ev c) (M_co c) n3_ (M_re c) 0 (M_rs c) (M_li c) (M_he c) (M_go c) (M_sp c) (M_ba c) (M_le c) (M_lf c) (M_mo c) (M_un c) (M_ch c) (M_lc c) (M_ac c) (M_bd c)) T)) (wr := []) (X2 := (mX (zG Z) m rf (M_mk (M_cd c) (M_pt c) (M_mn c) (M_ev c) (M_co c) n3_ (M_re c) 0 (M_rs c) (M_li c) (M_he c) (M_go c) (M_sp c) (M_ba c) (M_le c) (M_lf c) (M_mo c) (M_un c) (M_ch c) (M_lc c) (M_ac c) (M_bd c)) T)) (st := [.long (M_rs c)]) (st2 := [.long (m_X5_book (M_mk (M_cd c) (M_pt c) (M_mn c) (M_ev c) (M_co c) n3_ (M_re c) 0 (M_rs c) (M_li c) (M_he c) (M_go c) (M_sp c) (M_ba c) (M_le c) (M_lf c) (M_mo c) (M_un c) (M_ch c) (M_lc c) (M_ac c) (M_bd c)) T), .long (M_rs c)]) (As := []) C (c_X5_book (zl Z) (zG Z) L F m rf (M_mk (M_cd c) (M_pt c) (M_mn c) (M_ev c) (M_co c) n3_ (M_re c) 0 (M_rs c) (M_li c) (M_he c) (M_go c) (M_sp c) (M_ba c) (M_le c) (M_lf c) (M_mo c) (M_un c) (M_ch c) (M_lc c) (M_ac c) (M_bd c)) T) gX5_restores_X5_book rfl rfl rfl 0 (by decide +kernel) ⟨Nat.le_of_ble_eq_true rfl, Nat.le_of_ble_eq_true rfl⟩ (pw_atX 0 rfl) rfl rfl rfl (Nat.le_of_ble_eq_true rfl) ⟨Nat.le_of_ble_eq_true rfl, Nat.le_of_ble_eq_true rfl⟩ [0, 1, 2, 3, 4, 5, 6, 7, 8, 9, 10, 11, 12, 13, 14, 15] [] [0, 1, 2, 3, 4, 5, 6, 7, 8, 9, 10, 11, 12, 13, 14, 15] rfl rfl rfl rfl (by decide) rfl rfl dX5_restores_87 (pc2 := 90) rfl rfl ?_
            refine pw_conv (X' := ((m, kM rf (M_cd c) (M_pt c) (M_mn c) (M_ev c) (M_co c) n3_ (M_re c) 0 (M_rs c) (M_li c) (M_he c) (M_go c) (M_sp c) (M_ba c) (M_le c) (M_lf c) (M_mo c) (M_un c) (M_ch c) (M_lc c) (M_ac c) (M_bd c)) :: mT (zG Z) rf T)) mX_mk.symm ?_
            refine pk_topl (fun n4_ en4_ => ?_)
            refine pk_lcmp_gt (tgt := 98) C dX5_restores_90 dX5_restores_91 (pc1 := 91) rfl (by decide) (pc2 := 94) rfl (fun h6_ => ?_) (fun h6_ => ?_)
            ·
              refine pk_iconst (v := 0) C dX5_restores_98 (by decide) (pc2 := 99) rfl ?_
              refine pw_conv (X' := (mX (zG Z) m rf (M_mk (M_cd c) (M_pt c) (M_mn c) (M_ev c) (M_co c) n3_ (M_re c) 0 (M_rs c) (M_li c) (M_he c) (M_go c) (M_sp c) (M_ba c) (M_le c) (M_lf c) (M_mo c) (M_un c) (M_ch c) (M_lc c) (M_ac c) (M_bd c)) T)) mX_mk ?_
              subst en1_ en2_ en3_ en4_
              exact pr_int (ty := .boolean) C hE rfl rfl (po_d_rfl (by first | with_reducible rfl | (unfold m_X5_restores; rw [if_neg h1_, if_neg h2_, if_neg h3_, if_pos h4_, if_pos h5_, if_pos h6_])) (by first | with_reducible rfl | (unfold m_X5_restores; rw [if_neg h1_, if_neg h2_, if_neg h3_, if_pos h4_, if_pos h5_, if_pos h6_]))) dX5_restores_99
            ·
              refine pk_iconst (v := 1) C dX5_restores_94 (by decide) (pc2 := 95) rfl ?_
              refine pk_goto (tgt := 99) C dX5_restores_95 (by decide) ?_
              refine pw_conv (X' := (mX (zG Z) m rf (M_mk (M_cd c) (M_pt c) (M_mn c) (M_ev c) (M_co c) n3_ (M_re c) 0 (M_rs c) (M_li c) (M_he c) (M_go c) (M_sp c) (M_ba c) (M_le c) (M_lf c) (M_mo c) (M_un c) (M_ch c) (M_lc c) (M_ac c) (M_bd c)) T)) mX_mk ?_
              subst en1_ en2_ en3_ en4_
              exact pr_int (ty := .boolean) C hE rfl rfl (po_d_rfl (by first | with_reducible rfl | (unfold m_X5_restores; rw [if_neg h1_, if_neg h2_, if_neg h3_, if_pos h4_, if_pos h5_, if_neg h6_])) (by first | with_reducible rfl | (unfold m_X5_restores; rw [if_neg h1_, if_neg h2_, if_neg h3_, if_pos h4_, if_pos h5_, if_neg h6_]))) dX5_restores_99
          ·
            refine pk_aload_n C 1 dX5_restores_68 rfl rfl (pc2 := 69) rfl ?_
            refine pk_get (v := .long (M_lo c)) C i5_ (pw_atX 0 rfl) (ci := 5) rfl 20 (by decide) w3_ rfl rfl dX5_restores_69 (pc2 := 72) rfl ?_
            refine pk_lload C 0 dX5_restores_72 rfl (pc2 := 74) rfl ?_
            refine pk_lsub C dX5_restores_74 (pc2 := 75) rfl ?_
            refine pk_goto (tgt := 79) C dX5_restores_75 (by decide) ?_
            refine pk_topl (fun n5_ en5_ => ?_)
            refine pk_putX (X' := ((m, kM rf (M_cd c) (M_pt c) (M_mn c) (M_ev c) (M_co c) n3_ (M_re c) n5_ (M_rs c) (M_li c) (M_he c) (M_go c) (M_sp c) (M_ba c) (M_le c) (M_lf c) (M_mo c) (M_un c) (M_ch c) (M_lc c) (M_ac c) (M_bd c)) :: mT (zG Z) rf T)) C i5_ tyX5_ok nmX5 0 rfl (ci := 5) rfl 20 (by decide) w3_ rfl rfl rfl rfl rfl (Nat.le_of_ble_eq_true rfl) rfl dX5_restores_79 (pc2 := 82) rfl ?_
            refine pk_aload_n C 1 dX5_restores_82 rfl rfl (pc2 := 83) rfl ?_
            refine pk_get (v := .long (M_rs c)) C i5_ (pw_atX 0 rfl) (ci := 5) rfl 21 (by decide) w4_ rfl rfl dX5_restores_83 (pc2 := 86) rfl ?_
            refine pk_aload_n C 1 dX5_restores_86 rfl rfl (pc2 := 87) rfl ?_
            refine pw_conv (X' := (mX (zG Z) m rf (M_mk (M_cd c) (M_pt c) (M_mn c) (M_ev c) (M_co c) n3_ (M_re c) n5_ (M_rs c) (M_li c) (M_he c) (M_go c) (M_sp c) (M_ba c) (M_le c) (M_lf c) (M_mo c) (M_un c) (M_ch c) (M_lc c) (M_ac c) (M_bd c)) T)) mX_mk ?_
            refine pk_dV (cx := (mX (zG Z) m rf (M_mk (M_cd c) (M_pt c) (M_mn c) (M_ev c) (M_co c) n3_ (M_re c) n5_ (M_rs c) (M_li c) (M_he c) (M_go c) (M_sp c) (M_ba c) (M_le c) (M_lf c) (M_mo c) (M_un c) (M_ch c) (M_lc c) (M_ac c) (M_bd c)) T)) (wr := []) (X2 := (mX (zG Z) m rf (M_mk (M_cd c) (M_pt c) (M_mn c) (M_ev c) (M_co c) n3_ (M_re c) n5_ (M_rs c) (M_li c) (M_he c) (M_go c) (M_sp c) (M_ba c) (M_le c) (M_lf c) (M_mo c) (M_un c) (M_ch c) (M_lc c) (M_ac c) (M_bd c)) T)) (st := [.long (M_rs c)]) (st2 := [.long (m_X5_book (M_mk (M_cd c) (M_pt c) (M_mn c) (M_ev c) (M_co c) n3_ (M_re c) n5_ (M_rs c) (M_li c) (M_he c) (M_go c) (M_sp c) (M_ba c) (M_le c) (M_lf c) (M_mo c) (M_un c) (M_ch c) (M_lc c) (M_ac c) (M_bd c)) T), .long (M_rs c)]) (As := []) C (c_X5_book (zl Z) (zG Z) L F m rf (M_mk (M_cd c) (M_pt c) (M_mn c) (M_ev c) (M_co c) n3_ (M_re c) n5_ (M_rs c) (M_li c) (M_he c) (M_go c) (M_sp c) (M_ba c) (M_le c) (M_lf c) (M_mo c) (M_un c) (M_ch c) (M_lc c) (M_ac c) (M_bd c)) T) gX5_restores_X5_book rfl rfl rfl 0 (by decide +kernel) ⟨Nat.le_of_ble_eq_true rfl, Nat.le_of_ble_eq_true rfl⟩ (pw_atX 0 rfl) rfl rfl rfl (Nat.le_of_ble_eq_true rfl) ⟨Nat.le_of_ble_eq_true rfl, Nat.le_of_ble_eq_true rfl⟩ [0, 1, 2, 3, 4, 5, 6, 7, 8, 9, 10, 11, 12, 13, 14, 15] [] [0, 1, 2, 3, 4, 5, 6, 7, 8, 9, 10, 11, 12, 13, 14, 15] rfl rfl rfl rfl (by decide) rfl rfl dX5_restores_87 (pc2 := 90) rfl rfl ?_
            refine pw_conv (X' := ((m, kM rf (M_cd c) (M_pt c) (M_mn c) (M_ev c) (M_co c) n3_ (M_re c) n5_ (M_rs c) (M_li c) (M_he c) (M_go c) (M_sp c) (M_ba c) (M_le c) (M_lf c) (M_mo c) (M_un c) (M_ch c) (M_lc c) (M_ac c) (M_bd c)) :: mT (zG Z) rf T)) mX_mk.symm ?_
            refine pk_topl (fun n6_ en6_ => ?_)
            refine pk_lcmp_gt (tgt := 98) C dX5_restores_90 dX5_restores_91 (pc1 := 91) rfl (by decide) (pc2 := 94) rfl (fun h7_ => ?_) (fun h7_ => ?_)
            ·
              refine pk_iconst (v := 0) C dX5_restores_98 (by decide) (pc2 := 99) rfl ?_
              refine pw_conv (X' := (mX (zG Z) m rf (M_mk (M_cd c) (M_pt c) (M_mn c) (M_ev c) (M_co c) n3_ (M_re c) n5_ (M_rs c) (M_li c) (M_he c) (M_go c) (M_sp c) (M_ba c) (M_le c) (M_lf c) (M_mo c) (M_un c) (M_ch c) (M_lc c) (M_ac c) (M_bd c)) T)) mX_mk ?_
              subst en1_ en2_ en3_ en5_ en6_
              exact pr_int (ty := .boolean) C hE rfl rfl (po_d_rfl (by first | with_reducible rfl | (unfold m_X5_restores; rw [if_neg h1_, if_neg h2_, if_neg h3_, if_pos h4_, if_neg h5_, if_pos h7_])) (by first | with_reducible rfl | (unfold m_X5_restores; rw [if_neg h1_, if_neg h2_, if_neg h3_, if_pos h4_, if_neg h5_, if_pos h7_]))) dX5_restores_99
            ·
              refine pk_iconst (v := 1) C dX5_restores_94 (by decide) (pc2 := 95) rfl ?_
              refine pk_goto (tgt := 99) C dX5_restores_95 (by decide) ?_
              refine pw_conv (X' := (mX (zG Z) m rf (M_mk (M_cd c) (M_pt c) (M_mn c) (M_ev c) (M_co c) n3_ (M_re c) n5_ (M_rs c) (M_li c) (M_he c) (M_go c) (M_sp c) (M_ba c) (M_le c) (M_lf c) (M_mo c) (M_un c) (M_ch c) (M_lc c) (M_ac c) (M_bd c)) T)) mX_mk ?_
              subst en1_ en2_ en3_ en5_ en6_
              exact pr_int (ty := .boolean) C hE rfl rfl (po_d_rfl (by first | with_reducible rfl | (unfold m_X5_restores; rw [if_neg h1_, if_neg h2_, if_neg h3_, if_pos h4_, if_neg h5_, if_neg h7_])) (by first | with_reducible rfl | (unfold m_X5_restores; rw [if_neg h1_, if_neg h2_, if_neg h3_, if_pos h4_, if_neg h5_, if_neg h7_]))) dX5_restores_99
        ·
          refine pk_iconst (v := 0) C dX5_restores_44 (by decide) (pc2 := 45) rfl ?_
          subst en1_ en2_
          exact pr_int (ty := .boolean) C hE rfl rfl (po_d_rfl (by first | with_reducible rfl | (unfold m_X5_restores; rw [if_neg h1_, if_neg h2_, if_neg h3_, if_neg h4_])) (by first | with_reducible rfl | (unfold m_X5_restores; rw [if_neg h1_, if_neg h2_, if_neg h3_, if_neg h4_]))) dX5_restores_45
theorem zb_m_X5_restores (c : MR) (T : TR) (v : Int64) (mm : Int32) : (m_X5_restores c T v mm).1 = 0 ∨ (m_X5_restores c T v mm).1 = 1 := by
  unfold m_X5_restores
  repeat (first | split | (exact Or.inl rfl) | (exact Or.inr rfl) | assumption)

def m_X5_values (c : MR) (T : TR) (v : Int64) : MR :=
  if v ≤ (m_X5_book c T) then (M_mk (M_cd (m_X5_fall c T ((m_X5_book c T) - v))) (M_pt (m_X5_fall c T ((m_X5_book c T) - v))) (M_mn (m_X5_fall c T ((m_X5_book c T) - v))) (M_ev (m_X5_fall c T ((m_X5_book c T) - v))) v 0 (M_re (m_X5_fall c T ((m_X5_book c T) - v))) (M_lo (m_X5_fall c T ((m_X5_book c T) - v))) (M_rs (m_X5_fall c T ((m_X5_book c T) - v))) (M_li (m_X5_fall c T ((m_X5_book c T) - v))) (M_he (m_X5_fall c T ((m_X5_book c T) - v))) (M_go (m_X5_fall c T ((m_X5_book c T) - v))) (M_sp (m_X5_fall c T ((m_X5_book c T) - v))) (M_ba (m_X5_fall c T ((m_X5_book c T) - v))) (M_le (m_X5_fall c T ((m_X5_book c T) - v))) (M_lf (m_X5_fall c T ((m_X5_book c T) - v))) (M_mo (m_X5_fall c T ((m_X5_book c T) - v))) (M_un (m_X5_fall c T ((m_X5_book c T) - v))) (M_ch (m_X5_fall c T ((m_X5_book c T) - v))) (M_lc (m_X5_fall c T ((m_X5_book c T) - v))) (M_ac (m_X5_fall c T ((m_X5_book c T) - v))) (M_bd (m_X5_fall c T ((m_X5_book c T) - v)))) else (M_mk (M_cd c) (M_pt c) (M_mn c) (M_ev c) v 0 (((M_re c) + v) - (m_X5_book c T)) (M_lo c) (M_rs c) (M_li c) (M_he c) (M_go c) (M_sp c) (M_ba c) (M_le c) (M_lf c) (M_mo c) (M_un c) (M_ch c) (M_lc c) (M_ac c) (M_bd c))
set_option maxRecDepth 100000 in
set_option maxHeartbeats 2000000 in
theorem c_X5_values (l : Launch) (G : pw_G) (L : List Nat) (F : Nat → va_E) (m : Nat) (rf : Nat → Nat) (c : MR) (T : TR) (v : Int64) : PM l yX5_values wsX5_values ⟨1, 0, 0, 24⟩ G [.ref m, .long v] (mX G m rf c T) L F 0 0 (po_d none (mX G m rf (m_X5_values c T v) T) L F) := by
  refine pm_entry (by decide) rfl rfl (Nat.le_of_ble_eq_true rfl) ?_
  intro Z Q C hl0 hG0 hnm hE
  subst hl0
  subst hG0
  have i5_ : ∀ w ∈ wsX50, w ∈ wsX5_values := by decide +kernel
  have w0_ : Cond.fieldLink RX5 65 "AgedAssetsModel" "cost" "J" ∈ wsX5_values := by decide +kernel
  have w1_ : Cond.fieldLink RX5 69 "AgedAssetsModel" "allowance" "J" ∈ wsX5_values := by decide +kernel
  have w2_ : Cond.fieldLink RX5 106 "AgedAssetsModel" "reserve" "J" ∈ wsX5_values := by decide +kernel
  show PW Z (mX (zG Z) m rf c T) L F 0 0 Q 0 [(0, .ref m), (1, .long v)] []
  refine pk_lload_n C 1 dX5_values_0 rfl rfl (pc2 := 1) rfl ?_
  refine pk_aload_n C 0 dX5_values_1 rfl rfl (pc2 := 2) rfl ?_
  refine pk_dV (cx := (mX (zG Z) m rf c T)) (wr := []) (X2 := (mX (zG Z) m rf c T)) (st := [.long v]) (st2 := [.long (m_X5_book c T), .long v]) (As := []) C (c_X5_book (zl Z) (zG Z) L F m rf c T) gX5_values_X5_book rfl rfl rfl 0 (by decide +kernel) ⟨Nat.le_of_ble_eq_true rfl, Nat.le_of_ble_eq_true rfl⟩ (pw_atX 0 rfl) rfl rfl rfl (Nat.le_of_ble_eq_true rfl) ⟨Nat.le_of_ble_eq_true rfl, Nat.le_of_ble_eq_true rfl⟩ [0, 1, 2, 3, 4, 5, 6, 7, 8, 9, 10, 11, 12, 13, 14, 15] [] [0, 1, 2, 3, 4, 5, 6, 7, 8, 9, 10, 11, 12, 13, 14, 15] rfl rfl rfl rfl (by decide) rfl rfl dX5_values_2 (pc2 := 5) rfl rfl ?_
  refine pk_topl (fun n1_ en1_ => ?_)
  refine pk_lcmp_le (tgt := 27) C dX5_values_5 dX5_values_6 (pc1 := 6) rfl (by decide) (pc2 := 9) rfl (fun h1_ => ?_) (fun h1_ => ?_)
  ·
    refine pk_aload_n C 0 dX5_values_27 rfl rfl (pc2 := 28) rfl ?_
    refine pk_aload_n C 0 dX5_values_28 rfl rfl (pc2 := 29) rfl ?_
    refine pk_dV (cx := (mX (zG Z) m rf c T)) (wr := []) (X2 := (mX (zG Z) m rf c T)) (st := [.ref m]) (st2 := [.long (m_X5_book c T), .ref m]) (As := []) C (c_X5_book (zl Z) (zG Z) L F m rf c T) gX5_values_X5_book rfl rfl rfl 0 (by decide +kernel) ⟨Nat.le_of_ble_eq_true rfl, Nat.le_of_ble_eq_true rfl⟩ (pw_atX 0 rfl) rfl rfl rfl (Nat.le_of_ble_eq_true rfl) ⟨Nat.le_of_ble_eq_true rfl, Nat.le_of_ble_eq_true rfl⟩ [0, 1, 2, 3, 4, 5, 6, 7, 8, 9, 10, 11, 12, 13, 14, 15] [] [0, 1, 2, 3, 4, 5, 6, 7, 8, 9, 10, 11, 12, 13, 14, 15] rfl rfl rfl rfl (by decide) rfl rfl dX5_values_29 (pc2 := 32) rfl rfl ?_
    refine pk_topl (fun n2_ en2_ => ?_)
    refine pk_lload_n C 1 dX5_values_32 rfl rfl (pc2 := 33) rfl ?_
    refine pk_lsub C dX5_values_33 (pc2 := 34) rfl ?_
    refine pk_dV (cx := (mX (zG Z) m rf c T)) (wr := []) (X2 := (mX (zG Z) m rf (m_X5_fall c T (n2_ - v)) T)) (st := []) (st2 := []) (As := [.long (n2_ - v)]) C (c_X5_fall (zl Z) (zG Z) L F m rf c T (n2_ - v)) gX5_values_X5_fall rfl rfl rfl 1 (by decide +kernel) ⟨Nat.le_of_ble_eq_true rfl, Nat.le_of_ble_eq_true rfl⟩ (pw_atX 0 rfl) rfl rfl rfl (Nat.le_of_ble_eq_true rfl) ⟨Nat.le_of_ble_eq_true rfl, Nat.le_of_ble_eq_true rfl⟩ [0, 1, 2, 3, 4, 5, 6, 7, 8, 9, 10, 11, 12, 13, 14, 15] [] [0, 1, 2, 3, 4, 5, 6, 7, 8, 9, 10, 11, 12, 13, 14, 15] rfl rfl rfl rfl (by decide) rfl rfl dX5_values_34 (pc2 := 37) rfl rfl ?_
    generalize en3_ : (m_X5_fall c T (n2_ - v)) = n3_
    refine pk_aload_n C 0 dX5_values_37 rfl rfl (pc2 := 38) rfl ?_
    refine pk_lload_n C 1 dX5_values_38 rfl rfl (pc2 := 39) rfl ?_
    refine pk_putX (X' := ((m, kM rf (M_cd n3_) (M_pt n3_) (M_mn n3_) (M_ev n3_) v (M_al n3_) (M_re n3_) (M_lo n3_) (M_rs n3_) (M_li n3_) (M_he n3_) (M_go n3_) (M_sp n3_) (M_ba n3_) (M_le n3_) (M_lf n3_) (M_mo n3_) (M_un n3_) (M_ch n3_) (M_lc n3_) (M_ac n3_) (M_bd n3_)) :: mT (zG Z) rf T)) C i5_ tyX5_ok nmX5 0 rfl (ci := 5) rfl 17 (by decide) w0_ rfl rfl rfl rfl rfl (Nat.le_of_ble_eq_true rfl) rfl dX5_values_39 (pc2 := 42) rfl ?_
    refine pk_aload_n C 0 dX5_values_42 rfl rfl (pc2 := 43) rfl ?_
    refine pk_lconst (v := 0) C dX5_values_43 (by decide) (pc2 := 44) rfl ?_
    refine pk_putX (X' := ((m, kM rf (M_cd n3_) (M_pt n3_) (M_mn n3_) (M_ev n3_) v 0 (M_re n3_) (M_lo n3_) (M_rs n3_) (M_li n3_) (M_he n3_) (M_go n3_) (M_sp n3_) (M_ba n3_) (M_le n3_) (M_lf n3_) (M_mo n3_) (M_un n3_) (M_ch n3_) (M_lc n3_) (M_ac n3_) (M_bd n3_)) :: mT (zG Z) rf T)) C i5_ tyX5_ok nmX5 0 rfl (ci := 5) rfl 18 (by decide) w1_ rfl rfl rfl rfl rfl (Nat.le_of_ble_eq_true rfl) rfl dX5_values_44 (pc2 := 47) rfl ?_
    refine pw_conv (X' := (mX (zG Z) m rf (M_mk (M_cd n3_) (M_pt n3_) (M_mn n3_) (M_ev n3_) v 0 (M_re n3_) (M_lo n3_) (M_rs n3_) (M_li n3_) (M_he n3_) (M_go n3_) (M_sp n3_) (M_ba n3_) (M_le n3_) (M_lf n3_) (M_mo n3_) (M_un n3_) (M_ch n3_) (M_lc n3_) (M_ac n3_) (M_bd n3_)) T)) mX_mk ?_
    subst en1_ en2_ en3_
    exact pr_void C hE (po_d_rfl rfl (by first | with_reducible rfl | (unfold m_X5_values; rw [if_pos h1_]))) dX5_values_47
  ·
    refine pk_aload_n C 0 dX5_values_9 rfl rfl (pc2 := 10) rfl ?_
    refine pk_aload_n C 0 dX5_values_10 rfl rfl (pc2 := 11) rfl ?_
    refine pk_get (v := .long (M_re c)) C i5_ (pw_atX 0 rfl) (ci := 5) rfl 19 (by decide) w2_ rfl rfl dX5_values_11 (pc2 := 14) rfl ?_
    refine pk_lload_n C 1 dX5_values_14 rfl rfl (pc2 := 15) rfl ?_
    refine pk_ladd C dX5_values_15 (pc2 := 16) rfl ?_
    refine pk_aload_n C 0 dX5_values_16 rfl rfl (pc2 := 17) rfl ?_
    refine pk_dV (cx := (mX (zG Z) m rf c T)) (wr := []) (X2 := (mX (zG Z) m rf c T)) (st := [.long ((M_re c) + v), .ref m]) (st2 := [.long (m_X5_book c T), .long ((M_re c) + v), .ref m]) (As := []) C (c_X5_book (zl Z) (zG Z) L F m rf c T) gX5_values_X5_book rfl rfl rfl 0 (by decide +kernel) ⟨Nat.le_of_ble_eq_true rfl, Nat.le_of_ble_eq_true rfl⟩ (pw_atX 0 rfl) rfl rfl rfl (Nat.le_of_ble_eq_true rfl) ⟨Nat.le_of_ble_eq_true rfl, Nat.le_of_ble_eq_true rfl⟩ [0, 1, 2, 3, 4, 5, 6, 7, 8, 9, 10, 11, 12, 13, 14, 15] [] [0, 1, 2, 3, 4, 5, 6, 7, 8, 9, 10, 11, 12, 13, 14, 15] rfl rfl rfl rfl (by decide) rfl rfl dX5_values_17 (pc2 := 20) rfl rfl ?_
    refine pk_topl (fun n4_ en4_ => ?_)
    refine pk_lsub C dX5_values_20 (pc2 := 21) rfl ?_
    refine pk_topl (fun n5_ en5_ => ?_)
    refine pk_putX (X' := ((m, kM rf (M_cd c) (M_pt c) (M_mn c) (M_ev c) (M_co c) (M_al c) n5_ (M_lo c) (M_rs c) (M_li c) (M_he c) (M_go c) (M_sp c) (M_ba c) (M_le c) (M_lf c) (M_mo c) (M_un c) (M_ch c) (M_lc c) (M_ac c) (M_bd c)) :: mT (zG Z) rf T)) C i5_ tyX5_ok nmX5 0 rfl (ci := 5) rfl 19 (by decide) w2_ rfl rfl rfl rfl rfl (Nat.le_of_ble_eq_true rfl) rfl dX5_values_21 (pc2 := 24) rfl ?_
    refine pk_goto (tgt := 37) C dX5_values_24 (by decide) ?_
    refine pk_aload_n C 0 dX5_values_37 rfl rfl (pc2 := 38) rfl ?_
    refine pk_lload_n C 1 dX5_values_38 rfl rfl (pc2 := 39) rfl ?_
    refine pk_putX (X' := ((m, kM rf (M_cd c) (M_pt c) (M_mn c) (M_ev c) v (M_al c) n5_ (M_lo c) (M_rs c) (M_li c) (M_he c) (M_go c) (M_sp c) (M_ba c) (M_le c) (M_lf c) (M_mo c) (M_un c) (M_ch c) (M_lc c) (M_ac c) (M_bd c)) :: mT (zG Z) rf T)) C i5_ tyX5_ok nmX5 0 rfl (ci := 5) rfl 17 (by decide) w0_ rfl rfl rfl rfl rfl (Nat.le_of_ble_eq_true rfl) rfl dX5_values_39 (pc2 := 42) rfl ?_
    refine pk_aload_n C 0 dX5_values_42 rfl rfl (pc2 := 43) rfl ?_
    refine pk_lconst (v := 0) C dX5_values_43 (by decide) (pc2 := 44) rfl ?_
    refine pk_putX (X' := ((m, kM rf (M_cd c) (M_pt c) (M_mn c) (M_ev c) v 0 n5_ (M_lo c) (M_rs c) (M_li c) (M_he c) (M_go c) (M_sp c) (M_ba c) (M_le c) (M_lf c) (M_mo c) (M_un c) (M_ch c) (M_lc c) (M_ac c) (M_bd c)) :: mT (zG Z) rf T)) C i5_ tyX5_ok nmX5 0 rfl (ci := 5) rfl 18 (by decide) w1_ rfl rfl rfl rfl rfl (Nat.le_of_ble_eq_true rfl) rfl dX5_values_44 (pc2 := 47) rfl ?_
    refine pw_conv (X' := (mX (zG Z) m rf (M_mk (M_cd c) (M_pt c) (M_mn c) (M_ev c) v 0 n5_ (M_lo c) (M_rs c) (M_li c) (M_he c) (M_go c) (M_sp c) (M_ba c) (M_le c) (M_lf c) (M_mo c) (M_un c) (M_ch c) (M_lc c) (M_ac c) (M_bd c)) T)) mX_mk ?_
    subst en1_ en4_ en5_
    exact pr_void C hE (po_d_rfl rfl (by first | with_reducible rfl | (unfold m_X5_values; rw [if_neg h1_]))) dX5_values_47
def m_X5_less (x : Int64) (n : Int32) : Int64 :=
  (x - (m_X5_rounded (x * (Int32.toInt64 n)) (1000000)))
set_option maxRecDepth 100000 in
set_option maxHeartbeats 2000000 in
theorem c_X5_less (l : Launch) (G : pw_G) (L : List Nat) (F : Nat → va_E)  (x : Int64) (n : Int32) : PM l yX5_less wsX5_less ⟨1, 0, 0, 23⟩ G [.long x, .int n] [] L F 0 0 (po_d (some (.long (m_X5_less x n))) [] L F) := by
  refine pm_entry (by decide) rfl rfl (Nat.le_of_ble_eq_true rfl) ?_
  intro Z Q C hl0 hG0 hnm hE
  subst hl0
  subst hG0
  have w0_ : Cond.constantLong RX5 119 (1000000) ∈ wsX5_less := by decide +kernel
  show PW Z [] L F 0 0 Q 0 [(0, .long x), (2, .int n)] []
  refine pk_lload_n C 0 dX5_less_0 rfl rfl (pc2 := 1) rfl ?_
  refine pk_lload_n C 0 dX5_less_1 rfl rfl (pc2 := 2) rfl ?_
  refine pk_iload_n C 1 dX5_less_2 rfl rfl (pc2 := 3) rfl ?_
  refine pk_i2l C dX5_less_3 (pc2 := 4) rfl ?_
  refine pk_lmul C dX5_less_4 (pc2 := 5) rfl ?_
  refine pk_ldc2 C w0_ dX5_less_5 (pc2 := 8) rfl ?_
  refine pk_dS (cx := []) (wr := []) (X2 := []) (st := [.long x]) (st2 := [.long (m_X5_rounded (x * (Int32.toInt64 n)) (1000000)), .long x]) (As := [.long (x * (Int32.toInt64 n)), .long (1000000)]) C (c_X5_rounded (zl Z) (zG Z) L F (x * (Int32.toInt64 n)) (1000000) (by decide)) gX5_less_X5_rounded rfl rfl rfl 2 (by decide +kernel) ⟨Nat.le_of_ble_eq_true rfl, Nat.le_of_ble_eq_true rfl⟩ rfl rfl (Nat.le_of_ble_eq_true rfl) ⟨Nat.le_of_ble_eq_true rfl, Nat.le_of_ble_eq_true rfl⟩ [] [] [] rfl rfl rfl rfl (by decide) rfl rfl dX5_less_8 (pc2 := 11) rfl rfl ?_
  refine pk_topl (fun n1_ en1_ => ?_)
  refine pk_lsub C dX5_less_11 (pc2 := 12) rfl ?_
  subst en1_
  exact pr_long C hE (po_d_rfl (by first | with_reducible rfl | (unfold m_X5_less; with_reducible rfl)) (by first | with_reducible rfl | (unfold m_X5_less; with_reducible rfl))) dX5_less_12
def m_X5_sells (c : MR) (T : TR) (n : Int32) : MR :=
  if n = (1000000) then (M_mk (M_cd c) (M_pt c) (M_mn c) (M_ev c) (m_X5_less (M_co c) n) (m_X5_less (M_al c) n) (m_X5_less (M_re c) n) (M_lo c) (m_X5_less (M_rs c) n) (M_li c) (M_he c) 1 (M_sp c) (M_ba c) (M_le c) (M_lf c) (M_mo c) (M_un c) (M_ch c) (M_lc c) (M_ac c) (M_bd c)) else (M_mk (M_cd c) (M_pt c) (M_mn c) (M_ev c) (m_X5_less (M_co c) n) (m_X5_less (M_al c) n) (m_X5_less (M_re c) n) (M_lo c) (m_X5_less (M_rs c) n) (M_li c) (M_he c) 0 (M_sp c) (M_ba c) (M_le c) (M_lf c) (M_mo c) (M_un c) (M_ch c) (M_lc c) (M_ac c) (M_bd c))
set_option maxRecDepth 100000 in
set_option maxHeartbeats 2000000 in
theorem c_X5_sells (l : Launch) (G : pw_G) (L : List Nat) (F : Nat → va_E) (m : Nat) (rf : Nat → Nat) (c : MR) (T : TR) (n : Int32) : PM l yX5_sells wsX5_sells ⟨2, 0, 0, 45⟩ G [.ref m, .int n] (mX G m rf c T) L F 0 0 (po_d none (mX G m rf (m_X5_sells c T n) T) L F) := by
  refine pm_entry (by decide) rfl rfl (Nat.le_of_ble_eq_true rfl) ?_
  intro Z Q C hl0 hG0 hnm hE
  subst hl0
  subst hG0
  have i5_ : ∀ w ∈ wsX50, w ∈ wsX5_sells := by decide +kernel
  have w0_ : Cond.fieldLink RX5 65 "AgedAssetsModel" "cost" "J" ∈ wsX5_sells := by decide +kernel
  have w1_ : Cond.fieldLink RX5 69 "AgedAssetsModel" "allowance" "J" ∈ wsX5_sells := by decide +kernel
  have w2_ : Cond.fieldLink RX5 106 "AgedAssetsModel" "reserve" "J" ∈ wsX5_sells := by decide +kernel
  have w3_ : Cond.fieldLink RX5 79 "AgedAssetsModel" "residual" "J" ∈ wsX5_sells := by decide +kernel
  have w4_ : Cond.constant RX5 129 (1000000) ∈ wsX5_sells := by decide +kernel
  have w5_ : Cond.fieldLink RX5 130 "AgedAssetsModel" "gone" "Z" ∈ wsX5_sells := by decide +kernel
  show PW Z (mX (zG Z) m rf c T) L F 0 0 Q 0 [(0, .ref m), (1, .int n)] []
  refine pk_aload_n C 0 dX5_sells_0 rfl rfl (pc2 := 1) rfl ?_
  refine pk_aload_n C 0 dX5_sells_1 rfl rfl (pc2 := 2) rfl ?_
  refine pk_get (v := .long (M_co c)) C i5_ (pw_atX 0 rfl) (ci := 5) rfl 17 (by decide) w0_ rfl rfl dX5_sells_2 (pc2 := 5) rfl ?_
  refine pk_iload_n C 1 dX5_sells_5 rfl rfl (pc2 := 6) rfl ?_
  refine pk_dS (cx := []) (wr := (mX (zG Z) m rf c T)) (X2 := (mX (zG Z) m rf c T)) (st := [.ref m]) (st2 := [.long (m_X5_less (M_co c) n), .ref m]) (As := [.long (M_co c), .int n]) C (c_X5_less (zl Z) (zG Z) L F (M_co c) n) gX5_sells_X5_less rfl rfl rfl 2 (by decide +kernel) ⟨Nat.le_of_ble_eq_true rfl, Nat.le_of_ble_eq_true rfl⟩ rfl rfl (Nat.le_of_ble_eq_true rfl) ⟨Nat.le_of_ble_eq_true rfl, Nat.le_of_ble_eq_true rfl⟩ [] [0, 1, 2, 3, 4, 5, 6, 7, 8, 9, 10, 11, 12, 13, 14, 15] [0, 1, 2, 3, 4, 5, 6, 7, 8, 9, 10, 11, 12, 13, 14, 15] rfl rfl rfl rfl (by decide) rfl rfl dX5_sells_6 (pc2 := 9) rfl rfl ?_
  refine pk_topl (fun n1_ en1_ => ?_)
  refine pk_putX (X' := ((m, kM rf (M_cd c) (M_pt c) (M_mn c) (M_ev c) n1_ (M_al c) (M_re c) (M_lo c) (M_rs c) (M_li c) (M_he c) (M_go c) (M_sp c) (M_ba c) (M_le c) (M_lf c) (M_mo c) (M_un c) (M_ch c) (M_lc c) (M_ac c) (M_bd c)) :: mT (zG Z) rf T)) C i5_ tyX5_ok nmX5 0 rfl (ci := 5) rfl 17 (by decide) w0_ rfl rfl rfl rfl rfl (Nat.le_of_ble_eq_true rfl) rfl dX5_sells_9 (pc2 := 12) rfl ?_
  refine pk_aload_n C 0 dX5_sells_12 rfl rfl (pc2 := 13) rfl ?_
  refine pk_aload_n C 0 dX5_sells_13 rfl rfl (pc2 := 14) rfl ?_
  refine pk_get (v := .long (M_al c)) C i5_ (pw_atX 0 rfl) (ci := 5) rfl 18 (by decide) w1_ rfl rfl dX5_sells_14 (pc2 := 17) rfl ?_
  refine pk_iload_n C 1 dX5_sells_17 rfl rfl (pc2 := 18) rfl ?_
  refine pk_dS (cx := []) (wr := ((m, kM rf (M_cd c) (M_pt c) (M_mn c) (M_ev c) n1_ (M_al c) (M_re c) (M_lo c) (M_rs c) (M_li c) (M_he c) (M_go c) (M_sp c) (M_ba c) (M_le c) (M_lf c) (M_mo c) (M_un c) (M_ch c) (M_lc c) (M_ac c) (M_bd c)) :: mT (zG Z) rf T)) (X2 := ((m, kM rf (M_cd c) (M_pt c) (M_mn c) (M_ev c) n1_ (M_al c) (M_re c) (M_lo c) (M_rs c) (M_li c) (M_he c) (M_go c) (M_sp c) (M_ba c) (M_le c) (M_lf c) (M_mo c) (M_un c) (M_ch c) (M_lc c) (M_ac c) (M_bd c)) :: mT (zG Z) rf T)) (st := [.ref m]) (st2 := [.long (m_X5_less (M_al c) n), .ref m]) (As := [.long (M_al c), .int n]) C (c_X5_less (zl Z) (zG Z) L F (M_al c) n) gX5_sells_X5_less rfl rfl rfl 2 (by decide +kernel) ⟨Nat.le_of_ble_eq_true rfl, Nat.le_of_ble_eq_true rfl⟩ rfl rfl (Nat.le_of_ble_eq_true rfl) ⟨Nat.le_of_ble_eq_true rfl, Nat.le_of_ble_eq_true rfl⟩ [] [0, 1, 2, 3, 4, 5, 6, 7, 8, 9, 10, 11, 12, 13, 14, 15] [0, 1, 2, 3, 4, 5, 6, 7, 8, 9, 10, 11, 12, 13, 14, 15] rfl rfl rfl rfl (by decide) rfl rfl dX5_sells_18 (pc2 := 21) rfl rfl ?_
  refine pk_topl (fun n2_ en2_ => ?_)
  refine pk_putX (X' := ((m, kM rf (M_cd c) (M_pt c) (M_mn c) (M_ev c) n1_ n2_ (M_re c) (M_lo c) (M_rs c) (M_li c) (M_he c) (M_go c) (M_sp c) (M_ba c) (M_le c) (M_lf c) (M_mo c) (M_un c) (M_ch c) (M_lc c) (M_ac c) (M_bd c)) :: mT (zG Z) rf T)) C i5_ tyX5_ok nmX5 0 rfl (ci := 5) rfl 18 (by decide) w1_ rfl rfl rfl rfl rfl (Nat.le_of_ble_eq_true rfl) rfl dX5_sells_21 (pc2 := 24) rfl ?_
  refine pk_aload_n C 0 dX5_sells_24 rfl rfl (pc2 := 25) rfl ?_
  refine pk_aload_n C 0 dX5_sells_25 rfl rfl (pc2 := 26) rfl ?_
  refine pk_get (v := .long (M_re c)) C i5_ (pw_atX 0 rfl) (ci := 5) rfl 19 (by decide) w2_ rfl rfl dX5_sells_26 (pc2 := 29) rfl ?_
  refine pk_iload_n C 1 dX5_sells_29 rfl rfl (pc2 := 30) rfl ?_
  refine pk_dS (cx := []) (wr := ((m, kM rf (M_cd c) (M_pt c) (M_mn c) (M_ev c) n1_ n2_ (M_re c) (M_lo c) (M_rs c) (M_li c) (M_he c) (M_go c) (M_sp c) (M_ba c) (M_le c) (M_lf c) (M_mo c) (M_un c) (M_ch c) (M_lc c) (M_ac c) (M_bd c)) :: mT (zG Z) rf T)) (X2 := ((m, kM rf (M_cd c) (M_pt c) (M_mn c) (M_ev c) n1_ n2_ (M_re c) (M_lo c) (M_rs c) (M_li c) (M_he c) (M_go c) (M_sp c) (M_ba c) (M_le c) (M_lf c) (M_mo c) (M_un c) (M_ch c) (M_lc c) (M_ac c) (M_bd c)) :: mT (zG Z) rf T)) (st := [.ref m]) (st2 := [.long (m_X5_less (M_re c) n), .ref m]) (As := [.long (M_re c), .int n]) C (c_X5_less (zl Z) (zG Z) L F (M_re c) n) gX5_sells_X5_less rfl rfl rfl 2 (by decide +kernel) ⟨Nat.le_of_ble_eq_true rfl, Nat.le_of_ble_eq_true rfl⟩ rfl rfl (Nat.le_of_ble_eq_true rfl) ⟨Nat.le_of_ble_eq_true rfl, Nat.le_of_ble_eq_true rfl⟩ [] [0, 1, 2, 3, 4, 5, 6, 7, 8, 9, 10, 11, 12, 13, 14, 15] [0, 1, 2, 3, 4, 5, 6, 7, 8, 9, 10, 11, 12, 13, 14, 15] rfl rfl rfl rfl (by decide) rfl rfl dX5_sells_30 (pc2 := 33) rfl rfl ?_
  refine pk_topl (fun n3_ en3_ => ?_)
  refine pk_putX (X' := ((m, kM rf (M_cd c) (M_pt c) (M_mn c) (M_ev c) n1_ n2_ n3_ (M_lo c) (M_rs c) (M_li c) (M_he c) (M_go c) (M_sp c) (M_ba c) (M_le c) (M_lf c) (M_mo c) (M_un c) (M_ch c) (M_lc c) (M_ac c) (M_bd c)) :: mT (zG Z) rf T)) C i5_ tyX5_ok nmX5 0 rfl (ci := 5) rfl 19 (by decide) w2_ rfl rfl rfl rfl rfl (Nat.le_of_ble_eq_true rfl) rfl dX5_sells_33 (pc2 := 36) rfl ?_
  refine pk_aload_n C 0 dX5_sells_36 rfl rfl (pc2 := 37) rfl ?_
  refine pk_aload_n C 0 dX5_sells_37 rfl rfl (pc2 := 38) rfl ?_
  refine pk_get (v := .long (M_rs c)) C i5_ (pw_atX 0 rfl) (ci := 5) rfl 21 (by decide) w3_ rfl rfl dX5_sells_38 (pc2 := 41) rfl ?_
  refine pk_iload_n C 1 dX5_sells_41 rfl rfl (pc2 := 42) rfl ?_
  refine pk_dS (cx := []) (wr := ((m, kM rf (M_cd c) (M_pt c) (M_mn c) (M_ev c) n1_ n2_ n3_ (M_lo c) (M_rs c) (M_li c) (M_he c) (M_go c) (M_sp c) (M_ba c) (M_le c) (M_lf c) (M_mo c) (M_un c) (M_ch c) (M_lc c) (M_ac c) (M_bd c)) :: mT (zG Z) rf T)) (X2 := ((m, kM rf (M_cd c) (M_pt c) (M_mn c) (M_ev c) n1_ n2_ n3_ (M_lo c) (M_rs c) (M_li c) (M_he c) (M_go c) (M_sp c) (M_ba c) (M_le c) (M_lf c) (M_mo c) (M_un c) (M_ch c) (M_lc c) (M_ac c) (M_bd c)) :: mT (zG Z) rf T)) (st := [.ref m]) (st2 := [.long (m_X5_less (M_rs c) n), .ref m]) (As := [.long (M_rs c), .int n]) C (c_X5_less (zl Z) (zG Z) L F (M_rs c) n) gX5_sells_X5_less rfl rfl rfl 2 (by decide +kernel) ⟨Nat.le_of_ble_eq_true rfl, Nat.le_of_ble_eq_true rfl⟩ rfl rfl (Nat.le_of_ble_eq_true rfl) ⟨Nat.le_of_ble_eq_true rfl, Nat.le_of_ble_eq_true rfl⟩ [] [0, 1, 2, 3, 4, 5, 6, 7, 8, 9, 10, 11, 12, 13, 14, 15] [0, 1, 2, 3, 4, 5, 6, 7, 8, 9, 10, 11, 12, 13, 14, 15] rfl rfl rfl rfl (by decide) rfl rfl dX5_sells_42 (pc2 := 45) rfl rfl ?_
  refine pk_topl (fun n4_ en4_ => ?_)
  refine pk_putX (X' := ((m, kM rf (M_cd c) (M_pt c) (M_mn c) (M_ev c) n1_ n2_ n3_ (M_lo c) n4_ (M_li c) (M_he c) (M_go c) (M_sp c) (M_ba c) (M_le c) (M_lf c) (M_mo c) (M_un c) (M_ch c) (M_lc c) (M_ac c) (M_bd c)) :: mT (zG Z) rf T)) C i5_ tyX5_ok nmX5 0 rfl (ci := 5) rfl 21 (by decide) w3_ rfl rfl rfl rfl rfl (Nat.le_of_ble_eq_true rfl) rfl dX5_sells_45 (pc2 := 48) rfl ?_
  refine pk_aload_n C 0 dX5_sells_48 rfl rfl (pc2 := 49) rfl ?_
  refine pk_iload_n C 1 dX5_sells_49 rfl rfl (pc2 := 50) rfl ?_
  refine pk_ldc C w4_ dX5_sells_50 (pc2 := 52) rfl ?_
  refine pk_icmp_ne (tgt := 59) C dX5_sells_52 (by decide) (pc2 := 55) rfl (fun h1_ => ?_) (fun h1_ => ?_)
  ·
    refine pk_iconst (v := 0) C dX5_sells_59 (by decide) (pc2 := 60) rfl ?_
    refine pk_putX (X' := ((m, kM rf (M_cd c) (M_pt c) (M_mn c) (M_ev c) n1_ n2_ n3_ (M_lo c) n4_ (M_li c) (M_he c) 0 (M_sp c) (M_ba c) (M_le c) (M_lf c) (M_mo c) (M_un c) (M_ch c) (M_lc c) (M_ac c) (M_bd c)) :: mT (zG Z) rf T)) C i5_ tyX5_ok nmX5 0 rfl (ci := 5) rfl 24 (by decide) w5_ rfl rfl rfl rfl rfl (Nat.le_of_ble_eq_true rfl) rfl dX5_sells_60 (pc2 := 63) rfl ?_
    refine pw_conv (X' := (mX (zG Z) m rf (M_mk (M_cd c) (M_pt c) (M_mn c) (M_ev c) n1_ n2_ n3_ (M_lo c) n4_ (M_li c) (M_he c) 0 (M_sp c) (M_ba c) (M_le c) (M_lf c) (M_mo c) (M_un c) (M_ch c) (M_lc c) (M_ac c) (M_bd c)) T)) mX_mk ?_
    subst en1_ en2_ en3_ en4_
    exact pr_void C hE (po_d_rfl rfl (by first | with_reducible rfl | (unfold m_X5_sells; rw [if_neg h1_]))) dX5_sells_63
  ·
    refine pk_iconst (v := 1) C dX5_sells_55 (by decide) (pc2 := 56) rfl ?_
    refine pk_goto (tgt := 60) C dX5_sells_56 (by decide) ?_
    refine pk_putX (X' := ((m, kM rf (M_cd c) (M_pt c) (M_mn c) (M_ev c) n1_ n2_ n3_ (M_lo c) n4_ (M_li c) (M_he c) 1 (M_sp c) (M_ba c) (M_le c) (M_lf c) (M_mo c) (M_un c) (M_ch c) (M_lc c) (M_ac c) (M_bd c)) :: mT (zG Z) rf T)) C i5_ tyX5_ok nmX5 0 rfl (ci := 5) rfl 24 (by decide) w5_ rfl rfl rfl rfl rfl (Nat.le_of_ble_eq_true rfl) rfl dX5_sells_60 (pc2 := 63) rfl ?_
    refine pw_conv (X' := (mX (zG Z) m rf (M_mk (M_cd c) (M_pt c) (M_mn c) (M_ev c) n1_ n2_ n3_ (M_lo c) n4_ (M_li c) (M_he c) 1 (M_sp c) (M_ba c) (M_le c) (M_lf c) (M_mo c) (M_un c) (M_ch c) (M_lc c) (M_ac c) (M_bd c)) T)) mX_mk ?_
    subst en1_ en2_ en3_ en4_
    exact pr_void C hE (po_d_rfl rfl (by first | with_reducible rfl | (unfold m_X5_sells; rw [if_pos h1_]))) dX5_sells_63

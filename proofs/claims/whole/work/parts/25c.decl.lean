theorem wo_0 {m : MR} {T : TR} {p mm : Int32} (h : ¬ M_he m = 0 ∨ ¬ M_go m = 0 ∨ M_li m = 0) : m_X5_writeOff m T p mm = (M_mk (M_cd m) (M_pt m) (M_mn m) (M_ev m) (M_co m) (M_al m) (M_re m) (M_lo m) (M_rs m) (M_li m) (M_he m) (M_go m) (M_sp m) (M_ba m) (M_le m) (M_lf m) (M_mo m) (M_un m) (M_ch m) 0 (M_ac m) (M_bd m)) := by
  unfold m_X5_writeOff
  by_cases h1 : M_he m = 0
  · by_cases h2 : M_go m = 0
    · have h3 : M_li m = 0 := by rcases h with z | z | z; exact absurd h1 z; exact absurd h2 z; exact z
      rw [if_pos h1, if_pos h2, if_pos h3]
    · rw [if_pos h1, if_neg h2]
  · rw [if_neg h1]
theorem wo_1 {m : MR} {T : TR} {p mm : Int32} (h1 : M_he m = 0) (h2 : M_go m = 0) (h3 : ¬ M_li m = 0) (h4 : T_me T (Int32.toNatClampNeg p) = 1) : m_X5_writeOff m T p mm = (M_mk (M_cd m) (M_pt m) (M_mn m) (M_ev m) (M_co m) (M_al m + (m_X5_declining (M_mk (M_cd m) (M_pt m) (M_mn m) (M_ev m) (M_co m) (M_al m) (M_re m) (M_lo m) (M_rs m) (M_li m - 1) (M_he m) (M_go m) (M_sp m) (M_ba m) (M_le m) (M_lf m) (M_mo m + 1) (M_un m) (M_ch m) 0 (M_ac m) (M_bd m)) T p (M_li m - 1 + 1))) (M_re m) (M_lo m) (M_rs m) (M_li m - 1) (M_he m) (M_go m) (M_sp m) (M_ba m) (M_le m) (M_lf m) (M_mo m + 1) (M_un m) (M_ch m) (m_X5_declining (M_mk (M_cd m) (M_pt m) (M_mn m) (M_ev m) (M_co m) (M_al m) (M_re m) (M_lo m) (M_rs m) (M_li m - 1) (M_he m) (M_go m) (M_sp m) (M_ba m) (M_le m) (M_lf m) (M_mo m + 1) (M_un m) (M_ch m) 0 (M_ac m) (M_bd m)) T p (M_li m - 1 + 1)) (M_ac m + (m_X5_declining (M_mk (M_cd m) (M_pt m) (M_mn m) (M_ev m) (M_co m) (M_al m) (M_re m) (M_lo m) (M_rs m) (M_li m - 1) (M_he m) (M_go m) (M_sp m) (M_ba m) (M_le m) (M_lf m) (M_mo m + 1) (M_un m) (M_ch m) 0 (M_ac m) (M_bd m)) T p (M_li m - 1 + 1))) (M_bd m)) := by
  unfold m_X5_writeOff
  rw [if_pos h1, if_pos h2, if_neg h3, if_neg (by rw [h4]; decide), if_pos h4]
theorem wo_02 {m : MR} {T : TR} {p mm : Int32} (h1 : M_he m = 0) (h2 : M_go m = 0) (h3 : ¬ M_li m = 0) (h4 : ¬ T_me T (Int32.toNatClampNeg p) = 3) (h5 : ¬ T_me T (Int32.toNatClampNeg p) = 1) : m_X5_writeOff m T p mm = (M_mk (M_cd m) (M_pt m) (M_mn m) (M_ev m) (M_co m) (M_al m + ((m_X5_together (M_mk (M_cd m) (M_pt m) (M_mn m) (M_ev m) (M_co m) (M_al m) (M_re m) (M_lo m) (M_rs m) (M_li m - 1) (M_he m) (M_go m) (M_sp m) (M_ba m) (M_le m) (M_lf m) (M_mo m + 1) (M_un m) (M_ch m) 0 (M_ac m) (M_bd m)) T p) - M_ch m)) (M_re m) (M_lo m) (M_rs m) (M_li m - 1) (M_he m) (M_go m) (M_sp m) (M_ba m) (M_le m) (M_lf m) (M_mo m + 1) (M_un m) (m_X5_together (M_mk (M_cd m) (M_pt m) (M_mn m) (M_ev m) (M_co m) (M_al m) (M_re m) (M_lo m) (M_rs m) (M_li m - 1) (M_he m) (M_go m) (M_sp m) (M_ba m) (M_le m) (M_lf m) (M_mo m + 1) (M_un m) (M_ch m) 0 (M_ac m) (M_bd m)) T p) ((m_X5_together (M_mk (M_cd m) (M_pt m) (M_mn m) (M_ev m) (M_co m) (M_al m) (M_re m) (M_lo m) (M_rs m) (M_li m - 1) (M_he m) (M_go m) (M_sp m) (M_ba m) (M_le m) (M_lf m) (M_mo m + 1) (M_un m) (M_ch m) 0 (M_ac m) (M_bd m)) T p) - M_ch m) (M_ac m + ((m_X5_together (M_mk (M_cd m) (M_pt m) (M_mn m) (M_ev m) (M_co m) (M_al m) (M_re m) (M_lo m) (M_rs m) (M_li m - 1) (M_he m) (M_go m) (M_sp m) (M_ba m) (M_le m) (M_lf m) (M_mo m + 1) (M_un m) (M_ch m) 0 (M_ac m) (M_bd m)) T p) - M_ch m)) (M_bd m)) := by
  unfold m_X5_writeOff
  rw [if_pos h1, if_pos h2, if_neg h3, if_neg h4, if_neg h5]
theorem wo_3 {m : MR} {T : TR} {p mm : Int32} (h1 : M_he m = 0) (h2 : M_go m = 0) (h3 : ¬ M_li m = 0) (h4 : T_me T (Int32.toNatClampNeg p) = 3) : m_X5_writeOff m T p mm = (M_mk (M_cd m) (M_pt m) (M_mn m) (M_ev m) (M_co m) (M_al m + ((m_X5_together (M_mk (M_cd m) (M_pt m) (M_mn m) (M_ev m) (M_co m) (M_al m) (M_re m) (M_lo m) (M_rs m) (M_li m - 1) (M_he m) (M_go m) (M_sp m + (T_us T (Int32.toNatClampNeg ((36 * p) + mm)))) (M_ba m) (M_le m) (M_lf m) (M_mo m + 1) (M_un m + (T_us T (Int32.toNatClampNeg ((36 * p) + mm)))) (M_ch m) 0 (M_ac m) (M_bd m)) T p) - M_ch m)) (M_re m) (M_lo m) (M_rs m) (M_li m - 1) (M_he m) (M_go m) (M_sp m + (T_us T (Int32.toNatClampNeg ((36 * p) + mm)))) (M_ba m) (M_le m) (M_lf m) (M_mo m + 1) (M_un m + (T_us T (Int32.toNatClampNeg ((36 * p) + mm)))) (m_X5_together (M_mk (M_cd m) (M_pt m) (M_mn m) (M_ev m) (M_co m) (M_al m) (M_re m) (M_lo m) (M_rs m) (M_li m - 1) (M_he m) (M_go m) (M_sp m + (T_us T (Int32.toNatClampNeg ((36 * p) + mm)))) (M_ba m) (M_le m) (M_lf m) (M_mo m + 1) (M_un m + (T_us T (Int32.toNatClampNeg ((36 * p) + mm)))) (M_ch m) 0 (M_ac m) (M_bd m)) T p) ((m_X5_together (M_mk (M_cd m) (M_pt m) (M_mn m) (M_ev m) (M_co m) (M_al m) (M_re m) (M_lo m) (M_rs m) (M_li m - 1) (M_he m) (M_go m) (M_sp m + (T_us T (Int32.toNatClampNeg ((36 * p) + mm)))) (M_ba m) (M_le m) (M_lf m) (M_mo m + 1) (M_un m + (T_us T (Int32.toNatClampNeg ((36 * p) + mm)))) (M_ch m) 0 (M_ac m) (M_bd m)) T p) - M_ch m) (M_ac m + ((m_X5_together (M_mk (M_cd m) (M_pt m) (M_mn m) (M_ev m) (M_co m) (M_al m) (M_re m) (M_lo m) (M_rs m) (M_li m - 1) (M_he m) (M_go m) (M_sp m + (T_us T (Int32.toNatClampNeg ((36 * p) + mm)))) (M_ba m) (M_le m) (M_lf m) (M_mo m + 1) (M_un m + (T_us T (Int32.toNatClampNeg ((36 * p) + mm)))) (M_ch m) 0 (M_ac m) (M_bd m)) T p) - M_ch m)) (M_bd m)) := by
  unfold m_X5_writeOff
  rw [if_pos h1, if_pos h2, if_neg h3, if_pos h4, if_neg (by rw [h4]; decide)]
theorem cm_0 {c : CR} {t : SR} {us : Int32} (h : ¬ C_he c = 0 ∨ ¬ C_go c = 0 ∨ C_li c = 0) : m_X0_chargeMonth c t us = ((C_mk (C_me c) (C_ra c) (C_co c) (C_al c) (C_re c) (C_lo c) (C_rs c) (C_li c) (C_he c) (C_go c) (C_br c) (C_cu c) 0 (C_ac c)), t) := by
  unfold m_X0_chargeMonth
  by_cases h1 : C_he c = 0
  · by_cases h2 : C_go c = 0
    · have h3 : C_li c = 0 := by rcases h with z | z | z; exact absurd h1 z; exact absurd h2 z; exact z
      rw [if_pos h1, if_pos h2, if_pos h3]
    · rw [if_pos h1, if_neg h2]
  · rw [if_neg h1]
theorem cm_1 {c : CR} {t : SR} {us : Int32} (h1 : C_he c = 0) (h2 : C_go c = 0) (h3 : ¬ C_li c = 0) (h4 : C_me c = 1) : m_X0_chargeMonth c t us = ((C_mk (C_me c) (C_ra c) (C_co c) (C_al c + (m_X0_decliningCharge (C_mk (C_me c) (C_ra c) (C_co c) (C_al c) (C_re c) (C_lo c) (C_rs c) (C_li c) (C_he c) (C_go c) (C_br c) (C_cu c) 0 (C_ac c)) t)) (C_re c) (C_lo c) (C_rs c) (C_li c - 1) (C_he c) (C_go c) (C_br c) (C_cu c + Int32.toInt64 us) (m_X0_decliningCharge (C_mk (C_me c) (C_ra c) (C_co c) (C_al c) (C_re c) (C_lo c) (C_rs c) (C_li c) (C_he c) (C_go c) (C_br c) (C_cu c) 0 (C_ac c)) t) (C_ac c + (m_X0_decliningCharge (C_mk (C_me c) (C_ra c) (C_co c) (C_al c) (C_re c) (C_lo c) (C_rs c) (C_li c) (C_he c) (C_go c) (C_br c) (C_cu c) 0 (C_ac c)) t))), t) := by
  unfold m_X0_chargeMonth
  rw [if_pos h1, if_pos h2, if_neg h3, if_pos h4]
theorem cm_n {c : CR} {t : SR} {us me : Int32} (h1 : C_he c = 0) (h2 : C_go c = 0) (h3 : ¬ C_li c = 0) (h4 : ¬ C_me c = 1) (h5 : C_me c = me) : m_X0_chargeMonth c t us = ((C_mk (C_me c) (C_ra c) (C_co c) (C_al c + ((m_X3_chargesTogether (S_mk (S_ba t) (S_le t) (S_ul t) (S_mo t + 1) (S_un t + Int32.toInt64 us) (S_ch t)) me) - S_ch t)) (C_re c) (C_lo c) (C_rs c) (C_li c - 1) (C_he c) (C_go c) (C_br c) (C_cu c + Int32.toInt64 us) ((m_X3_chargesTogether (S_mk (S_ba t) (S_le t) (S_ul t) (S_mo t + 1) (S_un t + Int32.toInt64 us) (S_ch t)) me) - S_ch t) (C_ac c + ((m_X3_chargesTogether (S_mk (S_ba t) (S_le t) (S_ul t) (S_mo t + 1) (S_un t + Int32.toInt64 us) (S_ch t)) me) - S_ch t))), (S_mk (S_ba t) (S_le t) (S_ul t) (S_mo t + 1) (S_un t + Int32.toInt64 us) (m_X3_chargesTogether (S_mk (S_ba t) (S_le t) (S_ul t) (S_mo t + 1) (S_un t + Int32.toInt64 us) (S_ch t)) me))) := by
  unfold m_X0_chargeMonth m_X3_nextCharge
  rw [if_pos h1, if_pos h2, if_neg h3, if_neg h4, h5]
theorem mm_eq (X Y W : Int64) : jmin W (jmax X Y) = if X ≤ Y then (if Y ≤ W then Y else W) else (if X ≤ W then X else W) := by
  unfold jmin jmax
  simp only [Int64.lt_iff_toInt_lt, Int64.le_iff_toInt_le]
  by_cases h1 : X.toInt ≤ Y.toInt
  · rw [if_neg (show ¬ Y.toInt < X.toInt by omega), if_pos h1]
    by_cases h2 : Y.toInt < W.toInt
    · rw [if_pos h2, if_pos (by omega)]
    · rw [if_neg h2]
      by_cases h3 : Y.toInt ≤ W.toInt
      · rw [if_pos h3]; exact i64_eq (by omega)
      · rw [if_neg h3]
  · rw [if_pos (show Y.toInt < X.toInt by omega), if_neg h1]
    by_cases h2 : X.toInt < W.toInt
    · rw [if_pos h2, if_pos (by omega)]
    · rw [if_neg h2]
      by_cases h3 : X.toInt ≤ W.toInt
      · rw [if_pos h3]; exact i64_eq (by omega)
      · rw [if_neg h3]
theorem i32_back (x : Int32) : x - 1 + 1 = x := Int32.sub_add_cancel ..
theorem i32_pos {x : Int32} (h : 0 ≤ x.toInt) (h2 : ¬ x = 0) : 0 < x.toInt := by
  have h8 : ¬ x.toInt = 0 := fun z => h2 (Int32.toInt_inj.mp (by rw [z]; rfl))
  omega
set_option maxHeartbeats 2000000 in
/-- the declining charge, and its bounds -/
theorem dc_eq {me ra : Int32} {c : CR} {t : SR} {m : MR} {T : TR} {p : Int32} {jc ju : Int} (h : RC me ra c m) (n : NC jc ju m) (hj : jc ≤ 36) (hT : T_ra T (Int32.toNatClampNeg p) = ra) (hra : 0 ≤ ra.toInt ∧ ra.toInt ≤ 1000000) (hli : ¬ M_li m = 0) : (m_X0_decliningCharge (C_mk (C_me c) (C_ra c) (C_co c) (C_al c) (C_re c) (C_lo c) (C_rs c) (C_li c) (C_he c) (C_go c) (C_br c) (C_cu c) 0 (C_ac c)) t) = (m_X5_declining (M_mk (M_cd m) (M_pt m) (M_mn m) (M_ev m) (M_co m) (M_al m) (M_re m) (M_lo m) (M_rs m) (M_li m - 1) (M_he m) (M_go m) (M_sp m) (M_ba m) (M_le m) (M_lf m) (M_mo m + 1) (M_un m) (M_ch m) 0 (M_ac m) (M_bd m)) T p (M_li m - 1 + 1)) ∧ 0 ≤ (m_X5_declining (M_mk (M_cd m) (M_pt m) (M_mn m) (M_ev m) (M_co m) (M_al m) (M_re m) (M_lo m) (M_rs m) (M_li m - 1) (M_he m) (M_go m) (M_sp m) (M_ba m) (M_le m) (M_lf m) (M_mo m + 1) (M_un m) (M_ch m) 0 (M_ac m) (M_bd m)) T p (M_li m - 1 + 1)).toInt ∧ (m_X5_declining (M_mk (M_cd m) (M_pt m) (M_mn m) (M_ev m) (M_co m) (M_al m) (M_re m) (M_lo m) (M_rs m) (M_li m - 1) (M_he m) (M_go m) (M_sp m) (M_ba m) (M_le m) (M_lf m) (M_mo m + 1) (M_un m) (M_ch m) 0 (M_ac m) (M_bd m)) T p (M_li m - 1 + 1)).toInt ≤ (M_co m).toInt - (M_al m).toInt := by
  have hb := bk_int n (by omega)
  obtain ⟨⟨h1, h2, h3, h4, h5⟩, ⟨h6, h7, h8⟩, ⟨h9, h10⟩, ⟨h11, h12, h13⟩, h14⟩ := h
  obtain ⟨⟨n1, n2⟩, ⟨n3, n4⟩, ⟨n5, n6⟩, ⟨n7, n8⟩, ⟨n9, n10⟩⟩ := n
  have hl := i32_pos n7 hli
  have hL : 0 < (Int32.toInt64 (M_li m)).toInt ∧ (Int32.toInt64 (M_li m)).toInt ≤ 36 := by rw [Int32.toInt_toInt64]; omega
  have e0 : m_X0_book (C_mk (C_me c) (C_ra c) (C_co c) (C_al c) (C_re c) (C_lo c) (C_rs c) (C_li c) (C_he c) (C_go c) (C_br c) (C_cu c) 0 (C_ac c)) t = M_co m - M_al m := by unfold m_X0_book; rw [C_co_mk, C_al_mk, h1, h2]
  have e1 : m_X5_book (M_mk (M_cd m) (M_pt m) (M_mn m) (M_ev m) (M_co m) (M_al m) (M_re m) (M_lo m) (M_rs m) (M_li m - 1) (M_he m) (M_go m) (M_sp m) (M_ba m) (M_le m) (M_lf m) (M_mo m + 1) (M_un m) (M_ch m) 0 (M_ac m) (M_bd m)) T = M_co m - M_al m := by unfold m_X5_book; rw [M_co_mk, M_al_mk]
  unfold m_X0_decliningCharge m_X5_declining
  rw [e0, e1, C_rs_mk, C_li_mk, C_ra_mk, M_rs_mk, h5, h6, h13, hT, i32_back, mm_eq, rd_eq (by rw [i64_M]; omega), rd_eq hL.1]
  have er : (Int32.toInt64 ra).toInt = ra.toInt := Int32.toInt_toInt64 ra
  have q0 : 0 ≤ (M_co m - M_al m).toInt * ra.toInt := Int.mul_nonneg (by omega) hra.1
  have q1 : (M_co m - M_al m).toInt * ra.toInt ≤ (M_co m - M_al m).toInt * 1000000 := Int.mul_le_mul_of_nonneg_left hra.2 (by omega)
  have ep : ((M_co m - M_al m) * Int32.toInt64 ra).toInt = (M_co m - M_al m).toInt * ra.toInt := by rw [i64_mul, er] <;> rw [er] <;> omega
  have hX : 0 ≤ (m_X5_rounded ((M_co m - M_al m) * Int32.toInt64 ra) 1000000).toInt := by
    rw [rd_int (by rw [ep]; exact q0) (by rw [ep]; omega) (by rw [i64_M]; omega) (by rw [i64_M]; omega)]
    exact Int.ediv_nonneg (by rw [ep, i64_M]; omega) (by rw [i64_M]; omega)
  have eW : (M_co m - M_al m - M_rs m).toInt = (M_co m).toInt - (M_al m).toInt - (M_rs m).toInt := by rw [i64_sub, hb] <;> rw [hb] <;> omega
  generalize hXd : m_X5_rounded ((M_co m - M_al m) * Int32.toInt64 ra) 1000000 = X at *
  by_cases hw : 0 < M_co m - M_al m - M_rs m
  · have hw2 := hw
    rw [Int64.lt_iff_toInt_lt, i64_0, eW] at hw2
    have hY : 0 ≤ (m_X5_rounded (M_co m - M_al m - M_rs m) (Int32.toInt64 (M_li m))).toInt := by
      rw [rd_int (by rw [eW]; omega) (by rw [eW]; omega) hL.1 (by omega)]
      exact Int.ediv_nonneg (by rw [eW]; omega) (by omega)
    generalize m_X5_rounded (M_co m - M_al m - M_rs m) (Int32.toInt64 (M_li m)) = Y at *
    rw [if_pos hw, if_pos hw]
    by_cases hl1 : M_li m = 1
    · simp only [hl1, ↓reduceIte, ite_self]
      rw [eW]
      exact ⟨trivial, by omega, by omega⟩
    · simp only [hl1, ↓reduceIte]
      refine ⟨trivial, ?_⟩
      simp only [Int64.le_iff_toInt_le]
      split
      · split <;> omega
      · split <;> omega
  · rw [if_neg hw, if_neg hw, i64_0]
    exact ⟨rfl, by omega, by omega⟩

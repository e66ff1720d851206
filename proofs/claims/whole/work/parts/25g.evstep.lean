set_option maxHeartbeats 2000000 in
theorem es_0 {me ra : Int32} {c : CR} {t : SR} {m : MR} {T : TR} {p e mm : Int32} {ev : ER} {mr : Int64} {jc ju : Int} (h : RS me ra c t m) (n : NC jc ju m) (s : NS me ju m) (hj0 : 0 ≤ jc) (hj : jc ≤ 35) (hu : ju ≤ 36) (hT : T_ra T (Int32.toNatClampNeg p) = ra) (hra : 0 ≤ ra.toInt ∧ ra.toInt ≤ 1000000) (hk : E_ki ev = (T_ki T (Int32.toNatClampNeg e))) (ha : E_am ev = (T_am T (Int32.toNatClampNeg e))) (hn : E_nu ev = (T_nu T (Int32.toNatClampNeg e))) (hv : EV (T_ki T (Int32.toNatClampNeg e)) (T_am T (Int32.toNatClampNeg e)) (T_nu T (Int32.toNatClampNeg e))) (g : M_go m = 0) (hh : M_he m = 0) (k : (T_ki T (Int32.toNatClampNeg e)) = 0) : ES me ra c t m T p e mm ev mr jc ju := by
  have hs0 := h
  have hb := bk_int n (by omega)
  obtain ⟨⟨⟨h1, h2, h3, h4, h5⟩, ⟨h6, h7, h8⟩, ⟨h9, h10⟩, ⟨h11, h12, h13⟩, h14⟩, hst⟩ := h
  have n0 := n
  obtain ⟨⟨n1, n2⟩, ⟨n3, n4⟩, ⟨n5, n6⟩, ⟨n7, n8⟩, ⟨n9, n10⟩⟩ := n
  have eb : m_X0_book c t = M_co m - M_al m := by unfold m_X0_book; rw [h1, h2]
  have ebm : m_X5_book m T = M_co m - M_al m := rfl
  have qb : C_go c = 0 ↔ M_go m = 0 := by rw [h8]
  have hs := s
  have kc : E_ki ev = 0 := by rw [hk, k]
  have gc : C_go c = 0 := by rw [h8, g]
  have h6k : ¬ 6 ≤ (T_ki T (Int32.toNatClampNeg e)) ∨ 6 ≤ (T_ki T (Int32.toNatClampNeg e)) := by by_cases z : 6 ≤ (T_ki T (Int32.toNatClampNeg e)); exact Or.inr z; exact Or.inl z
  obtain ⟨-, ⟨v1, v2⟩, v3, v4⟩ := hv
  generalize eA : (T_am T (Int32.toNatClampNeg e)) = A at *
  generalize eU : (T_nu T (Int32.toNatClampNeg e)) = U at *
  have hc : C_he c = 0 := by rw [h7, hh]
  have eI := ib_0 (t := t) (mr := mr) gc hc kc
  have eH := hp_0 (mm := mm) g hh k
  rw [eA] at eH
  rw [h6, h5, eb, ha] at eI
  have e0 : m_X5_book (M_mk (M_cd m) (M_pt m) (M_mn m) (M_ev m) (M_co m + A) (M_al m) (M_re m) (M_lo m) (M_rs m) (M_li m) (M_he m) (M_go m) (M_sp m) (M_ba m) (M_le m) (M_lf m) (M_mo m) (M_un m) (M_ch m) (M_lc m) (M_ac m) (M_bd m)) T = M_co m - M_al m + A := by unfold m_X5_book; rw [M_co_mk, M_al_mk, r_1]
  rw [e0] at eH
  by_cases z : M_li m = 0
  · rw [if_pos (by rw [z]; decide)] at eH
    rw [if_pos z] at eI
    exact Or.inl ⟨by rw [eH], me_b eI⟩
  · have hl := i32_pos n7 z
    rw [if_neg (by rw [Int32.le_iff_toInt_le, i32_0]; omega)] at eH
    rw [if_neg z] at eI
    by_cases y : M_rs m ≤ M_co m - M_al m + A
    · rw [if_neg (by rw [Int64.le_iff_toInt_le] at y; rw [Int64.lt_iff_toInt_lt]; omega)] at eH
      rw [if_pos y] at eI
      have ec : (M_co m + A).toInt = (M_co m).toInt + A.toInt := i64_add (by omega) (by omega)
      refine es_lt hs0 n0 hs hj0 hj hu hT hra hk (by rw [eA]; exact ha) (by rw [eU]; exact hn) (by rw [k]; decide) eI (by rw [eH]; (show ¬ (1 : Int32) = 0); decide) ?_ ?_
      · rw [ap_0 kc, eH]
        refine ⟨⟨?_, ?_, ?_, ?_, ?_⟩, ⟨?_, ?_, ?_⟩, ⟨?_, ?_⟩, ⟨?_, ?_, ?_⟩, ?_⟩
        · simp only [C_me_mk, C_ra_mk, C_co_mk, C_al_mk, C_re_mk, C_lo_mk, C_rs_mk, C_li_mk, C_he_mk, C_go_mk, C_br_mk, C_cu_mk, C_lc_mk, C_ac_mk, M_cd_mk, M_pt_mk, M_mn_mk, M_ev_mk, M_co_mk, M_al_mk, M_re_mk, M_lo_mk, M_rs_mk, M_li_mk, M_he_mk, M_go_mk, M_sp_mk, M_ba_mk, M_le_mk, M_lf_mk, M_mo_mk, M_un_mk, M_ch_mk, M_lc_mk, M_ac_mk, M_bd_mk, h1, h2, h3, h4, h5, h6, h7, h8, h9, h10, h11, h12, h13, ha, hn, eb]
        · simp only [C_me_mk, C_ra_mk, C_co_mk, C_al_mk, C_re_mk, C_lo_mk, C_rs_mk, C_li_mk, C_he_mk, C_go_mk, C_br_mk, C_cu_mk, C_lc_mk, C_ac_mk, M_cd_mk, M_pt_mk, M_mn_mk, M_ev_mk, M_co_mk, M_al_mk, M_re_mk, M_lo_mk, M_rs_mk, M_li_mk, M_he_mk, M_go_mk, M_sp_mk, M_ba_mk, M_le_mk, M_lf_mk, M_mo_mk, M_un_mk, M_ch_mk, M_lc_mk, M_ac_mk, M_bd_mk, h1, h2, h3, h4, h5, h6, h7, h8, h9, h10, h11, h12, h13, ha, hn, eb]
        · simp only [C_me_mk, C_ra_mk, C_co_mk, C_al_mk, C_re_mk, C_lo_mk, C_rs_mk, C_li_mk, C_he_mk, C_go_mk, C_br_mk, C_cu_mk, C_lc_mk, C_ac_mk, M_cd_mk, M_pt_mk, M_mn_mk, M_ev_mk, M_co_mk, M_al_mk, M_re_mk, M_lo_mk, M_rs_mk, M_li_mk, M_he_mk, M_go_mk, M_sp_mk, M_ba_mk, M_le_mk, M_lf_mk, M_mo_mk, M_un_mk, M_ch_mk, M_lc_mk, M_ac_mk, M_bd_mk, h1, h2, h3, h4, h5, h6, h7, h8, h9, h10, h11, h12, h13, ha, hn, eb]
        · simp only [C_me_mk, C_ra_mk, C_co_mk, C_al_mk, C_re_mk, C_lo_mk, C_rs_mk, C_li_mk, C_he_mk, C_go_mk, C_br_mk, C_cu_mk, C_lc_mk, C_ac_mk, M_cd_mk, M_pt_mk, M_mn_mk, M_ev_mk, M_co_mk, M_al_mk, M_re_mk, M_lo_mk, M_rs_mk, M_li_mk, M_he_mk, M_go_mk, M_sp_mk, M_ba_mk, M_le_mk, M_lf_mk, M_mo_mk, M_un_mk, M_ch_mk, M_lc_mk, M_ac_mk, M_bd_mk, h1, h2, h3, h4, h5, h6, h7, h8, h9, h10, h11, h12, h13, ha, hn, eb]
        · simp only [C_me_mk, C_ra_mk, C_co_mk, C_al_mk, C_re_mk, C_lo_mk, C_rs_mk, C_li_mk, C_he_mk, C_go_mk, C_br_mk, C_cu_mk, C_lc_mk, C_ac_mk, M_cd_mk, M_pt_mk, M_mn_mk, M_ev_mk, M_co_mk, M_al_mk, M_re_mk, M_lo_mk, M_rs_mk, M_li_mk, M_he_mk, M_go_mk, M_sp_mk, M_ba_mk, M_le_mk, M_lf_mk, M_mo_mk, M_un_mk, M_ch_mk, M_lc_mk, M_ac_mk, M_bd_mk, h1, h2, h3, h4, h5, h6, h7, h8, h9, h10, h11, h12, h13, ha, hn, eb]
        · simp only [C_me_mk, C_ra_mk, C_co_mk, C_al_mk, C_re_mk, C_lo_mk, C_rs_mk, C_li_mk, C_he_mk, C_go_mk, C_br_mk, C_cu_mk, C_lc_mk, C_ac_mk, M_cd_mk, M_pt_mk, M_mn_mk, M_ev_mk, M_co_mk, M_al_mk, M_re_mk, M_lo_mk, M_rs_mk, M_li_mk, M_he_mk, M_go_mk, M_sp_mk, M_ba_mk, M_le_mk, M_lf_mk, M_mo_mk, M_un_mk, M_ch_mk, M_lc_mk, M_ac_mk, M_bd_mk, h1, h2, h3, h4, h5, h6, h7, h8, h9, h10, h11, h12, h13, ha, hn, eb]
        · simp only [C_me_mk, C_ra_mk, C_co_mk, C_al_mk, C_re_mk, C_lo_mk, C_rs_mk, C_li_mk, C_he_mk, C_go_mk, C_br_mk, C_cu_mk, C_lc_mk, C_ac_mk, M_cd_mk, M_pt_mk, M_mn_mk, M_ev_mk, M_co_mk, M_al_mk, M_re_mk, M_lo_mk, M_rs_mk, M_li_mk, M_he_mk, M_go_mk, M_sp_mk, M_ba_mk, M_le_mk, M_lf_mk, M_mo_mk, M_un_mk, M_ch_mk, M_lc_mk, M_ac_mk, M_bd_mk, h1, h2, h3, h4, h5, h6, h7, h8, h9, h10, h11, h12, h13, ha, hn, eb]
        · simp only [C_me_mk, C_ra_mk, C_co_mk, C_al_mk, C_re_mk, C_lo_mk, C_rs_mk, C_li_mk, C_he_mk, C_go_mk, C_br_mk, C_cu_mk, C_lc_mk, C_ac_mk, M_cd_mk, M_pt_mk, M_mn_mk, M_ev_mk, M_co_mk, M_al_mk, M_re_mk, M_lo_mk, M_rs_mk, M_li_mk, M_he_mk, M_go_mk, M_sp_mk, M_ba_mk, M_le_mk, M_lf_mk, M_mo_mk, M_un_mk, M_ch_mk, M_lc_mk, M_ac_mk, M_bd_mk, h1, h2, h3, h4, h5, h6, h7, h8, h9, h10, h11, h12, h13, ha, hn, eb]
        · simp only [C_me_mk, C_ra_mk, C_co_mk, C_al_mk, C_re_mk, C_lo_mk, C_rs_mk, C_li_mk, C_he_mk, C_go_mk, C_br_mk, C_cu_mk, C_lc_mk, C_ac_mk, M_cd_mk, M_pt_mk, M_mn_mk, M_ev_mk, M_co_mk, M_al_mk, M_re_mk, M_lo_mk, M_rs_mk, M_li_mk, M_he_mk, M_go_mk, M_sp_mk, M_ba_mk, M_le_mk, M_lf_mk, M_mo_mk, M_un_mk, M_ch_mk, M_lc_mk, M_ac_mk, M_bd_mk, h1, h2, h3, h4, h5, h6, h7, h8, h9, h10, h11, h12, h13, ha, hn, eb]
        · simp only [C_me_mk, C_ra_mk, C_co_mk, C_al_mk, C_re_mk, C_lo_mk, C_rs_mk, C_li_mk, C_he_mk, C_go_mk, C_br_mk, C_cu_mk, C_lc_mk, C_ac_mk, M_cd_mk, M_pt_mk, M_mn_mk, M_ev_mk, M_co_mk, M_al_mk, M_re_mk, M_lo_mk, M_rs_mk, M_li_mk, M_he_mk, M_go_mk, M_sp_mk, M_ba_mk, M_le_mk, M_lf_mk, M_mo_mk, M_un_mk, M_ch_mk, M_lc_mk, M_ac_mk, M_bd_mk, h1, h2, h3, h4, h5, h6, h7, h8, h9, h10, h11, h12, h13, ha, hn, eb]
        · simp only [C_me_mk, C_ra_mk, C_co_mk, C_al_mk, C_re_mk, C_lo_mk, C_rs_mk, C_li_mk, C_he_mk, C_go_mk, C_br_mk, C_cu_mk, C_lc_mk, C_ac_mk, M_cd_mk, M_pt_mk, M_mn_mk, M_ev_mk, M_co_mk, M_al_mk, M_re_mk, M_lo_mk, M_rs_mk, M_li_mk, M_he_mk, M_go_mk, M_sp_mk, M_ba_mk, M_le_mk, M_lf_mk, M_mo_mk, M_un_mk, M_ch_mk, M_lc_mk, M_ac_mk, M_bd_mk, h1, h2, h3, h4, h5, h6, h7, h8, h9, h10, h11, h12, h13, ha, hn, eb]
        · simp only [C_me_mk, C_ra_mk, C_co_mk, C_al_mk, C_re_mk, C_lo_mk, C_rs_mk, C_li_mk, C_he_mk, C_go_mk, C_br_mk, C_cu_mk, C_lc_mk, C_ac_mk, M_cd_mk, M_pt_mk, M_mn_mk, M_ev_mk, M_co_mk, M_al_mk, M_re_mk, M_lo_mk, M_rs_mk, M_li_mk, M_he_mk, M_go_mk, M_sp_mk, M_ba_mk, M_le_mk, M_lf_mk, M_mo_mk, M_un_mk, M_ch_mk, M_lc_mk, M_ac_mk, M_bd_mk, h1, h2, h3, h4, h5, h6, h7, h8, h9, h10, h11, h12, h13, ha, hn, eb]
        · simp only [C_me_mk, C_ra_mk, C_co_mk, C_al_mk, C_re_mk, C_lo_mk, C_rs_mk, C_li_mk, C_he_mk, C_go_mk, C_br_mk, C_cu_mk, C_lc_mk, C_ac_mk, M_cd_mk, M_pt_mk, M_mn_mk, M_ev_mk, M_co_mk, M_al_mk, M_re_mk, M_lo_mk, M_rs_mk, M_li_mk, M_he_mk, M_go_mk, M_sp_mk, M_ba_mk, M_le_mk, M_lf_mk, M_mo_mk, M_un_mk, M_ch_mk, M_lc_mk, M_ac_mk, M_bd_mk, h1, h2, h3, h4, h5, h6, h7, h8, h9, h10, h11, h12, h13, ha, hn, eb]
        · simp only [C_me_mk, C_ra_mk, C_co_mk, C_al_mk, C_re_mk, C_lo_mk, C_rs_mk, C_li_mk, C_he_mk, C_go_mk, C_br_mk, C_cu_mk, C_lc_mk, C_ac_mk, M_cd_mk, M_pt_mk, M_mn_mk, M_ev_mk, M_co_mk, M_al_mk, M_re_mk, M_lo_mk, M_rs_mk, M_li_mk, M_he_mk, M_go_mk, M_sp_mk, M_ba_mk, M_le_mk, M_lf_mk, M_mo_mk, M_un_mk, M_ch_mk, M_lc_mk, M_ac_mk, M_bd_mk]; exact h14
      · rw [eH]
        refine ⟨?_, ?_, ?_, ?_, ?_⟩
        · rw [M_co_mk]; rw [ec]; omega
        · rw [M_al_mk, M_co_mk]; rw [ec]; omega
        · rw [M_rs_mk]; omega
        · rw [M_li_mk]; omega
        · rw [M_sp_mk]; omega
    · rw [if_pos (by rw [Int64.le_iff_toInt_le] at y; rw [Int64.lt_iff_toInt_lt]; omega)] at eH
      rw [if_neg y] at eI
      exact Or.inl ⟨by rw [eH], me_b eI⟩
set_option maxHeartbeats 2000000 in
theorem es_1 {me ra : Int32} {c : CR} {t : SR} {m : MR} {T : TR} {p e mm : Int32} {ev : ER} {mr : Int64} {jc ju : Int} (h : RS me ra c t m) (n : NC jc ju m) (s : NS me ju m) (hj0 : 0 ≤ jc) (hj : jc ≤ 35) (hu : ju ≤ 36) (hT : T_ra T (Int32.toNatClampNeg p) = ra) (hra : 0 ≤ ra.toInt ∧ ra.toInt ≤ 1000000) (hk : E_ki ev = (T_ki T (Int32.toNatClampNeg e))) (ha : E_am ev = (T_am T (Int32.toNatClampNeg e))) (hn : E_nu ev = (T_nu T (Int32.toNatClampNeg e))) (hv : EV (T_ki T (Int32.toNatClampNeg e)) (T_am T (Int32.toNatClampNeg e)) (T_nu T (Int32.toNatClampNeg e))) (g : M_go m = 0) (hh : M_he m = 0) (k : (T_ki T (Int32.toNatClampNeg e)) = 1) : ES me ra c t m T p e mm ev mr jc ju := by
  have hs0 := h
  have hb := bk_int n (by omega)
  obtain ⟨⟨⟨h1, h2, h3, h4, h5⟩, ⟨h6, h7, h8⟩, ⟨h9, h10⟩, ⟨h11, h12, h13⟩, h14⟩, hst⟩ := h
  have n0 := n
  obtain ⟨⟨n1, n2⟩, ⟨n3, n4⟩, ⟨n5, n6⟩, ⟨n7, n8⟩, ⟨n9, n10⟩⟩ := n
  have eb : m_X0_book c t = M_co m - M_al m := by unfold m_X0_book; rw [h1, h2]
  have ebm : m_X5_book m T = M_co m - M_al m := rfl
  have qb : C_go c = 0 ↔ M_go m = 0 := by rw [h8]
  have hs := s
  have kc : E_ki ev = 1 := by rw [hk, k]
  have gc : C_go c = 0 := by rw [h8, g]
  have h6k : ¬ 6 ≤ (T_ki T (Int32.toNatClampNeg e)) ∨ 6 ≤ (T_ki T (Int32.toNatClampNeg e)) := by by_cases z : 6 ≤ (T_ki T (Int32.toNatClampNeg e)); exact Or.inr z; exact Or.inl z
  obtain ⟨-, ⟨v1, v2⟩, v3, v4⟩ := hv
  generalize eA : (T_am T (Int32.toNatClampNeg e)) = A at *
  generalize eU : (T_nu T (Int32.toNatClampNeg e)) = U at *
  have hc : C_he c = 0 := by rw [h7, hh]
  have eI := ib_1 (t := t) (mr := mr) gc hc kc
  have eH := hp_1 (mm := mm) g hh k
  rw [eA, eU] at eH
  rw [eb, ha] at eI
  have e0 : m_X5_book (M_mk (M_cd m) (M_pt m) (M_mn m) (M_ev m) (M_co m) (M_al m) (M_re m) (M_lo m) A U (M_he m) (M_go m) (M_sp m) (M_ba m) (M_le m) (M_lf m) (M_mo m) (M_un m) (M_ch m) (M_lc m) (M_ac m) (M_bd m)) T = M_co m - M_al m := by unfold m_X5_book; rw [M_co_mk, M_al_mk]
  rw [e0] at eH
  have v3a := v3 k
  by_cases y : A ≤ M_co m - M_al m
  · rw [if_neg (by rw [Int64.le_iff_toInt_le] at y; rw [Int64.lt_iff_toInt_lt]; omega)] at eH
    rw [if_pos y] at eI
    refine es_lt hs0 n0 hs hj0 hj hu hT hra hk (by rw [eA]; exact ha) (by rw [eU]; exact hn) (by rw [k]; decide) eI (by rw [eH]; (show ¬ (1 : Int32) = 0); decide) ?_ ?_
    · rw [ap_1 kc, eH]
      refine ⟨⟨?_, ?_, ?_, ?_, ?_⟩, ⟨?_, ?_, ?_⟩, ⟨?_, ?_⟩, ⟨?_, ?_, ?_⟩, ?_⟩
      · simp only [C_me_mk, C_ra_mk, C_co_mk, C_al_mk, C_re_mk, C_lo_mk, C_rs_mk, C_li_mk, C_he_mk, C_go_mk, C_br_mk, C_cu_mk, C_lc_mk, C_ac_mk, M_cd_mk, M_pt_mk, M_mn_mk, M_ev_mk, M_co_mk, M_al_mk, M_re_mk, M_lo_mk, M_rs_mk, M_li_mk, M_he_mk, M_go_mk, M_sp_mk, M_ba_mk, M_le_mk, M_lf_mk, M_mo_mk, M_un_mk, M_ch_mk, M_lc_mk, M_ac_mk, M_bd_mk, h1, h2, h3, h4, h5, h6, h7, h8, h9, h10, h11, h12, h13, ha, hn, eb]
      · simp only [C_me_mk, C_ra_mk, C_co_mk, C_al_mk, C_re_mk, C_lo_mk, C_rs_mk, C_li_mk, C_he_mk, C_go_mk, C_br_mk, C_cu_mk, C_lc_mk, C_ac_mk, M_cd_mk, M_pt_mk, M_mn_mk, M_ev_mk, M_co_mk, M_al_mk, M_re_mk, M_lo_mk, M_rs_mk, M_li_mk, M_he_mk, M_go_mk, M_sp_mk, M_ba_mk, M_le_mk, M_lf_mk, M_mo_mk, M_un_mk, M_ch_mk, M_lc_mk, M_ac_mk, M_bd_mk, h1, h2, h3, h4, h5, h6, h7, h8, h9, h10, h11, h12, h13, ha, hn, eb]
      · simp only [C_me_mk, C_ra_mk, C_co_mk, C_al_mk, C_re_mk, C_lo_mk, C_rs_mk, C_li_mk, C_he_mk, C_go_mk, C_br_mk, C_cu_mk, C_lc_mk, C_ac_mk, M_cd_mk, M_pt_mk, M_mn_mk, M_ev_mk, M_co_mk, M_al_mk, M_re_mk, M_lo_mk, M_rs_mk, M_li_mk, M_he_mk, M_go_mk, M_sp_mk, M_ba_mk, M_le_mk, M_lf_mk, M_mo_mk, M_un_mk, M_ch_mk, M_lc_mk, M_ac_mk, M_bd_mk, h1, h2, h3, h4, h5, h6, h7, h8, h9, h10, h11, h12, h13, ha, hn, eb]
      · simp only [C_me_mk, C_ra_mk, C_co_mk, C_al_mk, C_re_mk, C_lo_mk, C_rs_mk, C_li_mk, C_he_mk, C_go_mk, C_br_mk, C_cu_mk, C_lc_mk, C_ac_mk, M_cd_mk, M_pt_mk, M_mn_mk, M_ev_mk, M_co_mk, M_al_mk, M_re_mk, M_lo_mk, M_rs_mk, M_li_mk, M_he_mk, M_go_mk, M_sp_mk, M_ba_mk, M_le_mk, M_lf_mk, M_mo_mk, M_un_mk, M_ch_mk, M_lc_mk, M_ac_mk, M_bd_mk, h1, h2, h3, h4, h5, h6, h7, h8, h9, h10, h11, h12, h13, ha, hn, eb]
      · simp only [C_me_mk, C_ra_mk, C_co_mk, C_al_mk, C_re_mk, C_lo_mk, C_rs_mk, C_li_mk, C_he_mk, C_go_mk, C_br_mk, C_cu_mk, C_lc_mk, C_ac_mk, M_cd_mk, M_pt_mk, M_mn_mk, M_ev_mk, M_co_mk, M_al_mk, M_re_mk, M_lo_mk, M_rs_mk, M_li_mk, M_he_mk, M_go_mk, M_sp_mk, M_ba_mk, M_le_mk, M_lf_mk, M_mo_mk, M_un_mk, M_ch_mk, M_lc_mk, M_ac_mk, M_bd_mk, h1, h2, h3, h4, h5, h6, h7, h8, h9, h10, h11, h12, h13, ha, hn, eb]
      · simp only [C_me_mk, C_ra_mk, C_co_mk, C_al_mk, C_re_mk, C_lo_mk, C_rs_mk, C_li_mk, C_he_mk, C_go_mk, C_br_mk, C_cu_mk, C_lc_mk, C_ac_mk, M_cd_mk, M_pt_mk, M_mn_mk, M_ev_mk, M_co_mk, M_al_mk, M_re_mk, M_lo_mk, M_rs_mk, M_li_mk, M_he_mk, M_go_mk, M_sp_mk, M_ba_mk, M_le_mk, M_lf_mk, M_mo_mk, M_un_mk, M_ch_mk, M_lc_mk, M_ac_mk, M_bd_mk, h1, h2, h3, h4, h5, h6, h7, h8, h9, h10, h11, h12, h13, ha, hn, eb]
      · simp only [C_me_mk, C_ra_mk, C_co_mk, C_al_mk, C_re_mk, C_lo_mk, C_rs_mk, C_li_mk, C_he_mk, C_go_mk, C_br_mk, C_cu_mk, C_lc_mk, C_ac_mk, M_cd_mk, M_pt_mk, M_mn_mk, M_ev_mk, M_co_mk, M_al_mk, M_re_mk, M_lo_mk, M_rs_mk, M_li_mk, M_he_mk, M_go_mk, M_sp_mk, M_ba_mk, M_le_mk, M_lf_mk, M_mo_mk, M_un_mk, M_ch_mk, M_lc_mk, M_ac_mk, M_bd_mk, h1, h2, h3, h4, h5, h6, h7, h8, h9, h10, h11, h12, h13, ha, hn, eb]
      · simp only [C_me_mk, C_ra_mk, C_co_mk, C_al_mk, C_re_mk, C_lo_mk, C_rs_mk, C_li_mk, C_he_mk, C_go_mk, C_br_mk, C_cu_mk, C_lc_mk, C_ac_mk, M_cd_mk, M_pt_mk, M_mn_mk, M_ev_mk, M_co_mk, M_al_mk, M_re_mk, M_lo_mk, M_rs_mk, M_li_mk, M_he_mk, M_go_mk, M_sp_mk, M_ba_mk, M_le_mk, M_lf_mk, M_mo_mk, M_un_mk, M_ch_mk, M_lc_mk, M_ac_mk, M_bd_mk, h1, h2, h3, h4, h5, h6, h7, h8, h9, h10, h11, h12, h13, ha, hn, eb]
      · simp only [C_me_mk, C_ra_mk, C_co_mk, C_al_mk, C_re_mk, C_lo_mk, C_rs_mk, C_li_mk, C_he_mk, C_go_mk, C_br_mk, C_cu_mk, C_lc_mk, C_ac_mk, M_cd_mk, M_pt_mk, M_mn_mk, M_ev_mk, M_co_mk, M_al_mk, M_re_mk, M_lo_mk, M_rs_mk, M_li_mk, M_he_mk, M_go_mk, M_sp_mk, M_ba_mk, M_le_mk, M_lf_mk, M_mo_mk, M_un_mk, M_ch_mk, M_lc_mk, M_ac_mk, M_bd_mk, h1, h2, h3, h4, h5, h6, h7, h8, h9, h10, h11, h12, h13, ha, hn, eb]
      · simp only [C_me_mk, C_ra_mk, C_co_mk, C_al_mk, C_re_mk, C_lo_mk, C_rs_mk, C_li_mk, C_he_mk, C_go_mk, C_br_mk, C_cu_mk, C_lc_mk, C_ac_mk, M_cd_mk, M_pt_mk, M_mn_mk, M_ev_mk, M_co_mk, M_al_mk, M_re_mk, M_lo_mk, M_rs_mk, M_li_mk, M_he_mk, M_go_mk, M_sp_mk, M_ba_mk, M_le_mk, M_lf_mk, M_mo_mk, M_un_mk, M_ch_mk, M_lc_mk, M_ac_mk, M_bd_mk, h1, h2, h3, h4, h5, h6, h7, h8, h9, h10, h11, h12, h13, ha, hn, eb]
      · simp only [C_me_mk, C_ra_mk, C_co_mk, C_al_mk, C_re_mk, C_lo_mk, C_rs_mk, C_li_mk, C_he_mk, C_go_mk, C_br_mk, C_cu_mk, C_lc_mk, C_ac_mk, M_cd_mk, M_pt_mk, M_mn_mk, M_ev_mk, M_co_mk, M_al_mk, M_re_mk, M_lo_mk, M_rs_mk, M_li_mk, M_he_mk, M_go_mk, M_sp_mk, M_ba_mk, M_le_mk, M_lf_mk, M_mo_mk, M_un_mk, M_ch_mk, M_lc_mk, M_ac_mk, M_bd_mk, h1, h2, h3, h4, h5, h6, h7, h8, h9, h10, h11, h12, h13, ha, hn, eb]
      · simp only [C_me_mk, C_ra_mk, C_co_mk, C_al_mk, C_re_mk, C_lo_mk, C_rs_mk, C_li_mk, C_he_mk, C_go_mk, C_br_mk, C_cu_mk, C_lc_mk, C_ac_mk, M_cd_mk, M_pt_mk, M_mn_mk, M_ev_mk, M_co_mk, M_al_mk, M_re_mk, M_lo_mk, M_rs_mk, M_li_mk, M_he_mk, M_go_mk, M_sp_mk, M_ba_mk, M_le_mk, M_lf_mk, M_mo_mk, M_un_mk, M_ch_mk, M_lc_mk, M_ac_mk, M_bd_mk, h1, h2, h3, h4, h5, h6, h7, h8, h9, h10, h11, h12, h13, ha, hn, eb]
      · simp only [C_me_mk, C_ra_mk, C_co_mk, C_al_mk, C_re_mk, C_lo_mk, C_rs_mk, C_li_mk, C_he_mk, C_go_mk, C_br_mk, C_cu_mk, C_lc_mk, C_ac_mk, M_cd_mk, M_pt_mk, M_mn_mk, M_ev_mk, M_co_mk, M_al_mk, M_re_mk, M_lo_mk, M_rs_mk, M_li_mk, M_he_mk, M_go_mk, M_sp_mk, M_ba_mk, M_le_mk, M_lf_mk, M_mo_mk, M_un_mk, M_ch_mk, M_lc_mk, M_ac_mk, M_bd_mk, h1, h2, h3, h4, h5, h6, h7, h8, h9, h10, h11, h12, h13, ha, hn, eb]
      · simp only [C_me_mk, C_ra_mk, C_co_mk, C_al_mk, C_re_mk, C_lo_mk, C_rs_mk, C_li_mk, C_he_mk, C_go_mk, C_br_mk, C_cu_mk, C_lc_mk, C_ac_mk, M_cd_mk, M_pt_mk, M_mn_mk, M_ev_mk, M_co_mk, M_al_mk, M_re_mk, M_lo_mk, M_rs_mk, M_li_mk, M_he_mk, M_go_mk, M_sp_mk, M_ba_mk, M_le_mk, M_lf_mk, M_mo_mk, M_un_mk, M_ch_mk, M_lc_mk, M_ac_mk, M_bd_mk]; exact h14
    · rw [eH]
      refine ⟨?_, ?_, ?_, ?_, ?_⟩
      · rw [M_co_mk]; omega
      · rw [M_al_mk, M_co_mk]; omega
      · rw [M_rs_mk]; omega
      · rw [M_li_mk]; omega
      · rw [M_sp_mk]; omega
  · rw [if_pos (by rw [Int64.le_iff_toInt_le] at y; rw [Int64.lt_iff_toInt_lt]; omega)] at eH
    rw [if_neg y] at eI
    exact Or.inl ⟨by rw [eH], me_b eI⟩
set_option maxHeartbeats 2000000 in
theorem es_2 {me ra : Int32} {c : CR} {t : SR} {m : MR} {T : TR} {p e mm : Int32} {ev : ER} {mr : Int64} {jc ju : Int} (h : RS me ra c t m) (n : NC jc ju m) (s : NS me ju m) (hj0 : 0 ≤ jc) (hj : jc ≤ 35) (hu : ju ≤ 36) (hT : T_ra T (Int32.toNatClampNeg p) = ra) (hra : 0 ≤ ra.toInt ∧ ra.toInt ≤ 1000000) (hk : E_ki ev = (T_ki T (Int32.toNatClampNeg e))) (ha : E_am ev = (T_am T (Int32.toNatClampNeg e))) (hn : E_nu ev = (T_nu T (Int32.toNatClampNeg e))) (hv : EV (T_ki T (Int32.toNatClampNeg e)) (T_am T (Int32.toNatClampNeg e)) (T_nu T (Int32.toNatClampNeg e))) (g : M_go m = 0) (hh : M_he m = 0) (k : (T_ki T (Int32.toNatClampNeg e)) = 2) : ES me ra c t m T p e mm ev mr jc ju := by
  have hs0 := h
  have hb := bk_int n (by omega)
  obtain ⟨⟨⟨h1, h2, h3, h4, h5⟩, ⟨h6, h7, h8⟩, ⟨h9, h10⟩, ⟨h11, h12, h13⟩, h14⟩, hst⟩ := h
  have n0 := n
  obtain ⟨⟨n1, n2⟩, ⟨n3, n4⟩, ⟨n5, n6⟩, ⟨n7, n8⟩, ⟨n9, n10⟩⟩ := n
  have eb : m_X0_book c t = M_co m - M_al m := by unfold m_X0_book; rw [h1, h2]
  have ebm : m_X5_book m T = M_co m - M_al m := rfl
  have qb : C_go c = 0 ↔ M_go m = 0 := by rw [h8]
  have hs := s
  have kc : E_ki ev = 2 := by rw [hk, k]
  have gc : C_go c = 0 := by rw [h8, g]
  have h6k : ¬ 6 ≤ (T_ki T (Int32.toNatClampNeg e)) ∨ 6 ≤ (T_ki T (Int32.toNatClampNeg e)) := by by_cases z : 6 ≤ (T_ki T (Int32.toNatClampNeg e)); exact Or.inr z; exact Or.inl z
  obtain ⟨-, ⟨v1, v2⟩, v3, v4⟩ := hv
  generalize eA : (T_am T (Int32.toNatClampNeg e)) = A at *
  generalize eU : (T_nu T (Int32.toNatClampNeg e)) = U at *
  have hc : C_he c = 0 := by rw [h7, hh]
  have eI := ib_2 (t := t) (mr := mr) gc hc kc
  have eH := hp_2 (mm := mm) g hh k
  rw [eA] at eH
  refine es_lt hs0 n0 hs hj0 hj hu hT hra hk (by rw [eA]; exact ha) (by rw [eU]; exact hn) (by rw [k]; decide) eI (by rw [eH]; (show ¬ (1 : Int32) = 0); decide) ?_ ?_
  · rw [eH]
    by_cases y : A ≤ M_co m - M_al m
    · rw [ap_2a kc (by rw [eb, ha]; exact y)]
      show RC me ra _ (m_X5_values m T A)
      rw [va_1 (by rw [ebm]; exact y), ebm]
      refine ⟨⟨?_, ?_, ?_, ?_, ?_⟩, ⟨?_, ?_, ?_⟩, ⟨?_, ?_⟩, ⟨?_, ?_, ?_⟩, ?_⟩
      · simp only [C_me_mk, C_ra_mk, C_co_mk, C_al_mk, C_re_mk, C_lo_mk, C_rs_mk, C_li_mk, C_he_mk, C_go_mk, C_br_mk, C_cu_mk, C_lc_mk, C_ac_mk, M_cd_mk, M_pt_mk, M_mn_mk, M_ev_mk, M_co_mk, M_al_mk, M_re_mk, M_lo_mk, M_rs_mk, M_li_mk, M_he_mk, M_go_mk, M_sp_mk, M_ba_mk, M_le_mk, M_lf_mk, M_mo_mk, M_un_mk, M_ch_mk, M_lc_mk, M_ac_mk, M_bd_mk, h1, h2, h3, h4, h5, h6, h7, h8, h9, h10, h11, h12, h13, ha, hn, eb]
      · simp only [C_me_mk, C_ra_mk, C_co_mk, C_al_mk, C_re_mk, C_lo_mk, C_rs_mk, C_li_mk, C_he_mk, C_go_mk, C_br_mk, C_cu_mk, C_lc_mk, C_ac_mk, M_cd_mk, M_pt_mk, M_mn_mk, M_ev_mk, M_co_mk, M_al_mk, M_re_mk, M_lo_mk, M_rs_mk, M_li_mk, M_he_mk, M_go_mk, M_sp_mk, M_ba_mk, M_le_mk, M_lf_mk, M_mo_mk, M_un_mk, M_ch_mk, M_lc_mk, M_ac_mk, M_bd_mk, h1, h2, h3, h4, h5, h6, h7, h8, h9, h10, h11, h12, h13, ha, hn, eb]
      · simp only [C_me_mk, C_ra_mk, C_co_mk, C_al_mk, C_re_mk, C_lo_mk, C_rs_mk, C_li_mk, C_he_mk, C_go_mk, C_br_mk, C_cu_mk, C_lc_mk, C_ac_mk, M_cd_mk, M_pt_mk, M_mn_mk, M_ev_mk, M_co_mk, M_al_mk, M_re_mk, M_lo_mk, M_rs_mk, M_li_mk, M_he_mk, M_go_mk, M_sp_mk, M_ba_mk, M_le_mk, M_lf_mk, M_mo_mk, M_un_mk, M_ch_mk, M_lc_mk, M_ac_mk, M_bd_mk, h1, h2, h3, h4, h5, h6, h7, h8, h9, h10, h11, h12, h13, ha, hn, eb]
      · simp only [C_me_mk, C_ra_mk, C_co_mk, C_al_mk, C_re_mk, C_lo_mk, C_rs_mk, C_li_mk, C_he_mk, C_go_mk, C_br_mk, C_cu_mk, C_lc_mk, C_ac_mk, M_cd_mk, M_pt_mk, M_mn_mk, M_ev_mk, M_co_mk, M_al_mk, M_re_mk, M_lo_mk, M_rs_mk, M_li_mk, M_he_mk, M_go_mk, M_sp_mk, M_ba_mk, M_le_mk, M_lf_mk, M_mo_mk, M_un_mk, M_ch_mk, M_lc_mk, M_ac_mk, M_bd_mk, h1, h2, h3, h4, h5, h6, h7, h8, h9, h10, h11, h12, h13, ha, hn, eb]
      · simp only [C_me_mk, C_ra_mk, C_co_mk, C_al_mk, C_re_mk, C_lo_mk, C_rs_mk, C_li_mk, C_he_mk, C_go_mk, C_br_mk, C_cu_mk, C_lc_mk, C_ac_mk, M_cd_mk, M_pt_mk, M_mn_mk, M_ev_mk, M_co_mk, M_al_mk, M_re_mk, M_lo_mk, M_rs_mk, M_li_mk, M_he_mk, M_go_mk, M_sp_mk, M_ba_mk, M_le_mk, M_lf_mk, M_mo_mk, M_un_mk, M_ch_mk, M_lc_mk, M_ac_mk, M_bd_mk, h1, h2, h3, h4, h5, h6, h7, h8, h9, h10, h11, h12, h13, ha, hn, eb]
      · simp only [C_me_mk, C_ra_mk, C_co_mk, C_al_mk, C_re_mk, C_lo_mk, C_rs_mk, C_li_mk, C_he_mk, C_go_mk, C_br_mk, C_cu_mk, C_lc_mk, C_ac_mk, M_cd_mk, M_pt_mk, M_mn_mk, M_ev_mk, M_co_mk, M_al_mk, M_re_mk, M_lo_mk, M_rs_mk, M_li_mk, M_he_mk, M_go_mk, M_sp_mk, M_ba_mk, M_le_mk, M_lf_mk, M_mo_mk, M_un_mk, M_ch_mk, M_lc_mk, M_ac_mk, M_bd_mk, h1, h2, h3, h4, h5, h6, h7, h8, h9, h10, h11, h12, h13, ha, hn, eb]
      · simp only [C_me_mk, C_ra_mk, C_co_mk, C_al_mk, C_re_mk, C_lo_mk, C_rs_mk, C_li_mk, C_he_mk, C_go_mk, C_br_mk, C_cu_mk, C_lc_mk, C_ac_mk, M_cd_mk, M_pt_mk, M_mn_mk, M_ev_mk, M_co_mk, M_al_mk, M_re_mk, M_lo_mk, M_rs_mk, M_li_mk, M_he_mk, M_go_mk, M_sp_mk, M_ba_mk, M_le_mk, M_lf_mk, M_mo_mk, M_un_mk, M_ch_mk, M_lc_mk, M_ac_mk, M_bd_mk, h1, h2, h3, h4, h5, h6, h7, h8, h9, h10, h11, h12, h13, ha, hn, eb]
      · simp only [C_me_mk, C_ra_mk, C_co_mk, C_al_mk, C_re_mk, C_lo_mk, C_rs_mk, C_li_mk, C_he_mk, C_go_mk, C_br_mk, C_cu_mk, C_lc_mk, C_ac_mk, M_cd_mk, M_pt_mk, M_mn_mk, M_ev_mk, M_co_mk, M_al_mk, M_re_mk, M_lo_mk, M_rs_mk, M_li_mk, M_he_mk, M_go_mk, M_sp_mk, M_ba_mk, M_le_mk, M_lf_mk, M_mo_mk, M_un_mk, M_ch_mk, M_lc_mk, M_ac_mk, M_bd_mk, h1, h2, h3, h4, h5, h6, h7, h8, h9, h10, h11, h12, h13, ha, hn, eb]
      · simp only [C_me_mk, C_ra_mk, C_co_mk, C_al_mk, C_re_mk, C_lo_mk, C_rs_mk, C_li_mk, C_he_mk, C_go_mk, C_br_mk, C_cu_mk, C_lc_mk, C_ac_mk, M_cd_mk, M_pt_mk, M_mn_mk, M_ev_mk, M_co_mk, M_al_mk, M_re_mk, M_lo_mk, M_rs_mk, M_li_mk, M_he_mk, M_go_mk, M_sp_mk, M_ba_mk, M_le_mk, M_lf_mk, M_mo_mk, M_un_mk, M_ch_mk, M_lc_mk, M_ac_mk, M_bd_mk, h1, h2, h3, h4, h5, h6, h7, h8, h9, h10, h11, h12, h13, ha, hn, eb]
      · simp only [C_me_mk, C_ra_mk, C_co_mk, C_al_mk, C_re_mk, C_lo_mk, C_rs_mk, C_li_mk, C_he_mk, C_go_mk, C_br_mk, C_cu_mk, C_lc_mk, C_ac_mk, M_cd_mk, M_pt_mk, M_mn_mk, M_ev_mk, M_co_mk, M_al_mk, M_re_mk, M_lo_mk, M_rs_mk, M_li_mk, M_he_mk, M_go_mk, M_sp_mk, M_ba_mk, M_le_mk, M_lf_mk, M_mo_mk, M_un_mk, M_ch_mk, M_lc_mk, M_ac_mk, M_bd_mk, h1, h2, h3, h4, h5, h6, h7, h8, h9, h10, h11, h12, h13, ha, hn, eb]
      · simp only [C_me_mk, C_ra_mk, C_co_mk, C_al_mk, C_re_mk, C_lo_mk, C_rs_mk, C_li_mk, C_he_mk, C_go_mk, C_br_mk, C_cu_mk, C_lc_mk, C_ac_mk, M_cd_mk, M_pt_mk, M_mn_mk, M_ev_mk, M_co_mk, M_al_mk, M_re_mk, M_lo_mk, M_rs_mk, M_li_mk, M_he_mk, M_go_mk, M_sp_mk, M_ba_mk, M_le_mk, M_lf_mk, M_mo_mk, M_un_mk, M_ch_mk, M_lc_mk, M_ac_mk, M_bd_mk, h1, h2, h3, h4, h5, h6, h7, h8, h9, h10, h11, h12, h13, ha, hn, eb]
      · simp only [C_me_mk, C_ra_mk, C_co_mk, C_al_mk, C_re_mk, C_lo_mk, C_rs_mk, C_li_mk, C_he_mk, C_go_mk, C_br_mk, C_cu_mk, C_lc_mk, C_ac_mk, M_cd_mk, M_pt_mk, M_mn_mk, M_ev_mk, M_co_mk, M_al_mk, M_re_mk, M_lo_mk, M_rs_mk, M_li_mk, M_he_mk, M_go_mk, M_sp_mk, M_ba_mk, M_le_mk, M_lf_mk, M_mo_mk, M_un_mk, M_ch_mk, M_lc_mk, M_ac_mk, M_bd_mk, h1, h2, h3, h4, h5, h6, h7, h8, h9, h10, h11, h12, h13, ha, hn, eb]
      · simp only [C_me_mk, C_ra_mk, C_co_mk, C_al_mk, C_re_mk, C_lo_mk, C_rs_mk, C_li_mk, C_he_mk, C_go_mk, C_br_mk, C_cu_mk, C_lc_mk, C_ac_mk, M_cd_mk, M_pt_mk, M_mn_mk, M_ev_mk, M_co_mk, M_al_mk, M_re_mk, M_lo_mk, M_rs_mk, M_li_mk, M_he_mk, M_go_mk, M_sp_mk, M_ba_mk, M_le_mk, M_lf_mk, M_mo_mk, M_un_mk, M_ch_mk, M_lc_mk, M_ac_mk, M_bd_mk, h1, h2, h3, h4, h5, h6, h7, h8, h9, h10, h11, h12, h13, ha, hn, eb]
      · simp only [C_me_mk, C_ra_mk, C_co_mk, C_al_mk, C_re_mk, C_lo_mk, C_rs_mk, C_li_mk, C_he_mk, C_go_mk, C_br_mk, C_cu_mk, C_lc_mk, C_ac_mk, M_cd_mk, M_pt_mk, M_mn_mk, M_ev_mk, M_co_mk, M_al_mk, M_re_mk, M_lo_mk, M_rs_mk, M_li_mk, M_he_mk, M_go_mk, M_sp_mk, M_ba_mk, M_le_mk, M_lf_mk, M_mo_mk, M_un_mk, M_ch_mk, M_lc_mk, M_ac_mk, M_bd_mk]; exact h14
    · rw [ap_2b kc (by rw [eb, ha]; exact y)]
      show RC me ra _ (m_X5_values m T A)
      rw [va_2 (by rw [ebm]; exact y), ebm]
      refine ⟨⟨?_, ?_, ?_, ?_, ?_⟩, ⟨?_, ?_, ?_⟩, ⟨?_, ?_⟩, ⟨?_, ?_, ?_⟩, ?_⟩
      · simp only [C_me_mk, C_ra_mk, C_co_mk, C_al_mk, C_re_mk, C_lo_mk, C_rs_mk, C_li_mk, C_he_mk, C_go_mk, C_br_mk, C_cu_mk, C_lc_mk, C_ac_mk, M_cd_mk, M_pt_mk, M_mn_mk, M_ev_mk, M_co_mk, M_al_mk, M_re_mk, M_lo_mk, M_rs_mk, M_li_mk, M_he_mk, M_go_mk, M_sp_mk, M_ba_mk, M_le_mk, M_lf_mk, M_mo_mk, M_un_mk, M_ch_mk, M_lc_mk, M_ac_mk, M_bd_mk, h1, h2, h3, h4, h5, h6, h7, h8, h9, h10, h11, h12, h13, ha, hn, eb]
      · simp only [C_me_mk, C_ra_mk, C_co_mk, C_al_mk, C_re_mk, C_lo_mk, C_rs_mk, C_li_mk, C_he_mk, C_go_mk, C_br_mk, C_cu_mk, C_lc_mk, C_ac_mk, M_cd_mk, M_pt_mk, M_mn_mk, M_ev_mk, M_co_mk, M_al_mk, M_re_mk, M_lo_mk, M_rs_mk, M_li_mk, M_he_mk, M_go_mk, M_sp_mk, M_ba_mk, M_le_mk, M_lf_mk, M_mo_mk, M_un_mk, M_ch_mk, M_lc_mk, M_ac_mk, M_bd_mk, h1, h2, h3, h4, h5, h6, h7, h8, h9, h10, h11, h12, h13, ha, hn, eb]
      · simp only [C_me_mk, C_ra_mk, C_co_mk, C_al_mk, C_re_mk, C_lo_mk, C_rs_mk, C_li_mk, C_he_mk, C_go_mk, C_br_mk, C_cu_mk, C_lc_mk, C_ac_mk, M_cd_mk, M_pt_mk, M_mn_mk, M_ev_mk, M_co_mk, M_al_mk, M_re_mk, M_lo_mk, M_rs_mk, M_li_mk, M_he_mk, M_go_mk, M_sp_mk, M_ba_mk, M_le_mk, M_lf_mk, M_mo_mk, M_un_mk, M_ch_mk, M_lc_mk, M_ac_mk, M_bd_mk, h1, h2, h3, h4, h5, h6, h7, h8, h9, h10, h11, h12, h13, ha, hn, eb]
      · simp only [C_me_mk, C_ra_mk, C_co_mk, C_al_mk, C_re_mk, C_lo_mk, C_rs_mk, C_li_mk, C_he_mk, C_go_mk, C_br_mk, C_cu_mk, C_lc_mk, C_ac_mk, M_cd_mk, M_pt_mk, M_mn_mk, M_ev_mk, M_co_mk, M_al_mk, M_re_mk, M_lo_mk, M_rs_mk, M_li_mk, M_he_mk, M_go_mk, M_sp_mk, M_ba_mk, M_le_mk, M_lf_mk, M_mo_mk, M_un_mk, M_ch_mk, M_lc_mk, M_ac_mk, M_bd_mk, h1, h2, h3, h4, h5, h6, h7, h8, h9, h10, h11, h12, h13, ha, hn, eb]
      · simp only [C_me_mk, C_ra_mk, C_co_mk, C_al_mk, C_re_mk, C_lo_mk, C_rs_mk, C_li_mk, C_he_mk, C_go_mk, C_br_mk, C_cu_mk, C_lc_mk, C_ac_mk, M_cd_mk, M_pt_mk, M_mn_mk, M_ev_mk, M_co_mk, M_al_mk, M_re_mk, M_lo_mk, M_rs_mk, M_li_mk, M_he_mk, M_go_mk, M_sp_mk, M_ba_mk, M_le_mk, M_lf_mk, M_mo_mk, M_un_mk, M_ch_mk, M_lc_mk, M_ac_mk, M_bd_mk, h1, h2, h3, h4, h5, h6, h7, h8, h9, h10, h11, h12, h13, ha, hn, eb]
      · simp only [C_me_mk, C_ra_mk, C_co_mk, C_al_mk, C_re_mk, C_lo_mk, C_rs_mk, C_li_mk, C_he_mk, C_go_mk, C_br_mk, C_cu_mk, C_lc_mk, C_ac_mk, M_cd_mk, M_pt_mk, M_mn_mk, M_ev_mk, M_co_mk, M_al_mk, M_re_mk, M_lo_mk, M_rs_mk, M_li_mk, M_he_mk, M_go_mk, M_sp_mk, M_ba_mk, M_le_mk, M_lf_mk, M_mo_mk, M_un_mk, M_ch_mk, M_lc_mk, M_ac_mk, M_bd_mk, h1, h2, h3, h4, h5, h6, h7, h8, h9, h10, h11, h12, h13, ha, hn, eb]
      · simp only [C_me_mk, C_ra_mk, C_co_mk, C_al_mk, C_re_mk, C_lo_mk, C_rs_mk, C_li_mk, C_he_mk, C_go_mk, C_br_mk, C_cu_mk, C_lc_mk, C_ac_mk, M_cd_mk, M_pt_mk, M_mn_mk, M_ev_mk, M_co_mk, M_al_mk, M_re_mk, M_lo_mk, M_rs_mk, M_li_mk, M_he_mk, M_go_mk, M_sp_mk, M_ba_mk, M_le_mk, M_lf_mk, M_mo_mk, M_un_mk, M_ch_mk, M_lc_mk, M_ac_mk, M_bd_mk, h1, h2, h3, h4, h5, h6, h7, h8, h9, h10, h11, h12, h13, ha, hn, eb]
      · simp only [C_me_mk, C_ra_mk, C_co_mk, C_al_mk, C_re_mk, C_lo_mk, C_rs_mk, C_li_mk, C_he_mk, C_go_mk, C_br_mk, C_cu_mk, C_lc_mk, C_ac_mk, M_cd_mk, M_pt_mk, M_mn_mk, M_ev_mk, M_co_mk, M_al_mk, M_re_mk, M_lo_mk, M_rs_mk, M_li_mk, M_he_mk, M_go_mk, M_sp_mk, M_ba_mk, M_le_mk, M_lf_mk, M_mo_mk, M_un_mk, M_ch_mk, M_lc_mk, M_ac_mk, M_bd_mk, h1, h2, h3, h4, h5, h6, h7, h8, h9, h10, h11, h12, h13, ha, hn, eb]
      · simp only [C_me_mk, C_ra_mk, C_co_mk, C_al_mk, C_re_mk, C_lo_mk, C_rs_mk, C_li_mk, C_he_mk, C_go_mk, C_br_mk, C_cu_mk, C_lc_mk, C_ac_mk, M_cd_mk, M_pt_mk, M_mn_mk, M_ev_mk, M_co_mk, M_al_mk, M_re_mk, M_lo_mk, M_rs_mk, M_li_mk, M_he_mk, M_go_mk, M_sp_mk, M_ba_mk, M_le_mk, M_lf_mk, M_mo_mk, M_un_mk, M_ch_mk, M_lc_mk, M_ac_mk, M_bd_mk, h1, h2, h3, h4, h5, h6, h7, h8, h9, h10, h11, h12, h13, ha, hn, eb]
      · simp only [C_me_mk, C_ra_mk, C_co_mk, C_al_mk, C_re_mk, C_lo_mk, C_rs_mk, C_li_mk, C_he_mk, C_go_mk, C_br_mk, C_cu_mk, C_lc_mk, C_ac_mk, M_cd_mk, M_pt_mk, M_mn_mk, M_ev_mk, M_co_mk, M_al_mk, M_re_mk, M_lo_mk, M_rs_mk, M_li_mk, M_he_mk, M_go_mk, M_sp_mk, M_ba_mk, M_le_mk, M_lf_mk, M_mo_mk, M_un_mk, M_ch_mk, M_lc_mk, M_ac_mk, M_bd_mk, h1, h2, h3, h4, h5, h6, h7, h8, h9, h10, h11, h12, h13, ha, hn, eb]
      · simp only [C_me_mk, C_ra_mk, C_co_mk, C_al_mk, C_re_mk, C_lo_mk, C_rs_mk, C_li_mk, C_he_mk, C_go_mk, C_br_mk, C_cu_mk, C_lc_mk, C_ac_mk, M_cd_mk, M_pt_mk, M_mn_mk, M_ev_mk, M_co_mk, M_al_mk, M_re_mk, M_lo_mk, M_rs_mk, M_li_mk, M_he_mk, M_go_mk, M_sp_mk, M_ba_mk, M_le_mk, M_lf_mk, M_mo_mk, M_un_mk, M_ch_mk, M_lc_mk, M_ac_mk, M_bd_mk, h1, h2, h3, h4, h5, h6, h7, h8, h9, h10, h11, h12, h13, ha, hn, eb]
      · simp only [C_me_mk, C_ra_mk, C_co_mk, C_al_mk, C_re_mk, C_lo_mk, C_rs_mk, C_li_mk, C_he_mk, C_go_mk, C_br_mk, C_cu_mk, C_lc_mk, C_ac_mk, M_cd_mk, M_pt_mk, M_mn_mk, M_ev_mk, M_co_mk, M_al_mk, M_re_mk, M_lo_mk, M_rs_mk, M_li_mk, M_he_mk, M_go_mk, M_sp_mk, M_ba_mk, M_le_mk, M_lf_mk, M_mo_mk, M_un_mk, M_ch_mk, M_lc_mk, M_ac_mk, M_bd_mk, h1, h2, h3, h4, h5, h6, h7, h8, h9, h10, h11, h12, h13, ha, hn, eb]
      · simp only [C_me_mk, C_ra_mk, C_co_mk, C_al_mk, C_re_mk, C_lo_mk, C_rs_mk, C_li_mk, C_he_mk, C_go_mk, C_br_mk, C_cu_mk, C_lc_mk, C_ac_mk, M_cd_mk, M_pt_mk, M_mn_mk, M_ev_mk, M_co_mk, M_al_mk, M_re_mk, M_lo_mk, M_rs_mk, M_li_mk, M_he_mk, M_go_mk, M_sp_mk, M_ba_mk, M_le_mk, M_lf_mk, M_mo_mk, M_un_mk, M_ch_mk, M_lc_mk, M_ac_mk, M_bd_mk, h1, h2, h3, h4, h5, h6, h7, h8, h9, h10, h11, h12, h13, ha, hn, eb]
      · simp only [C_me_mk, C_ra_mk, C_co_mk, C_al_mk, C_re_mk, C_lo_mk, C_rs_mk, C_li_mk, C_he_mk, C_go_mk, C_br_mk, C_cu_mk, C_lc_mk, C_ac_mk, M_cd_mk, M_pt_mk, M_mn_mk, M_ev_mk, M_co_mk, M_al_mk, M_re_mk, M_lo_mk, M_rs_mk, M_li_mk, M_he_mk, M_go_mk, M_sp_mk, M_ba_mk, M_le_mk, M_lf_mk, M_mo_mk, M_un_mk, M_ch_mk, M_lc_mk, M_ac_mk, M_bd_mk]; exact h14
  · rw [eH]
    show NC (jc + 1) ju (m_X5_values m T A)
    by_cases y : A ≤ M_co m - M_al m
    · rw [va_1 (by rw [ebm]; exact y)]
      refine ⟨?_, ?_, ?_, ?_, ?_⟩
      · rw [M_co_mk]; omega
      · rw [M_al_mk, M_co_mk]; rw [i64_0]; omega
      · rw [M_rs_mk]; omega
      · rw [M_li_mk]; omega
      · rw [M_sp_mk]; omega
    · rw [va_2 (by rw [ebm]; exact y)]
      refine ⟨?_, ?_, ?_, ?_, ?_⟩
      · rw [M_co_mk]; omega
      · rw [M_al_mk, M_co_mk]; rw [i64_0]; omega
      · rw [M_rs_mk]; omega
      · rw [M_li_mk]; omega
      · rw [M_sp_mk]; omega
set_option maxHeartbeats 2000000 in
theorem es_3 {me ra : Int32} {c : CR} {t : SR} {m : MR} {T : TR} {p e mm : Int32} {ev : ER} {mr : Int64} {jc ju : Int} (h : RS me ra c t m) (n : NC jc ju m) (s : NS me ju m) (hj0 : 0 ≤ jc) (hj : jc ≤ 35) (hu : ju ≤ 36) (hT : T_ra T (Int32.toNatClampNeg p) = ra) (hra : 0 ≤ ra.toInt ∧ ra.toInt ≤ 1000000) (hk : E_ki ev = (T_ki T (Int32.toNatClampNeg e))) (ha : E_am ev = (T_am T (Int32.toNatClampNeg e))) (hn : E_nu ev = (T_nu T (Int32.toNatClampNeg e))) (hv : EV (T_ki T (Int32.toNatClampNeg e)) (T_am T (Int32.toNatClampNeg e)) (T_nu T (Int32.toNatClampNeg e))) (g : M_go m = 0) (hh : M_he m = 0) (k : (T_ki T (Int32.toNatClampNeg e)) = 3) : ES me ra c t m T p e mm ev mr jc ju := by
  have hs0 := h
  have hb := bk_int n (by omega)
  obtain ⟨⟨⟨h1, h2, h3, h4, h5⟩, ⟨h6, h7, h8⟩, ⟨h9, h10⟩, ⟨h11, h12, h13⟩, h14⟩, hst⟩ := h
  have n0 := n
  obtain ⟨⟨n1, n2⟩, ⟨n3, n4⟩, ⟨n5, n6⟩, ⟨n7, n8⟩, ⟨n9, n10⟩⟩ := n
  have eb : m_X0_book c t = M_co m - M_al m := by unfold m_X0_book; rw [h1, h2]
  have ebm : m_X5_book m T = M_co m - M_al m := rfl
  have qb : C_go c = 0 ↔ M_go m = 0 := by rw [h8]
  have hs := s
  have kc : E_ki ev = 3 := by rw [hk, k]
  have gc : C_go c = 0 := by rw [h8, g]
  have h6k : ¬ 6 ≤ (T_ki T (Int32.toNatClampNeg e)) ∨ 6 ≤ (T_ki T (Int32.toNatClampNeg e)) := by by_cases z : 6 ≤ (T_ki T (Int32.toNatClampNeg e)); exact Or.inr z; exact Or.inl z
  obtain ⟨-, ⟨v1, v2⟩, v3, v4⟩ := hv
  generalize eA : (T_am T (Int32.toNatClampNeg e)) = A at *
  generalize eU : (T_nu T (Int32.toNatClampNeg e)) = U at *
  have hc : C_he c = 0 := by rw [h7, hh]
  have eI := ib_3 (t := t) (mr := mr) gc hc kc
  have eH := hp_3 (mm := mm) g hh k
  rw [eA] at eH
  rw [eb, ha] at eI
  by_cases y : A < M_co m - M_al m
  · rw [im_1 (by rw [ebm]; exact y), ebm] at eH
    rw [if_pos y] at eI
    have ec : (M_co m - A).toInt = (M_co m).toInt - A.toInt := i64_sub (by omega) (by omega)
    rw [Int64.lt_iff_toInt_lt, hb] at y
    refine es_lt hs0 n0 hs hj0 hj hu hT hra hk (by rw [eA]; exact ha) (by rw [eU]; exact hn) (by rw [k]; decide) eI (by rw [eH]; (show ¬ (1 : Int32) = 0); decide) ?_ ?_
    · rw [ap_3 kc, eH]
      refine ⟨⟨?_, ?_, ?_, ?_, ?_⟩, ⟨?_, ?_, ?_⟩, ⟨?_, ?_⟩, ⟨?_, ?_, ?_⟩, ?_⟩
      · simp only [C_me_mk, C_ra_mk, C_co_mk, C_al_mk, C_re_mk, C_lo_mk, C_rs_mk, C_li_mk, C_he_mk, C_go_mk, C_br_mk, C_cu_mk, C_lc_mk, C_ac_mk, M_cd_mk, M_pt_mk, M_mn_mk, M_ev_mk, M_co_mk, M_al_mk, M_re_mk, M_lo_mk, M_rs_mk, M_li_mk, M_he_mk, M_go_mk, M_sp_mk, M_ba_mk, M_le_mk, M_lf_mk, M_mo_mk, M_un_mk, M_ch_mk, M_lc_mk, M_ac_mk, M_bd_mk, h1, h2, h3, h4, h5, h6, h7, h8, h9, h10, h11, h12, h13, ha, hn, eb]
      · simp only [C_me_mk, C_ra_mk, C_co_mk, C_al_mk, C_re_mk, C_lo_mk, C_rs_mk, C_li_mk, C_he_mk, C_go_mk, C_br_mk, C_cu_mk, C_lc_mk, C_ac_mk, M_cd_mk, M_pt_mk, M_mn_mk, M_ev_mk, M_co_mk, M_al_mk, M_re_mk, M_lo_mk, M_rs_mk, M_li_mk, M_he_mk, M_go_mk, M_sp_mk, M_ba_mk, M_le_mk, M_lf_mk, M_mo_mk, M_un_mk, M_ch_mk, M_lc_mk, M_ac_mk, M_bd_mk, h1, h2, h3, h4, h5, h6, h7, h8, h9, h10, h11, h12, h13, ha, hn, eb] <;> exact r_3 ..
      · simp only [C_me_mk, C_ra_mk, C_co_mk, C_al_mk, C_re_mk, C_lo_mk, C_rs_mk, C_li_mk, C_he_mk, C_go_mk, C_br_mk, C_cu_mk, C_lc_mk, C_ac_mk, M_cd_mk, M_pt_mk, M_mn_mk, M_ev_mk, M_co_mk, M_al_mk, M_re_mk, M_lo_mk, M_rs_mk, M_li_mk, M_he_mk, M_go_mk, M_sp_mk, M_ba_mk, M_le_mk, M_lf_mk, M_mo_mk, M_un_mk, M_ch_mk, M_lc_mk, M_ac_mk, M_bd_mk, h1, h2, h3, h4, h5, h6, h7, h8, h9, h10, h11, h12, h13, ha, hn, eb]
      · simp only [C_me_mk, C_ra_mk, C_co_mk, C_al_mk, C_re_mk, C_lo_mk, C_rs_mk, C_li_mk, C_he_mk, C_go_mk, C_br_mk, C_cu_mk, C_lc_mk, C_ac_mk, M_cd_mk, M_pt_mk, M_mn_mk, M_ev_mk, M_co_mk, M_al_mk, M_re_mk, M_lo_mk, M_rs_mk, M_li_mk, M_he_mk, M_go_mk, M_sp_mk, M_ba_mk, M_le_mk, M_lf_mk, M_mo_mk, M_un_mk, M_ch_mk, M_lc_mk, M_ac_mk, M_bd_mk, h1, h2, h3, h4, h5, h6, h7, h8, h9, h10, h11, h12, h13, ha, hn, eb]
      · simp only [C_me_mk, C_ra_mk, C_co_mk, C_al_mk, C_re_mk, C_lo_mk, C_rs_mk, C_li_mk, C_he_mk, C_go_mk, C_br_mk, C_cu_mk, C_lc_mk, C_ac_mk, M_cd_mk, M_pt_mk, M_mn_mk, M_ev_mk, M_co_mk, M_al_mk, M_re_mk, M_lo_mk, M_rs_mk, M_li_mk, M_he_mk, M_go_mk, M_sp_mk, M_ba_mk, M_le_mk, M_lf_mk, M_mo_mk, M_un_mk, M_ch_mk, M_lc_mk, M_ac_mk, M_bd_mk, h1, h2, h3, h4, h5, h6, h7, h8, h9, h10, h11, h12, h13, ha, hn, eb]
      · simp only [C_me_mk, C_ra_mk, C_co_mk, C_al_mk, C_re_mk, C_lo_mk, C_rs_mk, C_li_mk, C_he_mk, C_go_mk, C_br_mk, C_cu_mk, C_lc_mk, C_ac_mk, M_cd_mk, M_pt_mk, M_mn_mk, M_ev_mk, M_co_mk, M_al_mk, M_re_mk, M_lo_mk, M_rs_mk, M_li_mk, M_he_mk, M_go_mk, M_sp_mk, M_ba_mk, M_le_mk, M_lf_mk, M_mo_mk, M_un_mk, M_ch_mk, M_lc_mk, M_ac_mk, M_bd_mk, h1, h2, h3, h4, h5, h6, h7, h8, h9, h10, h11, h12, h13, ha, hn, eb]
      · simp only [C_me_mk, C_ra_mk, C_co_mk, C_al_mk, C_re_mk, C_lo_mk, C_rs_mk, C_li_mk, C_he_mk, C_go_mk, C_br_mk, C_cu_mk, C_lc_mk, C_ac_mk, M_cd_mk, M_pt_mk, M_mn_mk, M_ev_mk, M_co_mk, M_al_mk, M_re_mk, M_lo_mk, M_rs_mk, M_li_mk, M_he_mk, M_go_mk, M_sp_mk, M_ba_mk, M_le_mk, M_lf_mk, M_mo_mk, M_un_mk, M_ch_mk, M_lc_mk, M_ac_mk, M_bd_mk, h1, h2, h3, h4, h5, h6, h7, h8, h9, h10, h11, h12, h13, ha, hn, eb]
      · simp only [C_me_mk, C_ra_mk, C_co_mk, C_al_mk, C_re_mk, C_lo_mk, C_rs_mk, C_li_mk, C_he_mk, C_go_mk, C_br_mk, C_cu_mk, C_lc_mk, C_ac_mk, M_cd_mk, M_pt_mk, M_mn_mk, M_ev_mk, M_co_mk, M_al_mk, M_re_mk, M_lo_mk, M_rs_mk, M_li_mk, M_he_mk, M_go_mk, M_sp_mk, M_ba_mk, M_le_mk, M_lf_mk, M_mo_mk, M_un_mk, M_ch_mk, M_lc_mk, M_ac_mk, M_bd_mk, h1, h2, h3, h4, h5, h6, h7, h8, h9, h10, h11, h12, h13, ha, hn, eb]
      · simp only [C_me_mk, C_ra_mk, C_co_mk, C_al_mk, C_re_mk, C_lo_mk, C_rs_mk, C_li_mk, C_he_mk, C_go_mk, C_br_mk, C_cu_mk, C_lc_mk, C_ac_mk, M_cd_mk, M_pt_mk, M_mn_mk, M_ev_mk, M_co_mk, M_al_mk, M_re_mk, M_lo_mk, M_rs_mk, M_li_mk, M_he_mk, M_go_mk, M_sp_mk, M_ba_mk, M_le_mk, M_lf_mk, M_mo_mk, M_un_mk, M_ch_mk, M_lc_mk, M_ac_mk, M_bd_mk, h1, h2, h3, h4, h5, h6, h7, h8, h9, h10, h11, h12, h13, ha, hn, eb]
      · simp only [C_me_mk, C_ra_mk, C_co_mk, C_al_mk, C_re_mk, C_lo_mk, C_rs_mk, C_li_mk, C_he_mk, C_go_mk, C_br_mk, C_cu_mk, C_lc_mk, C_ac_mk, M_cd_mk, M_pt_mk, M_mn_mk, M_ev_mk, M_co_mk, M_al_mk, M_re_mk, M_lo_mk, M_rs_mk, M_li_mk, M_he_mk, M_go_mk, M_sp_mk, M_ba_mk, M_le_mk, M_lf_mk, M_mo_mk, M_un_mk, M_ch_mk, M_lc_mk, M_ac_mk, M_bd_mk, h1, h2, h3, h4, h5, h6, h7, h8, h9, h10, h11, h12, h13, ha, hn, eb]
      · simp only [C_me_mk, C_ra_mk, C_co_mk, C_al_mk, C_re_mk, C_lo_mk, C_rs_mk, C_li_mk, C_he_mk, C_go_mk, C_br_mk, C_cu_mk, C_lc_mk, C_ac_mk, M_cd_mk, M_pt_mk, M_mn_mk, M_ev_mk, M_co_mk, M_al_mk, M_re_mk, M_lo_mk, M_rs_mk, M_li_mk, M_he_mk, M_go_mk, M_sp_mk, M_ba_mk, M_le_mk, M_lf_mk, M_mo_mk, M_un_mk, M_ch_mk, M_lc_mk, M_ac_mk, M_bd_mk, h1, h2, h3, h4, h5, h6, h7, h8, h9, h10, h11, h12, h13, ha, hn, eb]
      · simp only [C_me_mk, C_ra_mk, C_co_mk, C_al_mk, C_re_mk, C_lo_mk, C_rs_mk, C_li_mk, C_he_mk, C_go_mk, C_br_mk, C_cu_mk, C_lc_mk, C_ac_mk, M_cd_mk, M_pt_mk, M_mn_mk, M_ev_mk, M_co_mk, M_al_mk, M_re_mk, M_lo_mk, M_rs_mk, M_li_mk, M_he_mk, M_go_mk, M_sp_mk, M_ba_mk, M_le_mk, M_lf_mk, M_mo_mk, M_un_mk, M_ch_mk, M_lc_mk, M_ac_mk, M_bd_mk, h1, h2, h3, h4, h5, h6, h7, h8, h9, h10, h11, h12, h13, ha, hn, eb]
      · simp only [C_me_mk, C_ra_mk, C_co_mk, C_al_mk, C_re_mk, C_lo_mk, C_rs_mk, C_li_mk, C_he_mk, C_go_mk, C_br_mk, C_cu_mk, C_lc_mk, C_ac_mk, M_cd_mk, M_pt_mk, M_mn_mk, M_ev_mk, M_co_mk, M_al_mk, M_re_mk, M_lo_mk, M_rs_mk, M_li_mk, M_he_mk, M_go_mk, M_sp_mk, M_ba_mk, M_le_mk, M_lf_mk, M_mo_mk, M_un_mk, M_ch_mk, M_lc_mk, M_ac_mk, M_bd_mk, h1, h2, h3, h4, h5, h6, h7, h8, h9, h10, h11, h12, h13, ha, hn, eb]
      · simp only [C_me_mk, C_ra_mk, C_co_mk, C_al_mk, C_re_mk, C_lo_mk, C_rs_mk, C_li_mk, C_he_mk, C_go_mk, C_br_mk, C_cu_mk, C_lc_mk, C_ac_mk, M_cd_mk, M_pt_mk, M_mn_mk, M_ev_mk, M_co_mk, M_al_mk, M_re_mk, M_lo_mk, M_rs_mk, M_li_mk, M_he_mk, M_go_mk, M_sp_mk, M_ba_mk, M_le_mk, M_lf_mk, M_mo_mk, M_un_mk, M_ch_mk, M_lc_mk, M_ac_mk, M_bd_mk]; exact h14
    · rw [eH]
      refine ⟨?_, ?_, ?_, ?_, ?_⟩
      · rw [M_co_mk]; omega
      · rw [M_al_mk, M_co_mk]; rw [ec]; omega
      · rw [M_rs_mk]; omega
      · rw [M_li_mk]; omega
      · rw [M_sp_mk]; omega
  · rw [if_neg y] at eI
    exact Or.inl ⟨by rw [eH]; exact im_0 (by rw [ebm]; exact y), me_b eI⟩
set_option maxHeartbeats 2000000 in
theorem es_4 {me ra : Int32} {c : CR} {t : SR} {m : MR} {T : TR} {p e mm : Int32} {ev : ER} {mr : Int64} {jc ju : Int} (h : RS me ra c t m) (n : NC jc ju m) (s : NS me ju m) (hj0 : 0 ≤ jc) (hj : jc ≤ 35) (hu : ju ≤ 36) (hT : T_ra T (Int32.toNatClampNeg p) = ra) (hra : 0 ≤ ra.toInt ∧ ra.toInt ≤ 1000000) (hk : E_ki ev = (T_ki T (Int32.toNatClampNeg e))) (ha : E_am ev = (T_am T (Int32.toNatClampNeg e))) (hn : E_nu ev = (T_nu T (Int32.toNatClampNeg e))) (hv : EV (T_ki T (Int32.toNatClampNeg e)) (T_am T (Int32.toNatClampNeg e)) (T_nu T (Int32.toNatClampNeg e))) (g : M_go m = 0) (hh : M_he m = 0) (h4b : (M_bd m ≤ mm ∧ mr = -1) ∨ (¬ M_bd m ≤ mm ∧ mr = T_bf T (Int32.toNatClampNeg mm))) (k : (T_ki T (Int32.toNatClampNeg e)) = 4) : ES me ra c t m T p e mm ev mr jc ju := by
  have hs0 := h
  have hb := bk_int n (by omega)
  obtain ⟨⟨⟨h1, h2, h3, h4, h5⟩, ⟨h6, h7, h8⟩, ⟨h9, h10⟩, ⟨h11, h12, h13⟩, h14⟩, hst⟩ := h
  have n0 := n
  obtain ⟨⟨n1, n2⟩, ⟨n3, n4⟩, ⟨n5, n6⟩, ⟨n7, n8⟩, ⟨n9, n10⟩⟩ := n
  have eb : m_X0_book c t = M_co m - M_al m := by unfold m_X0_book; rw [h1, h2]
  have ebm : m_X5_book m T = M_co m - M_al m := rfl
  have qb : C_go c = 0 ↔ M_go m = 0 := by rw [h8]
  have hs := s
  have kc : E_ki ev = 4 := by rw [hk, k]
  have gc : C_go c = 0 := by rw [h8, g]
  have h6k : ¬ 6 ≤ (T_ki T (Int32.toNatClampNeg e)) ∨ 6 ≤ (T_ki T (Int32.toNatClampNeg e)) := by by_cases z : 6 ≤ (T_ki T (Int32.toNatClampNeg e)); exact Or.inr z; exact Or.inl z
  obtain ⟨-, ⟨v1, v2⟩, v3, v4⟩ := hv
  generalize eA : (T_am T (Int32.toNatClampNeg e)) = A at *
  generalize eU : (T_nu T (Int32.toNatClampNeg e)) = U at *
  have hc : C_he c = 0 := by rw [h7, hh]
  have eI := ib_4 (t := t) (mr := mr) gc hc kc
  have eH := hp_4 (mm := mm) g hh k
  rw [eA] at eH
  rw [eb, ha, h2, h5] at eI
  have ed : (A - (M_co m - M_al m)).toInt = A.toInt - ((M_co m).toInt - (M_al m).toInt) := by rw [i64_sub, hb] <;> rw [hb] <;> omega
  have hm1 : M_bd m ≤ mm → mr < A := fun z => by
    rcases h4b with ⟨-, y⟩ | ⟨y, -⟩
    · rw [y, Int64.lt_iff_toInt_lt, i64_m1]; omega
    · exact absurd z y
  have hm2 : ¬ M_bd m ≤ mm → mr = T_bf T (Int32.toNatClampNeg mm) := fun z => by
    rcases h4b with ⟨y, -⟩ | ⟨-, y⟩
    · exact absurd y z
    · exact y
  by_cases q1 : M_bd m ≤ mm
  · have y := hm1 q1
    have eb1 : m_X0_isBreach c t ev mr = 1 := by
      rw [eI]
      by_cases z : A ≤ M_co m - M_al m
      · rw [if_pos z]
      · rw [if_neg z, if_pos y]
    exact Or.inl ⟨by rw [eH]; exact re_0 (Or.inl q1), me_b eb1⟩
  · have e9 := hm2 q1
    subst e9
    by_cases q2 : A ≤ M_co m - M_al m
    · rw [if_pos q2] at eI
      rw [Int64.le_iff_toInt_le, hb] at q2
      exact Or.inl ⟨by rw [eH]; exact re_0 (Or.inr (Or.inl (by rw [ebm, Int64.le_iff_toInt_le, ed, i64_0]; omega))), me_b eI⟩
    · rw [if_neg q2] at eI
      rw [Int64.le_iff_toInt_le, hb] at q2
      by_cases q3 : T_bf T (Int32.toNatClampNeg mm) < A
      · rw [if_pos q3] at eI
        exact Or.inl ⟨by rw [eH]; exact re_0 (Or.inr (Or.inr (Or.inl q3))), me_b eI⟩
      · rw [if_neg q3] at eI
        by_cases q4 : M_al m < A - (M_co m - M_al m)
        · rw [if_pos q4] at eI
          rw [Int64.lt_iff_toInt_lt, ed] at q4
          exact Or.inl ⟨by rw [eH]; exact re_0 (Or.inr (Or.inr (Or.inr (by rw [ebm, Int64.le_iff_toInt_le, ed]; omega)))), me_b eI⟩
        · rw [if_neg q4] at eI
          rw [Int64.lt_iff_toInt_lt, ed] at q4
          have ea : (M_al m - (A - (M_co m - M_al m))).toInt = (M_al m).toInt - (A.toInt - ((M_co m).toInt - (M_al m).toInt)) := by rw [i64_sub, ed] <;> rw [ed] <;> omega
          have ef : M_co m - (M_al m - (A - (M_co m - M_al m))) = A := i64_eq (by rw [i64_sub (by rw [ea]; omega) (by rw [ea]; omega), ea]; omega)
          obtain ⟨w1, w2⟩ := re_1 (m := m) (T := T) (v := A) (mm := mm) q1 (by rw [ebm, Int64.le_iff_toInt_le, ed, i64_0]; omega) q3 (by rw [ebm, Int64.le_iff_toInt_le, ed]; omega)
          rw [ebm] at w1 w2
          rw [ef] at w1
          by_cases q5 : M_rs m ≤ A
          · rw [if_pos q5] at eI
            rw [Int64.le_iff_toInt_le] at q5
            rw [if_neg (by rw [Int64.lt_iff_toInt_lt]; omega)] at w1
            rw [w1, w2] at eH
            refine es_lt hs0 n0 hs hj0 hj hu hT hra hk (by rw [eA]; exact ha) (by rw [eU]; exact hn) (by rw [k]; decide) eI (by rw [eH]; (show ¬ (1 : Int32) = 0); decide) ?_ ?_
            · rw [ap_4 kc, eH]
              refine ⟨⟨?_, ?_, ?_, ?_, ?_⟩, ⟨?_, ?_, ?_⟩, ⟨?_, ?_⟩, ⟨?_, ?_, ?_⟩, ?_⟩
              · simp only [C_me_mk, C_ra_mk, C_co_mk, C_al_mk, C_re_mk, C_lo_mk, C_rs_mk, C_li_mk, C_he_mk, C_go_mk, C_br_mk, C_cu_mk, C_lc_mk, C_ac_mk, M_cd_mk, M_pt_mk, M_mn_mk, M_ev_mk, M_co_mk, M_al_mk, M_re_mk, M_lo_mk, M_rs_mk, M_li_mk, M_he_mk, M_go_mk, M_sp_mk, M_ba_mk, M_le_mk, M_lf_mk, M_mo_mk, M_un_mk, M_ch_mk, M_lc_mk, M_ac_mk, M_bd_mk, h1, h2, h3, h4, h5, h6, h7, h8, h9, h10, h11, h12, h13, ha, hn, eb]
              · simp only [C_me_mk, C_ra_mk, C_co_mk, C_al_mk, C_re_mk, C_lo_mk, C_rs_mk, C_li_mk, C_he_mk, C_go_mk, C_br_mk, C_cu_mk, C_lc_mk, C_ac_mk, M_cd_mk, M_pt_mk, M_mn_mk, M_ev_mk, M_co_mk, M_al_mk, M_re_mk, M_lo_mk, M_rs_mk, M_li_mk, M_he_mk, M_go_mk, M_sp_mk, M_ba_mk, M_le_mk, M_lf_mk, M_mo_mk, M_un_mk, M_ch_mk, M_lc_mk, M_ac_mk, M_bd_mk, h1, h2, h3, h4, h5, h6, h7, h8, h9, h10, h11, h12, h13, ha, hn, eb]
              · simp only [C_me_mk, C_ra_mk, C_co_mk, C_al_mk, C_re_mk, C_lo_mk, C_rs_mk, C_li_mk, C_he_mk, C_go_mk, C_br_mk, C_cu_mk, C_lc_mk, C_ac_mk, M_cd_mk, M_pt_mk, M_mn_mk, M_ev_mk, M_co_mk, M_al_mk, M_re_mk, M_lo_mk, M_rs_mk, M_li_mk, M_he_mk, M_go_mk, M_sp_mk, M_ba_mk, M_le_mk, M_lf_mk, M_mo_mk, M_un_mk, M_ch_mk, M_lc_mk, M_ac_mk, M_bd_mk, h1, h2, h3, h4, h5, h6, h7, h8, h9, h10, h11, h12, h13, ha, hn, eb]
              · simp only [C_me_mk, C_ra_mk, C_co_mk, C_al_mk, C_re_mk, C_lo_mk, C_rs_mk, C_li_mk, C_he_mk, C_go_mk, C_br_mk, C_cu_mk, C_lc_mk, C_ac_mk, M_cd_mk, M_pt_mk, M_mn_mk, M_ev_mk, M_co_mk, M_al_mk, M_re_mk, M_lo_mk, M_rs_mk, M_li_mk, M_he_mk, M_go_mk, M_sp_mk, M_ba_mk, M_le_mk, M_lf_mk, M_mo_mk, M_un_mk, M_ch_mk, M_lc_mk, M_ac_mk, M_bd_mk, h1, h2, h3, h4, h5, h6, h7, h8, h9, h10, h11, h12, h13, ha, hn, eb]
              · simp only [C_me_mk, C_ra_mk, C_co_mk, C_al_mk, C_re_mk, C_lo_mk, C_rs_mk, C_li_mk, C_he_mk, C_go_mk, C_br_mk, C_cu_mk, C_lc_mk, C_ac_mk, M_cd_mk, M_pt_mk, M_mn_mk, M_ev_mk, M_co_mk, M_al_mk, M_re_mk, M_lo_mk, M_rs_mk, M_li_mk, M_he_mk, M_go_mk, M_sp_mk, M_ba_mk, M_le_mk, M_lf_mk, M_mo_mk, M_un_mk, M_ch_mk, M_lc_mk, M_ac_mk, M_bd_mk, h1, h2, h3, h4, h5, h6, h7, h8, h9, h10, h11, h12, h13, ha, hn, eb]
              · simp only [C_me_mk, C_ra_mk, C_co_mk, C_al_mk, C_re_mk, C_lo_mk, C_rs_mk, C_li_mk, C_he_mk, C_go_mk, C_br_mk, C_cu_mk, C_lc_mk, C_ac_mk, M_cd_mk, M_pt_mk, M_mn_mk, M_ev_mk, M_co_mk, M_al_mk, M_re_mk, M_lo_mk, M_rs_mk, M_li_mk, M_he_mk, M_go_mk, M_sp_mk, M_ba_mk, M_le_mk, M_lf_mk, M_mo_mk, M_un_mk, M_ch_mk, M_lc_mk, M_ac_mk, M_bd_mk, h1, h2, h3, h4, h5, h6, h7, h8, h9, h10, h11, h12, h13, ha, hn, eb]
              · simp only [C_me_mk, C_ra_mk, C_co_mk, C_al_mk, C_re_mk, C_lo_mk, C_rs_mk, C_li_mk, C_he_mk, C_go_mk, C_br_mk, C_cu_mk, C_lc_mk, C_ac_mk, M_cd_mk, M_pt_mk, M_mn_mk, M_ev_mk, M_co_mk, M_al_mk, M_re_mk, M_lo_mk, M_rs_mk, M_li_mk, M_he_mk, M_go_mk, M_sp_mk, M_ba_mk, M_le_mk, M_lf_mk, M_mo_mk, M_un_mk, M_ch_mk, M_lc_mk, M_ac_mk, M_bd_mk, h1, h2, h3, h4, h5, h6, h7, h8, h9, h10, h11, h12, h13, ha, hn, eb]
              · simp only [C_me_mk, C_ra_mk, C_co_mk, C_al_mk, C_re_mk, C_lo_mk, C_rs_mk, C_li_mk, C_he_mk, C_go_mk, C_br_mk, C_cu_mk, C_lc_mk, C_ac_mk, M_cd_mk, M_pt_mk, M_mn_mk, M_ev_mk, M_co_mk, M_al_mk, M_re_mk, M_lo_mk, M_rs_mk, M_li_mk, M_he_mk, M_go_mk, M_sp_mk, M_ba_mk, M_le_mk, M_lf_mk, M_mo_mk, M_un_mk, M_ch_mk, M_lc_mk, M_ac_mk, M_bd_mk, h1, h2, h3, h4, h5, h6, h7, h8, h9, h10, h11, h12, h13, ha, hn, eb]
              · simp only [C_me_mk, C_ra_mk, C_co_mk, C_al_mk, C_re_mk, C_lo_mk, C_rs_mk, C_li_mk, C_he_mk, C_go_mk, C_br_mk, C_cu_mk, C_lc_mk, C_ac_mk, M_cd_mk, M_pt_mk, M_mn_mk, M_ev_mk, M_co_mk, M_al_mk, M_re_mk, M_lo_mk, M_rs_mk, M_li_mk, M_he_mk, M_go_mk, M_sp_mk, M_ba_mk, M_le_mk, M_lf_mk, M_mo_mk, M_un_mk, M_ch_mk, M_lc_mk, M_ac_mk, M_bd_mk, h1, h2, h3, h4, h5, h6, h7, h8, h9, h10, h11, h12, h13, ha, hn, eb]
              · simp only [C_me_mk, C_ra_mk, C_co_mk, C_al_mk, C_re_mk, C_lo_mk, C_rs_mk, C_li_mk, C_he_mk, C_go_mk, C_br_mk, C_cu_mk, C_lc_mk, C_ac_mk, M_cd_mk, M_pt_mk, M_mn_mk, M_ev_mk, M_co_mk, M_al_mk, M_re_mk, M_lo_mk, M_rs_mk, M_li_mk, M_he_mk, M_go_mk, M_sp_mk, M_ba_mk, M_le_mk, M_lf_mk, M_mo_mk, M_un_mk, M_ch_mk, M_lc_mk, M_ac_mk, M_bd_mk, h1, h2, h3, h4, h5, h6, h7, h8, h9, h10, h11, h12, h13, ha, hn, eb]
              · simp only [C_me_mk, C_ra_mk, C_co_mk, C_al_mk, C_re_mk, C_lo_mk, C_rs_mk, C_li_mk, C_he_mk, C_go_mk, C_br_mk, C_cu_mk, C_lc_mk, C_ac_mk, M_cd_mk, M_pt_mk, M_mn_mk, M_ev_mk, M_co_mk, M_al_mk, M_re_mk, M_lo_mk, M_rs_mk, M_li_mk, M_he_mk, M_go_mk, M_sp_mk, M_ba_mk, M_le_mk, M_lf_mk, M_mo_mk, M_un_mk, M_ch_mk, M_lc_mk, M_ac_mk, M_bd_mk, h1, h2, h3, h4, h5, h6, h7, h8, h9, h10, h11, h12, h13, ha, hn, eb]
              · simp only [C_me_mk, C_ra_mk, C_co_mk, C_al_mk, C_re_mk, C_lo_mk, C_rs_mk, C_li_mk, C_he_mk, C_go_mk, C_br_mk, C_cu_mk, C_lc_mk, C_ac_mk, M_cd_mk, M_pt_mk, M_mn_mk, M_ev_mk, M_co_mk, M_al_mk, M_re_mk, M_lo_mk, M_rs_mk, M_li_mk, M_he_mk, M_go_mk, M_sp_mk, M_ba_mk, M_le_mk, M_lf_mk, M_mo_mk, M_un_mk, M_ch_mk, M_lc_mk, M_ac_mk, M_bd_mk, h1, h2, h3, h4, h5, h6, h7, h8, h9, h10, h11, h12, h13, ha, hn, eb]
              · simp only [C_me_mk, C_ra_mk, C_co_mk, C_al_mk, C_re_mk, C_lo_mk, C_rs_mk, C_li_mk, C_he_mk, C_go_mk, C_br_mk, C_cu_mk, C_lc_mk, C_ac_mk, M_cd_mk, M_pt_mk, M_mn_mk, M_ev_mk, M_co_mk, M_al_mk, M_re_mk, M_lo_mk, M_rs_mk, M_li_mk, M_he_mk, M_go_mk, M_sp_mk, M_ba_mk, M_le_mk, M_lf_mk, M_mo_mk, M_un_mk, M_ch_mk, M_lc_mk, M_ac_mk, M_bd_mk, h1, h2, h3, h4, h5, h6, h7, h8, h9, h10, h11, h12, h13, ha, hn, eb]
              · simp only [C_me_mk, C_ra_mk, C_co_mk, C_al_mk, C_re_mk, C_lo_mk, C_rs_mk, C_li_mk, C_he_mk, C_go_mk, C_br_mk, C_cu_mk, C_lc_mk, C_ac_mk, M_cd_mk, M_pt_mk, M_mn_mk, M_ev_mk, M_co_mk, M_al_mk, M_re_mk, M_lo_mk, M_rs_mk, M_li_mk, M_he_mk, M_go_mk, M_sp_mk, M_ba_mk, M_le_mk, M_lf_mk, M_mo_mk, M_un_mk, M_ch_mk, M_lc_mk, M_ac_mk, M_bd_mk]; exact h14
            · rw [eH]
              refine ⟨?_, ?_, ?_, ?_, ?_⟩
              · rw [M_co_mk]; omega
              · rw [M_al_mk, M_co_mk]; rw [ea]; omega
              · rw [M_rs_mk]; omega
              · rw [M_li_mk]; omega
              · rw [M_sp_mk]; omega
          · rw [if_neg q5] at eI
            rw [Int64.le_iff_toInt_le] at q5
            rw [if_pos (by rw [Int64.lt_iff_toInt_lt]; omega)] at w1
            exact Or.inl ⟨by rw [eH, w1], me_b eI⟩

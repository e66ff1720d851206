theorem rc_5 {me ra : Int32} {c : CR} {m : MR} {z1 z2 z3 z4 : Int64} {g : Int32} (h : RC me ra c m) : RC me ra (C_mk (C_me c) (C_ra c) z1 z2 z3 (C_lo c) z4 (C_li c) (C_he c) g (C_br c) (C_cu c) (C_lc c) (C_ac c)) (M_mk (M_cd m) (M_pt m) (M_mn m) (M_ev m) z1 z2 z3 (M_lo m) z4 (M_li m) (M_he m) g (M_sp m) (M_ba m) (M_le m) (M_lf m) (M_mo m) (M_un m) (M_ch m) (M_lc m) (M_ac m) (M_bd m)) := by
  obtain ⟨⟨h1, h2, h3, h4, h5⟩, ⟨h6, h7, h8⟩, ⟨h9, h10⟩, ⟨h11, h12, h13⟩, h14⟩ := h
  refine ⟨⟨?_, ?_, ?_, ?_, ?_⟩, ⟨?_, ?_, ?_⟩, ⟨?_, ?_⟩, ⟨?_, ?_, ?_⟩, ?_⟩
  · simp only [C_me_mk, C_ra_mk, C_co_mk, C_al_mk, C_re_mk, C_lo_mk, C_rs_mk, C_li_mk, C_he_mk, C_go_mk, C_br_mk, C_cu_mk, C_lc_mk, C_ac_mk, M_cd_mk, M_pt_mk, M_mn_mk, M_ev_mk, M_co_mk, M_al_mk, M_re_mk, M_lo_mk, M_rs_mk, M_li_mk, M_he_mk, M_go_mk, M_sp_mk, M_ba_mk, M_le_mk, M_lf_mk, M_mo_mk, M_un_mk, M_ch_mk, M_lc_mk, M_ac_mk, M_bd_mk, h1, h2, h3, h4, h5, h6, h7, h8, h9, h10, h11, h12, h13]
  · simp only [C_me_mk, C_ra_mk, C_co_mk, C_al_mk, C_re_mk, C_lo_mk, C_rs_mk, C_li_mk, C_he_mk, C_go_mk, C_br_mk, C_cu_mk, C_lc_mk, C_ac_mk, M_cd_mk, M_pt_mk, M_mn_mk, M_ev_mk, M_co_mk, M_al_mk, M_re_mk, M_lo_mk, M_rs_mk, M_li_mk, M_he_mk, M_go_mk, M_sp_mk, M_ba_mk, M_le_mk, M_lf_mk, M_mo_mk, M_un_mk, M_ch_mk, M_lc_mk, M_ac_mk, M_bd_mk, h1, h2, h3, h4, h5, h6, h7, h8, h9, h10, h11, h12, h13]
  · simp only [C_me_mk, C_ra_mk, C_co_mk, C_al_mk, C_re_mk, C_lo_mk, C_rs_mk, C_li_mk, C_he_mk, C_go_mk, C_br_mk, C_cu_mk, C_lc_mk, C_ac_mk, M_cd_mk, M_pt_mk, M_mn_mk, M_ev_mk, M_co_mk, M_al_mk, M_re_mk, M_lo_mk, M_rs_mk, M_li_mk, M_he_mk, M_go_mk, M_sp_mk, M_ba_mk, M_le_mk, M_lf_mk, M_mo_mk, M_un_mk, M_ch_mk, M_lc_mk, M_ac_mk, M_bd_mk, h1, h2, h3, h4, h5, h6, h7, h8, h9, h10, h11, h12, h13]
  · simp only [C_me_mk, C_ra_mk, C_co_mk, C_al_mk, C_re_mk, C_lo_mk, C_rs_mk, C_li_mk, C_he_mk, C_go_mk, C_br_mk, C_cu_mk, C_lc_mk, C_ac_mk, M_cd_mk, M_pt_mk, M_mn_mk, M_ev_mk, M_co_mk, M_al_mk, M_re_mk, M_lo_mk, M_rs_mk, M_li_mk, M_he_mk, M_go_mk, M_sp_mk, M_ba_mk, M_le_mk, M_lf_mk, M_mo_mk, M_un_mk, M_ch_mk, M_lc_mk, M_ac_mk, M_bd_mk, h1, h2, h3, h4, h5, h6, h7, h8, h9, h10, h11, h12, h13]
  · simp only [C_me_mk, C_ra_mk, C_co_mk, C_al_mk, C_re_mk, C_lo_mk, C_rs_mk, C_li_mk, C_he_mk, C_go_mk, C_br_mk, C_cu_mk, C_lc_mk, C_ac_mk, M_cd_mk, M_pt_mk, M_mn_mk, M_ev_mk, M_co_mk, M_al_mk, M_re_mk, M_lo_mk, M_rs_mk, M_li_mk, M_he_mk, M_go_mk, M_sp_mk, M_ba_mk, M_le_mk, M_lf_mk, M_mo_mk, M_un_mk, M_ch_mk, M_lc_mk, M_ac_mk, M_bd_mk, h1, h2, h3, h4, h5, h6, h7, h8, h9, h10, h11, h12, h13]
  · simp only [C_me_mk, C_ra_mk, C_co_mk, C_al_mk, C_re_mk, C_lo_mk, C_rs_mk, C_li_mk, C_he_mk, C_go_mk, C_br_mk, C_cu_mk, C_lc_mk, C_ac_mk, M_cd_mk, M_pt_mk, M_mn_mk, M_ev_mk, M_co_mk, M_al_mk, M_re_mk, M_lo_mk, M_rs_mk, M_li_mk, M_he_mk, M_go_mk, M_sp_mk, M_ba_mk, M_le_mk, M_lf_mk, M_mo_mk, M_un_mk, M_ch_mk, M_lc_mk, M_ac_mk, M_bd_mk, h1, h2, h3, h4, h5, h6, h7, h8, h9, h10, h11, h12, h13]
  · simp only [C_me_mk, C_ra_mk, C_co_mk, C_al_mk, C_re_mk, C_lo_mk, C_rs_mk, C_li_mk, C_he_mk, C_go_mk, C_br_mk, C_cu_mk, C_lc_mk, C_ac_mk, M_cd_mk, M_pt_mk, M_mn_mk, M_ev_mk, M_co_mk, M_al_mk, M_re_mk, M_lo_mk, M_rs_mk, M_li_mk, M_he_mk, M_go_mk, M_sp_mk, M_ba_mk, M_le_mk, M_lf_mk, M_mo_mk, M_un_mk, M_ch_mk, M_lc_mk, M_ac_mk, M_bd_mk, h1, h2, h3, h4, h5, h6, h7, h8, h9, h10, h11, h12, h13]
  · simp only [C_me_mk, C_ra_mk, C_co_mk, C_al_mk, C_re_mk, C_lo_mk, C_rs_mk, C_li_mk, C_he_mk, C_go_mk, C_br_mk, C_cu_mk, C_lc_mk, C_ac_mk, M_cd_mk, M_pt_mk, M_mn_mk, M_ev_mk, M_co_mk, M_al_mk, M_re_mk, M_lo_mk, M_rs_mk, M_li_mk, M_he_mk, M_go_mk, M_sp_mk, M_ba_mk, M_le_mk, M_lf_mk, M_mo_mk, M_un_mk, M_ch_mk, M_lc_mk, M_ac_mk, M_bd_mk, h1, h2, h3, h4, h5, h6, h7, h8, h9, h10, h11, h12, h13]
  · simp only [C_me_mk, C_ra_mk, C_co_mk, C_al_mk, C_re_mk, C_lo_mk, C_rs_mk, C_li_mk, C_he_mk, C_go_mk, C_br_mk, C_cu_mk, C_lc_mk, C_ac_mk, M_cd_mk, M_pt_mk, M_mn_mk, M_ev_mk, M_co_mk, M_al_mk, M_re_mk, M_lo_mk, M_rs_mk, M_li_mk, M_he_mk, M_go_mk, M_sp_mk, M_ba_mk, M_le_mk, M_lf_mk, M_mo_mk, M_un_mk, M_ch_mk, M_lc_mk, M_ac_mk, M_bd_mk, h1, h2, h3, h4, h5, h6, h7, h8, h9, h10, h11, h12, h13]
  · simp only [C_me_mk, C_ra_mk, C_co_mk, C_al_mk, C_re_mk, C_lo_mk, C_rs_mk, C_li_mk, C_he_mk, C_go_mk, C_br_mk, C_cu_mk, C_lc_mk, C_ac_mk, M_cd_mk, M_pt_mk, M_mn_mk, M_ev_mk, M_co_mk, M_al_mk, M_re_mk, M_lo_mk, M_rs_mk, M_li_mk, M_he_mk, M_go_mk, M_sp_mk, M_ba_mk, M_le_mk, M_lf_mk, M_mo_mk, M_un_mk, M_ch_mk, M_lc_mk, M_ac_mk, M_bd_mk, h1, h2, h3, h4, h5, h6, h7, h8, h9, h10, h11, h12, h13]
  · simp only [C_me_mk, C_ra_mk, C_co_mk, C_al_mk, C_re_mk, C_lo_mk, C_rs_mk, C_li_mk, C_he_mk, C_go_mk, C_br_mk, C_cu_mk, C_lc_mk, C_ac_mk, M_cd_mk, M_pt_mk, M_mn_mk, M_ev_mk, M_co_mk, M_al_mk, M_re_mk, M_lo_mk, M_rs_mk, M_li_mk, M_he_mk, M_go_mk, M_sp_mk, M_ba_mk, M_le_mk, M_lf_mk, M_mo_mk, M_un_mk, M_ch_mk, M_lc_mk, M_ac_mk, M_bd_mk, h1, h2, h3, h4, h5, h6, h7, h8, h9, h10, h11, h12, h13]
  · simp only [C_me_mk, C_ra_mk, C_co_mk, C_al_mk, C_re_mk, C_lo_mk, C_rs_mk, C_li_mk, C_he_mk, C_go_mk, C_br_mk, C_cu_mk, C_lc_mk, C_ac_mk, M_cd_mk, M_pt_mk, M_mn_mk, M_ev_mk, M_co_mk, M_al_mk, M_re_mk, M_lo_mk, M_rs_mk, M_li_mk, M_he_mk, M_go_mk, M_sp_mk, M_ba_mk, M_le_mk, M_lf_mk, M_mo_mk, M_un_mk, M_ch_mk, M_lc_mk, M_ac_mk, M_bd_mk, h1, h2, h3, h4, h5, h6, h7, h8, h9, h10, h11, h12, h13]
  · simp only [C_me_mk, C_ra_mk, C_co_mk, C_al_mk, C_re_mk, C_lo_mk, C_rs_mk, C_li_mk, C_he_mk, C_go_mk, C_br_mk, C_cu_mk, C_lc_mk, C_ac_mk, M_cd_mk, M_pt_mk, M_mn_mk, M_ev_mk, M_co_mk, M_al_mk, M_re_mk, M_lo_mk, M_rs_mk, M_li_mk, M_he_mk, M_go_mk, M_sp_mk, M_ba_mk, M_le_mk, M_lf_mk, M_mo_mk, M_un_mk, M_ch_mk, M_lc_mk, M_ac_mk, M_bd_mk, h1, h2, h3, h4, h5, h6, h7, h8, h9, h10, h11, h12, h13]
  · simp only [C_me_mk, C_ra_mk, C_co_mk, C_al_mk, C_re_mk, C_lo_mk, C_rs_mk, C_li_mk, C_he_mk, C_go_mk, C_br_mk, C_cu_mk, C_lc_mk, C_ac_mk, M_cd_mk, M_pt_mk, M_mn_mk, M_ev_mk, M_co_mk, M_al_mk, M_re_mk, M_lo_mk, M_rs_mk, M_li_mk, M_he_mk, M_go_mk, M_sp_mk, M_ba_mk, M_le_mk, M_lf_mk, M_mo_mk, M_un_mk, M_ch_mk, M_lc_mk, M_ac_mk, M_bd_mk]; exact h14
theorem nc_5 {jc ju : Int} {m : MR} {z1 z2 z3 z4 : Int64} {g : Int32} (h : NC jc ju m) (o1 : 0 ≤ z2.toInt) (o2 : z2.toInt ≤ z1.toInt) (o3 : z1.toInt ≤ (M_co m).toInt) (o4 : 0 ≤ z4.toInt) (o6 : z4.toInt ≤ (M_rs m).toInt) : NC (jc + 1) ju (M_mk (M_cd m) (M_pt m) (M_mn m) (M_ev m) z1 z2 z3 (M_lo m) z4 (M_li m) (M_he m) g (M_sp m) (M_ba m) (M_le m) (M_lf m) (M_mo m) (M_un m) (M_ch m) (M_lc m) (M_ac m) (M_bd m)) := by
  obtain ⟨⟨n1, n2⟩, ⟨n3, n4⟩, ⟨n5, n6⟩, ⟨n7, n8⟩, ⟨n9, n10⟩⟩ := h
  refine ⟨?_, ?_, ?_, ?_, ?_⟩
  · rw [M_co_mk]; omega
  · rw [M_al_mk, M_co_mk]; omega
  · rw [M_rs_mk]; omega
  · rw [M_li_mk]; omega
  · rw [M_sp_mk]; omega
set_option maxHeartbeats 2000000 in
theorem es_5 {me ra : Int32} {c : CR} {t : SR} {m : MR} {T : TR} {p e mm : Int32} {ev : ER} {mr : Int64} {jc ju : Int} (h : RS me ra c t m) (n : NC jc ju m) (s : NS me ju m) (hj0 : 0 ≤ jc) (hj : jc ≤ 35) (hu : ju ≤ 36) (hT : T_ra T (Int32.toNatClampNeg p) = ra) (hra : 0 ≤ ra.toInt ∧ ra.toInt ≤ 1000000) (hk : E_ki ev = (T_ki T (Int32.toNatClampNeg e))) (ha : E_am ev = (T_am T (Int32.toNatClampNeg e))) (hn : E_nu ev = (T_nu T (Int32.toNatClampNeg e))) (hv : EV (T_ki T (Int32.toNatClampNeg e)) (T_am T (Int32.toNatClampNeg e)) (T_nu T (Int32.toNatClampNeg e))) (g : M_go m = 0) (k : (T_ki T (Int32.toNatClampNeg e)) = 5) : ES me ra c t m T p e mm ev mr jc ju := by
  have hs0 := h
  have hb := bk_int n (by omega)
  obtain ⟨⟨⟨h1, h2, h3, h4, h5⟩, ⟨h6, h7, h8⟩, ⟨h9, h10⟩, ⟨h11, h12, h13⟩, h14⟩, hst⟩ := h
  have n0 := n
  obtain ⟨⟨n1, n2⟩, ⟨n3, n4⟩, ⟨n5, n6⟩, ⟨n7, n8⟩, ⟨n9, n10⟩⟩ := n
  have eb : m_X0_book c t = M_co m - M_al m := by unfold m_X0_book; rw [h1, h2]
  have ebm : m_X5_book m T = M_co m - M_al m := rfl
  have qb : C_go c = 0 ↔ M_go m = 0 := by rw [h8]
  have hs := s
  have kc : E_ki ev = 5 := by rw [hk, k]
  have gc : C_go c = 0 := by rw [h8, g]
  have h6k : ¬ 6 ≤ (T_ki T (Int32.toNatClampNeg e)) ∨ 6 ≤ (T_ki T (Int32.toNatClampNeg e)) := by by_cases z : 6 ≤ (T_ki T (Int32.toNatClampNeg e)); exact Or.inr z; exact Or.inl z
  obtain ⟨-, ⟨v1, v2⟩, v3, v4⟩ := hv
  generalize eA : (T_am T (Int32.toNatClampNeg e)) = A at *
  generalize eU : (T_nu T (Int32.toNatClampNeg e)) = U at *
  have eI : m_X0_isBreach c t ev mr = 0 := by
    by_cases hh : M_he m = 0
    · exact ib_5 gc (by rw [h7, hh]) kc
    · exact ib_5h gc (by rw [h7]; exact hh) kc
  have eH : m_X5_happens m T e mm = (1, m_X5_sells m T U) := by
    by_cases hh : M_he m = 0
    · rw [hp_5 g hh k, eU]
    · rw [hp_5h g hh k, eU]
  obtain ⟨v5, v6⟩ := v4 k
  have b1 : (M_co m).toInt ≤ 100000000000 := by omega
  have b2 : (M_rs m).toInt ≤ 100000000000 := by omega
  have b3 : 0 ≤ U.toInt := by omega
  obtain ⟨o1, o2, o3⟩ := less_mono (x := M_al m) (z := M_co m) (n := U) n3 n4 b1 b3 v6
  obtain ⟨o4, o5, o6⟩ := less_mono (x := M_rs m) (z := M_rs m) (n := U) n5 (Int.le_refl _) b2 b3 v6
  have eX := ap_5 (c := c) (t := t) kc
  rw [h1, h2, h3, h5, hn] at eX
  rw [se_mk] at eH
  refine es_lt hs0 n0 hs hj0 hj hu hT hra hk (by rw [eA]; exact ha) (by rw [eU]; exact hn) (by rw [k]; decide) eI (by rw [eH]; (show ¬ (1 : Int32) = 0); decide) ?_ ?_
  · rw [eX, eH]
    exact rc_5 hs0.1
  · rw [eH]
    exact nc_5 n0 o1 o2 o3 o4 o6
set_option maxHeartbeats 2000000 in
theorem es_6 {me ra : Int32} {c : CR} {t : SR} {m : MR} {T : TR} {p e mm : Int32} {ev : ER} {mr : Int64} {jc ju : Int} (h : RS me ra c t m) (n : NC jc ju m) (s : NS me ju m) (hj0 : 0 ≤ jc) (hj : jc ≤ 35) (hu : ju ≤ 36) (hT : T_ra T (Int32.toNatClampNeg p) = ra) (hra : 0 ≤ ra.toInt ∧ ra.toInt ≤ 1000000) (hk : E_ki ev = (T_ki T (Int32.toNatClampNeg e))) (ha : E_am ev = (T_am T (Int32.toNatClampNeg e))) (hn : E_nu ev = (T_nu T (Int32.toNatClampNeg e))) (hv : EV (T_ki T (Int32.toNatClampNeg e)) (T_am T (Int32.toNatClampNeg e)) (T_nu T (Int32.toNatClampNeg e))) (g : M_go m = 0) (hh : M_he m = 0) (k : (T_ki T (Int32.toNatClampNeg e)) = 6) : ES me ra c t m T p e mm ev mr jc ju := by
  have hs0 := h
  have hb := bk_int n (by omega)
  obtain ⟨⟨⟨h1, h2, h3, h4, h5⟩, ⟨h6, h7, h8⟩, ⟨h9, h10⟩, ⟨h11, h12, h13⟩, h14⟩, hst⟩ := h
  have n0 := n
  obtain ⟨⟨n1, n2⟩, ⟨n3, n4⟩, ⟨n5, n6⟩, ⟨n7, n8⟩, ⟨n9, n10⟩⟩ := n
  have eb : m_X0_book c t = M_co m - M_al m := by unfold m_X0_book; rw [h1, h2]
  have ebm : m_X5_book m T = M_co m - M_al m := rfl
  have qb : C_go c = 0 ↔ M_go m = 0 := by rw [h8]
  have hs := s
  have kc : E_ki ev = 6 := by rw [hk, k]
  have gc : C_go c = 0 := by rw [h8, g]
  have h6k : ¬ 6 ≤ (T_ki T (Int32.toNatClampNeg e)) ∨ 6 ≤ (T_ki T (Int32.toNatClampNeg e)) := by by_cases z : 6 ≤ (T_ki T (Int32.toNatClampNeg e)); exact Or.inr z; exact Or.inl z
  obtain ⟨-, ⟨v1, v2⟩, v3, v4⟩ := hv
  generalize eA : (T_am T (Int32.toNatClampNeg e)) = A at *
  generalize eU : (T_nu T (Int32.toNatClampNeg e)) = U at *
  obtain ⟨⟨f1, f2⟩, f3, f4⟩ := hst
  obtain ⟨⟨s1, s2⟩, s3, ⟨s4, s5, s6⟩, ⟨s7, s8⟩, ⟨s9, s10⟩⟩ := s
  have hc : C_he c = 0 := by rw [h7, hh]
  have eI := ib_6 (t := t) (mr := mr) gc hc kc
  have eH := hp_6 (mm := mm) g hh k
  have h66 : 6 ≤ (T_ki T (Int32.toNatClampNeg e)) := by rw [k]; decide
  have eg : (gC m T p e mm 0) = (M_mk (M_cd m) (M_pt m) (M_mn m) (M_ev m) (M_co m) (M_al m) (M_re m) (M_lo m) (M_rs m) (M_li m) 1 (M_go m) (M_sp m) (M_ba m) (M_le m) (M_lf m) (M_mo m) (M_un m) (M_ch m) (M_lc m) (M_ac m) (M_bd m)) := by unfold gC; rw [if_pos rfl, if_pos h66, eH]
  refine Or.inr ⟨by rw [eH]; exact (by (show ¬ (1 : Int32) = 0); decide), ?_⟩
  rw [me_6 eI kc, ap_6 kc, eg]
  refine ⟨⟨⟨⟨?_, ?_, ?_, ?_, ?_⟩, ⟨?_, ?_, ?_⟩, ⟨?_, ?_⟩, ⟨?_, ?_, ?_⟩, ?_⟩, ⟨?_, ?_⟩, ?_, ?_⟩, ⟨?_, ?_, ?_, ?_, ?_⟩, ⟨?_, ?_, ?_, ?_, ?_⟩⟩
  · simp only [C_me_mk, C_ra_mk, C_co_mk, C_al_mk, C_re_mk, C_lo_mk, C_rs_mk, C_li_mk, C_he_mk, C_go_mk, C_br_mk, C_cu_mk, C_lc_mk, C_ac_mk, M_cd_mk, M_pt_mk, M_mn_mk, M_ev_mk, M_co_mk, M_al_mk, M_re_mk, M_lo_mk, M_rs_mk, M_li_mk, M_he_mk, M_go_mk, M_sp_mk, M_ba_mk, M_le_mk, M_lf_mk, M_mo_mk, M_un_mk, M_ch_mk, M_lc_mk, M_ac_mk, M_bd_mk, h1, h2, h3, h4, h5, h6, h7, h8, h9, h10, h11, h12, h13, ha, hn, eb]
  · simp only [C_me_mk, C_ra_mk, C_co_mk, C_al_mk, C_re_mk, C_lo_mk, C_rs_mk, C_li_mk, C_he_mk, C_go_mk, C_br_mk, C_cu_mk, C_lc_mk, C_ac_mk, M_cd_mk, M_pt_mk, M_mn_mk, M_ev_mk, M_co_mk, M_al_mk, M_re_mk, M_lo_mk, M_rs_mk, M_li_mk, M_he_mk, M_go_mk, M_sp_mk, M_ba_mk, M_le_mk, M_lf_mk, M_mo_mk, M_un_mk, M_ch_mk, M_lc_mk, M_ac_mk, M_bd_mk, h1, h2, h3, h4, h5, h6, h7, h8, h9, h10, h11, h12, h13, ha, hn, eb]
  · simp only [C_me_mk, C_ra_mk, C_co_mk, C_al_mk, C_re_mk, C_lo_mk, C_rs_mk, C_li_mk, C_he_mk, C_go_mk, C_br_mk, C_cu_mk, C_lc_mk, C_ac_mk, M_cd_mk, M_pt_mk, M_mn_mk, M_ev_mk, M_co_mk, M_al_mk, M_re_mk, M_lo_mk, M_rs_mk, M_li_mk, M_he_mk, M_go_mk, M_sp_mk, M_ba_mk, M_le_mk, M_lf_mk, M_mo_mk, M_un_mk, M_ch_mk, M_lc_mk, M_ac_mk, M_bd_mk, h1, h2, h3, h4, h5, h6, h7, h8, h9, h10, h11, h12, h13, ha, hn, eb]
  · simp only [C_me_mk, C_ra_mk, C_co_mk, C_al_mk, C_re_mk, C_lo_mk, C_rs_mk, C_li_mk, C_he_mk, C_go_mk, C_br_mk, C_cu_mk, C_lc_mk, C_ac_mk, M_cd_mk, M_pt_mk, M_mn_mk, M_ev_mk, M_co_mk, M_al_mk, M_re_mk, M_lo_mk, M_rs_mk, M_li_mk, M_he_mk, M_go_mk, M_sp_mk, M_ba_mk, M_le_mk, M_lf_mk, M_mo_mk, M_un_mk, M_ch_mk, M_lc_mk, M_ac_mk, M_bd_mk, h1, h2, h3, h4, h5, h6, h7, h8, h9, h10, h11, h12, h13, ha, hn, eb]
  · simp only [C_me_mk, C_ra_mk, C_co_mk, C_al_mk, C_re_mk, C_lo_mk, C_rs_mk, C_li_mk, C_he_mk, C_go_mk, C_br_mk, C_cu_mk, C_lc_mk, C_ac_mk, M_cd_mk, M_pt_mk, M_mn_mk, M_ev_mk, M_co_mk, M_al_mk, M_re_mk, M_lo_mk, M_rs_mk, M_li_mk, M_he_mk, M_go_mk, M_sp_mk, M_ba_mk, M_le_mk, M_lf_mk, M_mo_mk, M_un_mk, M_ch_mk, M_lc_mk, M_ac_mk, M_bd_mk, h1, h2, h3, h4, h5, h6, h7, h8, h9, h10, h11, h12, h13, ha, hn, eb]
  · simp only [C_me_mk, C_ra_mk, C_co_mk, C_al_mk, C_re_mk, C_lo_mk, C_rs_mk, C_li_mk, C_he_mk, C_go_mk, C_br_mk, C_cu_mk, C_lc_mk, C_ac_mk, M_cd_mk, M_pt_mk, M_mn_mk, M_ev_mk, M_co_mk, M_al_mk, M_re_mk, M_lo_mk, M_rs_mk, M_li_mk, M_he_mk, M_go_mk, M_sp_mk, M_ba_mk, M_le_mk, M_lf_mk, M_mo_mk, M_un_mk, M_ch_mk, M_lc_mk, M_ac_mk, M_bd_mk, h1, h2, h3, h4, h5, h6, h7, h8, h9, h10, h11, h12, h13, ha, hn, eb]
  · simp only [C_me_mk, C_ra_mk, C_co_mk, C_al_mk, C_re_mk, C_lo_mk, C_rs_mk, C_li_mk, C_he_mk, C_go_mk, C_br_mk, C_cu_mk, C_lc_mk, C_ac_mk, M_cd_mk, M_pt_mk, M_mn_mk, M_ev_mk, M_co_mk, M_al_mk, M_re_mk, M_lo_mk, M_rs_mk, M_li_mk, M_he_mk, M_go_mk, M_sp_mk, M_ba_mk, M_le_mk, M_lf_mk, M_mo_mk, M_un_mk, M_ch_mk, M_lc_mk, M_ac_mk, M_bd_mk, h1, h2, h3, h4, h5, h6, h7, h8, h9, h10, h11, h12, h13, ha, hn, eb]
  · simp only [C_me_mk, C_ra_mk, C_co_mk, C_al_mk, C_re_mk, C_lo_mk, C_rs_mk, C_li_mk, C_he_mk, C_go_mk, C_br_mk, C_cu_mk, C_lc_mk, C_ac_mk, M_cd_mk, M_pt_mk, M_mn_mk, M_ev_mk, M_co_mk, M_al_mk, M_re_mk, M_lo_mk, M_rs_mk, M_li_mk, M_he_mk, M_go_mk, M_sp_mk, M_ba_mk, M_le_mk, M_lf_mk, M_mo_mk, M_un_mk, M_ch_mk, M_lc_mk, M_ac_mk, M_bd_mk, h1, h2, h3, h4, h5, h6, h7, h8, h9, h10, h11, h12, h13, ha, hn, eb]
  · simp only [C_me_mk, C_ra_mk, C_co_mk, C_al_mk, C_re_mk, C_lo_mk, C_rs_mk, C_li_mk, C_he_mk, C_go_mk, C_br_mk, C_cu_mk, C_lc_mk, C_ac_mk, M_cd_mk, M_pt_mk, M_mn_mk, M_ev_mk, M_co_mk, M_al_mk, M_re_mk, M_lo_mk, M_rs_mk, M_li_mk, M_he_mk, M_go_mk, M_sp_mk, M_ba_mk, M_le_mk, M_lf_mk, M_mo_mk, M_un_mk, M_ch_mk, M_lc_mk, M_ac_mk, M_bd_mk, h1, h2, h3, h4, h5, h6, h7, h8, h9, h10, h11, h12, h13, ha, hn, eb]
  · simp only [C_me_mk, C_ra_mk, C_co_mk, C_al_mk, C_re_mk, C_lo_mk, C_rs_mk, C_li_mk, C_he_mk, C_go_mk, C_br_mk, C_cu_mk, C_lc_mk, C_ac_mk, M_cd_mk, M_pt_mk, M_mn_mk, M_ev_mk, M_co_mk, M_al_mk, M_re_mk, M_lo_mk, M_rs_mk, M_li_mk, M_he_mk, M_go_mk, M_sp_mk, M_ba_mk, M_le_mk, M_lf_mk, M_mo_mk, M_un_mk, M_ch_mk, M_lc_mk, M_ac_mk, M_bd_mk, h1, h2, h3, h4, h5, h6, h7, h8, h9, h10, h11, h12, h13, ha, hn, eb]
  · simp only [C_me_mk, C_ra_mk, C_co_mk, C_al_mk, C_re_mk, C_lo_mk, C_rs_mk, C_li_mk, C_he_mk, C_go_mk, C_br_mk, C_cu_mk, C_lc_mk, C_ac_mk, M_cd_mk, M_pt_mk, M_mn_mk, M_ev_mk, M_co_mk, M_al_mk, M_re_mk, M_lo_mk, M_rs_mk, M_li_mk, M_he_mk, M_go_mk, M_sp_mk, M_ba_mk, M_le_mk, M_lf_mk, M_mo_mk, M_un_mk, M_ch_mk, M_lc_mk, M_ac_mk, M_bd_mk, h1, h2, h3, h4, h5, h6, h7, h8, h9, h10, h11, h12, h13, ha, hn, eb]
  · simp only [C_me_mk, C_ra_mk, C_co_mk, C_al_mk, C_re_mk, C_lo_mk, C_rs_mk, C_li_mk, C_he_mk, C_go_mk, C_br_mk, C_cu_mk, C_lc_mk, C_ac_mk, M_cd_mk, M_pt_mk, M_mn_mk, M_ev_mk, M_co_mk, M_al_mk, M_re_mk, M_lo_mk, M_rs_mk, M_li_mk, M_he_mk, M_go_mk, M_sp_mk, M_ba_mk, M_le_mk, M_lf_mk, M_mo_mk, M_un_mk, M_ch_mk, M_lc_mk, M_ac_mk, M_bd_mk, h1, h2, h3, h4, h5, h6, h7, h8, h9, h10, h11, h12, h13, ha, hn, eb]
  · simp only [C_me_mk, C_ra_mk, C_co_mk, C_al_mk, C_re_mk, C_lo_mk, C_rs_mk, C_li_mk, C_he_mk, C_go_mk, C_br_mk, C_cu_mk, C_lc_mk, C_ac_mk, M_cd_mk, M_pt_mk, M_mn_mk, M_ev_mk, M_co_mk, M_al_mk, M_re_mk, M_lo_mk, M_rs_mk, M_li_mk, M_he_mk, M_go_mk, M_sp_mk, M_ba_mk, M_le_mk, M_lf_mk, M_mo_mk, M_un_mk, M_ch_mk, M_lc_mk, M_ac_mk, M_bd_mk, h1, h2, h3, h4, h5, h6, h7, h8, h9, h10, h11, h12, h13, ha, hn, eb]
  · simp only [C_me_mk, C_ra_mk, C_co_mk, C_al_mk, C_re_mk, C_lo_mk, C_rs_mk, C_li_mk, C_he_mk, C_go_mk, C_br_mk, C_cu_mk, C_lc_mk, C_ac_mk, M_cd_mk, M_pt_mk, M_mn_mk, M_ev_mk, M_co_mk, M_al_mk, M_re_mk, M_lo_mk, M_rs_mk, M_li_mk, M_he_mk, M_go_mk, M_sp_mk, M_ba_mk, M_le_mk, M_lf_mk, M_mo_mk, M_un_mk, M_ch_mk, M_lc_mk, M_ac_mk, M_bd_mk]; exact h14
  · rw [M_ba_mk]; exact f1
  · rw [M_le_mk]; exact f2
  · rw [M_mo_mk, M_ch_mk]; exact f3
  · rw [M_lf_mk, M_un_mk]; exact f4
  · rw [M_co_mk]; omega
  · rw [M_al_mk, M_co_mk]; omega
  · rw [M_rs_mk]; omega
  · rw [M_li_mk]; omega
  · rw [M_sp_mk]; omega
  · rw [M_ba_mk]; omega
  · rw [M_ch_mk, M_ba_mk, M_al_mk, M_co_mk]; exact s3
  · rw [M_mo_mk, M_li_mk, M_le_mk]; omega
  · rw [M_un_mk]; omega
  · rw [M_lf_mk]; omega
set_option maxHeartbeats 2000000 in
theorem es_7 {me ra : Int32} {c : CR} {t : SR} {m : MR} {T : TR} {p e mm : Int32} {ev : ER} {mr : Int64} {jc ju : Int} (h : RS me ra c t m) (n : NC jc ju m) (s : NS me ju m) (hj0 : 0 ≤ jc) (hj : jc ≤ 35) (hu : ju ≤ 36) (hT : T_ra T (Int32.toNatClampNeg p) = ra) (hra : 0 ≤ ra.toInt ∧ ra.toInt ≤ 1000000) (hk : E_ki ev = (T_ki T (Int32.toNatClampNeg e))) (ha : E_am ev = (T_am T (Int32.toNatClampNeg e))) (hn : E_nu ev = (T_nu T (Int32.toNatClampNeg e))) (hv : EV (T_ki T (Int32.toNatClampNeg e)) (T_am T (Int32.toNatClampNeg e)) (T_nu T (Int32.toNatClampNeg e))) (g : M_go m = 0) (hh : ¬ M_he m = 0) (k : (T_ki T (Int32.toNatClampNeg e)) = 7) : ES me ra c t m T p e mm ev mr jc ju := by
  have hs0 := h
  have hb := bk_int n (by omega)
  obtain ⟨⟨⟨h1, h2, h3, h4, h5⟩, ⟨h6, h7, h8⟩, ⟨h9, h10⟩, ⟨h11, h12, h13⟩, h14⟩, hst⟩ := h
  have n0 := n
  obtain ⟨⟨n1, n2⟩, ⟨n3, n4⟩, ⟨n5, n6⟩, ⟨n7, n8⟩, ⟨n9, n10⟩⟩ := n
  have eb : m_X0_book c t = M_co m - M_al m := by unfold m_X0_book; rw [h1, h2]
  have ebm : m_X5_book m T = M_co m - M_al m := rfl
  have qb : C_go c = 0 ↔ M_go m = 0 := by rw [h8]
  have hs := s
  have kc : E_ki ev = 7 := by rw [hk, k]
  have gc : C_go c = 0 := by rw [h8, g]
  have h6k : ¬ 6 ≤ (T_ki T (Int32.toNatClampNeg e)) ∨ 6 ≤ (T_ki T (Int32.toNatClampNeg e)) := by by_cases z : 6 ≤ (T_ki T (Int32.toNatClampNeg e)); exact Or.inr z; exact Or.inl z
  obtain ⟨-, ⟨v1, v2⟩, v3, v4⟩ := hv
  generalize eA : (T_am T (Int32.toNatClampNeg e)) = A at *
  generalize eU : (T_nu T (Int32.toNatClampNeg e)) = U at *
  obtain ⟨⟨f1, f2⟩, f3, f4⟩ := hst
  obtain ⟨⟨s1, s2⟩, s3, ⟨s4, s5, s6⟩, ⟨s7, s8⟩, ⟨s9, s10⟩⟩ := s
  have hc : ¬ C_he c = 0 := by rw [h7]; exact hh
  have eI := ib_7h (t := t) (mr := mr) gc hc kc
  have eH := hp_7h (mm := mm) g hh k
  have h66 : 6 ≤ (T_ki T (Int32.toNatClampNeg e)) := by rw [k]; decide
  have eg : (gC m T p e mm 0) = (M_mk (M_cd m) (M_pt m) (M_mn m) (M_ev m) (M_co m) (M_al m) (M_re m) (M_lo m) (M_rs m) (M_li m) 0 (M_go m) (M_sp m) (M_ba m) (M_le m) (M_lf m) (M_mo m) (M_un m) (M_ch m) (M_lc m) (M_ac m) (M_bd m)) := by unfold gC; rw [if_pos rfl, if_pos h66, eH]
  refine Or.inr ⟨by rw [eH]; exact hh, ?_⟩
  rw [me_7 eI kc, ap_7 kc, eg]
  refine ⟨⟨⟨⟨?_, ?_, ?_, ?_, ?_⟩, ⟨?_, ?_, ?_⟩, ⟨?_, ?_⟩, ⟨?_, ?_, ?_⟩, ?_⟩, ⟨?_, ?_⟩, ?_, ?_⟩, ⟨?_, ?_, ?_, ?_, ?_⟩, ⟨?_, ?_, ?_, ?_, ?_⟩⟩
  · simp only [C_me_mk, C_ra_mk, C_co_mk, C_al_mk, C_re_mk, C_lo_mk, C_rs_mk, C_li_mk, C_he_mk, C_go_mk, C_br_mk, C_cu_mk, C_lc_mk, C_ac_mk, M_cd_mk, M_pt_mk, M_mn_mk, M_ev_mk, M_co_mk, M_al_mk, M_re_mk, M_lo_mk, M_rs_mk, M_li_mk, M_he_mk, M_go_mk, M_sp_mk, M_ba_mk, M_le_mk, M_lf_mk, M_mo_mk, M_un_mk, M_ch_mk, M_lc_mk, M_ac_mk, M_bd_mk, h1, h2, h3, h4, h5, h6, h7, h8, h9, h10, h11, h12, h13, ha, hn, eb]
  · simp only [C_me_mk, C_ra_mk, C_co_mk, C_al_mk, C_re_mk, C_lo_mk, C_rs_mk, C_li_mk, C_he_mk, C_go_mk, C_br_mk, C_cu_mk, C_lc_mk, C_ac_mk, M_cd_mk, M_pt_mk, M_mn_mk, M_ev_mk, M_co_mk, M_al_mk, M_re_mk, M_lo_mk, M_rs_mk, M_li_mk, M_he_mk, M_go_mk, M_sp_mk, M_ba_mk, M_le_mk, M_lf_mk, M_mo_mk, M_un_mk, M_ch_mk, M_lc_mk, M_ac_mk, M_bd_mk, h1, h2, h3, h4, h5, h6, h7, h8, h9, h10, h11, h12, h13, ha, hn, eb]
  · simp only [C_me_mk, C_ra_mk, C_co_mk, C_al_mk, C_re_mk, C_lo_mk, C_rs_mk, C_li_mk, C_he_mk, C_go_mk, C_br_mk, C_cu_mk, C_lc_mk, C_ac_mk, M_cd_mk, M_pt_mk, M_mn_mk, M_ev_mk, M_co_mk, M_al_mk, M_re_mk, M_lo_mk, M_rs_mk, M_li_mk, M_he_mk, M_go_mk, M_sp_mk, M_ba_mk, M_le_mk, M_lf_mk, M_mo_mk, M_un_mk, M_ch_mk, M_lc_mk, M_ac_mk, M_bd_mk, h1, h2, h3, h4, h5, h6, h7, h8, h9, h10, h11, h12, h13, ha, hn, eb]
  · simp only [C_me_mk, C_ra_mk, C_co_mk, C_al_mk, C_re_mk, C_lo_mk, C_rs_mk, C_li_mk, C_he_mk, C_go_mk, C_br_mk, C_cu_mk, C_lc_mk, C_ac_mk, M_cd_mk, M_pt_mk, M_mn_mk, M_ev_mk, M_co_mk, M_al_mk, M_re_mk, M_lo_mk, M_rs_mk, M_li_mk, M_he_mk, M_go_mk, M_sp_mk, M_ba_mk, M_le_mk, M_lf_mk, M_mo_mk, M_un_mk, M_ch_mk, M_lc_mk, M_ac_mk, M_bd_mk, h1, h2, h3, h4, h5, h6, h7, h8, h9, h10, h11, h12, h13, ha, hn, eb]
  · simp only [C_me_mk, C_ra_mk, C_co_mk, C_al_mk, C_re_mk, C_lo_mk, C_rs_mk, C_li_mk, C_he_mk, C_go_mk, C_br_mk, C_cu_mk, C_lc_mk, C_ac_mk, M_cd_mk, M_pt_mk, M_mn_mk, M_ev_mk, M_co_mk, M_al_mk, M_re_mk, M_lo_mk, M_rs_mk, M_li_mk, M_he_mk, M_go_mk, M_sp_mk, M_ba_mk, M_le_mk, M_lf_mk, M_mo_mk, M_un_mk, M_ch_mk, M_lc_mk, M_ac_mk, M_bd_mk, h1, h2, h3, h4, h5, h6, h7, h8, h9, h10, h11, h12, h13, ha, hn, eb]
  · simp only [C_me_mk, C_ra_mk, C_co_mk, C_al_mk, C_re_mk, C_lo_mk, C_rs_mk, C_li_mk, C_he_mk, C_go_mk, C_br_mk, C_cu_mk, C_lc_mk, C_ac_mk, M_cd_mk, M_pt_mk, M_mn_mk, M_ev_mk, M_co_mk, M_al_mk, M_re_mk, M_lo_mk, M_rs_mk, M_li_mk, M_he_mk, M_go_mk, M_sp_mk, M_ba_mk, M_le_mk, M_lf_mk, M_mo_mk, M_un_mk, M_ch_mk, M_lc_mk, M_ac_mk, M_bd_mk, h1, h2, h3, h4, h5, h6, h7, h8, h9, h10, h11, h12, h13, ha, hn, eb]
  · simp only [C_me_mk, C_ra_mk, C_co_mk, C_al_mk, C_re_mk, C_lo_mk, C_rs_mk, C_li_mk, C_he_mk, C_go_mk, C_br_mk, C_cu_mk, C_lc_mk, C_ac_mk, M_cd_mk, M_pt_mk, M_mn_mk, M_ev_mk, M_co_mk, M_al_mk, M_re_mk, M_lo_mk, M_rs_mk, M_li_mk, M_he_mk, M_go_mk, M_sp_mk, M_ba_mk, M_le_mk, M_lf_mk, M_mo_mk, M_un_mk, M_ch_mk, M_lc_mk, M_ac_mk, M_bd_mk, h1, h2, h3, h4, h5, h6, h7, h8, h9, h10, h11, h12, h13, ha, hn, eb]
  · simp only [C_me_mk, C_ra_mk, C_co_mk, C_al_mk, C_re_mk, C_lo_mk, C_rs_mk, C_li_mk, C_he_mk, C_go_mk, C_br_mk, C_cu_mk, C_lc_mk, C_ac_mk, M_cd_mk, M_pt_mk, M_mn_mk, M_ev_mk, M_co_mk, M_al_mk, M_re_mk, M_lo_mk, M_rs_mk, M_li_mk, M_he_mk, M_go_mk, M_sp_mk, M_ba_mk, M_le_mk, M_lf_mk, M_mo_mk, M_un_mk, M_ch_mk, M_lc_mk, M_ac_mk, M_bd_mk, h1, h2, h3, h4, h5, h6, h7, h8, h9, h10, h11, h12, h13, ha, hn, eb]
  · simp only [C_me_mk, C_ra_mk, C_co_mk, C_al_mk, C_re_mk, C_lo_mk, C_rs_mk, C_li_mk, C_he_mk, C_go_mk, C_br_mk, C_cu_mk, C_lc_mk, C_ac_mk, M_cd_mk, M_pt_mk, M_mn_mk, M_ev_mk, M_co_mk, M_al_mk, M_re_mk, M_lo_mk, M_rs_mk, M_li_mk, M_he_mk, M_go_mk, M_sp_mk, M_ba_mk, M_le_mk, M_lf_mk, M_mo_mk, M_un_mk, M_ch_mk, M_lc_mk, M_ac_mk, M_bd_mk, h1, h2, h3, h4, h5, h6, h7, h8, h9, h10, h11, h12, h13, ha, hn, eb]
  · simp only [C_me_mk, C_ra_mk, C_co_mk, C_al_mk, C_re_mk, C_lo_mk, C_rs_mk, C_li_mk, C_he_mk, C_go_mk, C_br_mk, C_cu_mk, C_lc_mk, C_ac_mk, M_cd_mk, M_pt_mk, M_mn_mk, M_ev_mk, M_co_mk, M_al_mk, M_re_mk, M_lo_mk, M_rs_mk, M_li_mk, M_he_mk, M_go_mk, M_sp_mk, M_ba_mk, M_le_mk, M_lf_mk, M_mo_mk, M_un_mk, M_ch_mk, M_lc_mk, M_ac_mk, M_bd_mk, h1, h2, h3, h4, h5, h6, h7, h8, h9, h10, h11, h12, h13, ha, hn, eb]
  · simp only [C_me_mk, C_ra_mk, C_co_mk, C_al_mk, C_re_mk, C_lo_mk, C_rs_mk, C_li_mk, C_he_mk, C_go_mk, C_br_mk, C_cu_mk, C_lc_mk, C_ac_mk, M_cd_mk, M_pt_mk, M_mn_mk, M_ev_mk, M_co_mk, M_al_mk, M_re_mk, M_lo_mk, M_rs_mk, M_li_mk, M_he_mk, M_go_mk, M_sp_mk, M_ba_mk, M_le_mk, M_lf_mk, M_mo_mk, M_un_mk, M_ch_mk, M_lc_mk, M_ac_mk, M_bd_mk, h1, h2, h3, h4, h5, h6, h7, h8, h9, h10, h11, h12, h13, ha, hn, eb]
  · simp only [C_me_mk, C_ra_mk, C_co_mk, C_al_mk, C_re_mk, C_lo_mk, C_rs_mk, C_li_mk, C_he_mk, C_go_mk, C_br_mk, C_cu_mk, C_lc_mk, C_ac_mk, M_cd_mk, M_pt_mk, M_mn_mk, M_ev_mk, M_co_mk, M_al_mk, M_re_mk, M_lo_mk, M_rs_mk, M_li_mk, M_he_mk, M_go_mk, M_sp_mk, M_ba_mk, M_le_mk, M_lf_mk, M_mo_mk, M_un_mk, M_ch_mk, M_lc_mk, M_ac_mk, M_bd_mk, h1, h2, h3, h4, h5, h6, h7, h8, h9, h10, h11, h12, h13, ha, hn, eb]
  · simp only [C_me_mk, C_ra_mk, C_co_mk, C_al_mk, C_re_mk, C_lo_mk, C_rs_mk, C_li_mk, C_he_mk, C_go_mk, C_br_mk, C_cu_mk, C_lc_mk, C_ac_mk, M_cd_mk, M_pt_mk, M_mn_mk, M_ev_mk, M_co_mk, M_al_mk, M_re_mk, M_lo_mk, M_rs_mk, M_li_mk, M_he_mk, M_go_mk, M_sp_mk, M_ba_mk, M_le_mk, M_lf_mk, M_mo_mk, M_un_mk, M_ch_mk, M_lc_mk, M_ac_mk, M_bd_mk, h1, h2, h3, h4, h5, h6, h7, h8, h9, h10, h11, h12, h13, ha, hn, eb]
  · simp only [C_me_mk, C_ra_mk, C_co_mk, C_al_mk, C_re_mk, C_lo_mk, C_rs_mk, C_li_mk, C_he_mk, C_go_mk, C_br_mk, C_cu_mk, C_lc_mk, C_ac_mk, M_cd_mk, M_pt_mk, M_mn_mk, M_ev_mk, M_co_mk, M_al_mk, M_re_mk, M_lo_mk, M_rs_mk, M_li_mk, M_he_mk, M_go_mk, M_sp_mk, M_ba_mk, M_le_mk, M_lf_mk, M_mo_mk, M_un_mk, M_ch_mk, M_lc_mk, M_ac_mk, M_bd_mk]; exact h14
  · rw [M_ba_mk]; exact f1
  · rw [M_le_mk]; exact f2
  · rw [M_mo_mk, M_ch_mk]; exact f3
  · rw [M_lf_mk, M_un_mk]; exact f4
  · rw [M_co_mk]; omega
  · rw [M_al_mk, M_co_mk]; omega
  · rw [M_rs_mk]; omega
  · rw [M_li_mk]; omega
  · rw [M_sp_mk]; omega
  · rw [M_ba_mk]; omega
  · rw [M_ch_mk, M_ba_mk, M_al_mk, M_co_mk]; exact s3
  · rw [M_mo_mk, M_li_mk, M_le_mk]; omega
  · rw [M_un_mk]; omega
  · rw [M_lf_mk]; omega
set_option maxHeartbeats 2000000 in
/-- an event on both sides -/
theorem E_step {me ra : Int32} {c : CR} {t : SR} {m : MR} {T : TR} {p e mm : Int32} {ev : ER} {mr : Int64} {jc ju : Int} (h : RS me ra c t m) (n : NC jc ju m) (s : NS me ju m) (hj0 : 0 ≤ jc) (hj : jc ≤ 35) (hu : ju ≤ 36) (hT : T_ra T (Int32.toNatClampNeg p) = ra) (hra : 0 ≤ ra.toInt ∧ ra.toInt ≤ 1000000) (hk : E_ki ev = (T_ki T (Int32.toNatClampNeg e))) (ha : E_am ev = (T_am T (Int32.toNatClampNeg e))) (hn : E_nu ev = (T_nu T (Int32.toNatClampNeg e))) (hv : EV (T_ki T (Int32.toNatClampNeg e)) (T_am T (Int32.toNatClampNeg e)) (T_nu T (Int32.toNatClampNeg e))) (h4b : E_ki ev = 4 → (M_bd m ≤ mm ∧ mr = -1) ∨ (¬ M_bd m ≤ mm ∧ mr = T_bf T (Int32.toNatClampNeg mm))) : ES me ra c t m T p e mm ev mr jc ju := by
  have h7 : C_he c = M_he m := h.1.2.1.2.1
  have h8 : C_go c = M_go m := h.1.2.1.2.2
  by_cases g : M_go m = 0
  · have gc : C_go c = 0 := by rw [h8, g]
    have hv0 := hv
    rcases hv.1 with k | k | k | k | k | k | k | k
    all_goals by_cases hh : M_he m = 0
    · exact es_0 h n s hj0 hj hu hT hra hk ha hn hv0 g hh k
    · exact Or.inl ⟨hp_h g hh (by rw [k]; decide) (by rw [k]; decide), me_b (ib_h gc (by rw [h7]; exact hh) (by rw [hk, k]; decide) (by rw [hk, k]; decide))⟩
    · exact es_1 h n s hj0 hj hu hT hra hk ha hn hv0 g hh k
    · exact Or.inl ⟨hp_h g hh (by rw [k]; decide) (by rw [k]; decide), me_b (ib_h gc (by rw [h7]; exact hh) (by rw [hk, k]; decide) (by rw [hk, k]; decide))⟩
    · exact es_2 h n s hj0 hj hu hT hra hk ha hn hv0 g hh k
    · exact Or.inl ⟨hp_h g hh (by rw [k]; decide) (by rw [k]; decide), me_b (ib_h gc (by rw [h7]; exact hh) (by rw [hk, k]; decide) (by rw [hk, k]; decide))⟩
    · exact es_3 h n s hj0 hj hu hT hra hk ha hn hv0 g hh k
    · exact Or.inl ⟨hp_h g hh (by rw [k]; decide) (by rw [k]; decide), me_b (ib_h gc (by rw [h7]; exact hh) (by rw [hk, k]; decide) (by rw [hk, k]; decide))⟩
    · exact es_4 h n s hj0 hj hu hT hra hk ha hn hv0 g hh (h4b (by rw [hk, k])) k
    · exact Or.inl ⟨hp_h g hh (by rw [k]; decide) (by rw [k]; decide), me_b (ib_h gc (by rw [h7]; exact hh) (by rw [hk, k]; decide) (by rw [hk, k]; decide))⟩
    · exact es_5 h n s hj0 hj hu hT hra hk ha hn hv0 g k
    · exact es_5 h n s hj0 hj hu hT hra hk ha hn hv0 g k
    · exact es_6 h n s hj0 hj hu hT hra hk ha hn hv0 g hh k
    · exact Or.inl ⟨hp_h g hh (by rw [k]; decide) (by rw [k]; decide), me_b (ib_h gc (by rw [h7]; exact hh) (by rw [hk, k]; decide) (by rw [hk, k]; decide))⟩
    · exact Or.inl ⟨by rw [hp_7 g hh k]; exact hh, me_b (ib_7 gc (by rw [h7, hh]) (by rw [hk, k]))⟩
    · exact es_7 h n s hj0 hj hu hT hra hk ha hn hv0 g hh k
  · exact Or.inl ⟨hp_g g, me_b (ib_g (by rw [h8]; exact g))⟩

theorem ev_R {c : MR} {T : TR} {NE : Nat} (hev : M_ev c = nI NE) (hN : NE ≤ 40) {i mm ki : Int32} {v : Int64} {n : Int32} : ((f2_X5_event c T i mm ki v n (f0_X5_event c T i mm ki v n) (f1_X5_event c T i mm ki v n (f0_X5_event c T i mm ki v n))) = 0 → (m_X5_event c T i mm ki v n).2.1 = (M_mk 1 (M_pt c) (M_mn c) (M_ev c) (M_co c) (M_al c) (M_re c) (M_lo c) (M_rs c) (M_li c) (M_he c) (M_go c) (M_sp c) (M_ba c) (M_le c) (M_lf c) (M_mo c) (M_un c) (M_ch c) (M_lc c) (M_ac c) (M_bd c)) ∧ (m_X5_event c T i mm ki v n).2.2 = T) ∧ (¬ (f2_X5_event c T i mm ki v n (f0_X5_event c T i mm ki v n) (f1_X5_event c T i mm ki v n (f0_X5_event c T i mm ki v n))) = 0 → (0 ≤ (m_X5_eventIn c T i mm) ∨ (m_X5_countOf c T i) = 8 ∨ NE = 40) → (m_X5_event c T i mm ki v n).2.1 = (M_mk 2 (M_pt c) (M_mn c) (M_ev c) (M_co c) (M_al c) (M_re c) (M_lo c) (M_rs c) (M_li c) (M_he c) (M_go c) (M_sp c) (M_ba c) (M_le c) (M_lf c) (M_mo c) (M_un c) (M_ch c) (M_lc c) (M_ac c) (M_bd c)) ∧ (m_X5_event c T i mm ki v n).2.2 = T) ∧ (¬ (f2_X5_event c T i mm ki v n (f0_X5_event c T i mm ki v n) (f1_X5_event c T i mm ki v n (f0_X5_event c T i mm ki v n))) = 0 → ¬ 0 ≤ (m_X5_eventIn c T i mm) → ¬ (m_X5_countOf c T i) = 8 → ¬ NE = 40 → (m_X5_event c T i mm ki v n) = m_X5_event_5 c T i mm ki v n (f0_X5_event c T i mm ki v n) (f1_X5_event c T i mm ki v n (f0_X5_event c T i mm ki v n)) (f2_X5_event c T i mm ki v n (f0_X5_event c T i mm ki v n) (f1_X5_event c T i mm ki v n (f0_X5_event c T i mm ki v n))) (M_mk 0 (M_pt c) (M_mn c) (M_ev c) (M_co c) (M_al c) (M_re c) (M_lo c) (M_rs c) (M_li c) (M_he c) (M_go c) (M_sp c) (M_ba c) (M_le c) (M_lf c) (M_mo c) (M_un c) (M_ch c) (M_lc c) (M_ac c) (M_bd c)) (M_mk 0 (M_pt c) (M_mn c) (nI NE + 1) (M_co c) (M_al c) (M_re c) (M_lo c) (M_rs c) (M_li c) (M_he c) (M_go c) (M_sp c) (M_ba c) (M_le c) (M_lf c) (M_mo c) (M_un c) (M_ch c) (M_lc c) (M_ac c) (M_bd c)) (tE T NE (i + 1) mm ki v n)) := by
  have n40 : (nI NE = 40) ↔ NE = 40 := by rw [show (40 : Int32) = nI 40 from rfl]; exact nI_eq (by omega) (by omega)
  unfold m_X5_event m_X5_event_0 m_X5_event_1 m_X5_event_2 m_X5_event_3 f3_X5_event
  generalize (f0_X5_event c T i mm ki v n) = g0
  generalize f1_X5_event c T i mm ki v n g0 = g1
  generalize f2_X5_event c T i mm ki v n g0 g1 = g2
  refine ⟨fun h => ?_, fun h h6 => ?_, fun h h1 h2 h3 => ?_⟩
  · rw [if_pos h]
    unfold m_X5_event_4
    rw [if_neg (show ¬ M_cd (M_mk 1 (M_pt c) (M_mn c) (M_ev c) (M_co c) (M_al c) (M_re c) (M_lo c) (M_rs c) (M_li c) (M_he c) (M_go c) (M_sp c) (M_ba c) (M_le c) (M_lf c) (M_mo c) (M_un c) (M_ch c) (M_lc c) (M_ac c) (M_bd c)) ≤ 0 by rw [M_cd_mk]; decide)]
    exact ⟨rfl, rfl⟩
  · have e : (if 0 ≤ (m_X5_eventIn c T i mm) then (M_mk 2 (M_pt c) (M_mn c) (M_ev c) (M_co c) (M_al c) (M_re c) (M_lo c) (M_rs c) (M_li c) (M_he c) (M_go c) (M_sp c) (M_ba c) (M_le c) (M_lf c) (M_mo c) (M_un c) (M_ch c) (M_lc c) (M_ac c) (M_bd c)) else if (m_X5_countOf c T i) = 8 then (M_mk 2 (M_pt c) (M_mn c) (M_ev c) (M_co c) (M_al c) (M_re c) (M_lo c) (M_rs c) (M_li c) (M_he c) (M_go c) (M_sp c) (M_ba c) (M_le c) (M_lf c) (M_mo c) (M_un c) (M_ch c) (M_lc c) (M_ac c) (M_bd c)) else if M_ev c = 40 then (M_mk 2 (M_pt c) (M_mn c) (M_ev c) (M_co c) (M_al c) (M_re c) (M_lo c) (M_rs c) (M_li c) (M_he c) (M_go c) (M_sp c) (M_ba c) (M_le c) (M_lf c) (M_mo c) (M_un c) (M_ch c) (M_lc c) (M_ac c) (M_bd c)) else (M_mk 0 (M_pt c) (M_mn c) (M_ev c) (M_co c) (M_al c) (M_re c) (M_lo c) (M_rs c) (M_li c) (M_he c) (M_go c) (M_sp c) (M_ba c) (M_le c) (M_lf c) (M_mo c) (M_un c) (M_ch c) (M_lc c) (M_ac c) (M_bd c))) = (M_mk 2 (M_pt c) (M_mn c) (M_ev c) (M_co c) (M_al c) (M_re c) (M_lo c) (M_rs c) (M_li c) (M_he c) (M_go c) (M_sp c) (M_ba c) (M_le c) (M_lf c) (M_mo c) (M_un c) (M_ch c) (M_lc c) (M_ac c) (M_bd c)) := by
      by_cases y1 : 0 ≤ (m_X5_eventIn c T i mm)
      · rw [if_pos y1]
      · rw [if_neg y1]
        by_cases y2 : (m_X5_countOf c T i) = 8
        · rw [if_pos y2]
        · rw [if_neg y2, if_pos (by rw [hev]; exact n40.mpr (by rcases h6 with z | z | z; exact absurd z y1; exact absurd z y2; exact z))]
    rw [if_neg h, e]
    unfold m_X5_event_4
    rw [if_neg (show ¬ M_cd (M_mk 2 (M_pt c) (M_mn c) (M_ev c) (M_co c) (M_al c) (M_re c) (M_lo c) (M_rs c) (M_li c) (M_he c) (M_go c) (M_sp c) (M_ba c) (M_le c) (M_lf c) (M_mo c) (M_un c) (M_ch c) (M_lc c) (M_ac c) (M_bd c)) ≤ 0 by rw [M_cd_mk]; decide)]
    exact ⟨rfl, rfl⟩
  · rw [if_neg h, if_neg h1, if_neg h2, if_neg (show ¬ M_ev c = 40 by rw [hev]; exact fun z => h3 (n40.mp z))]
    unfold m_X5_event_4
    rw [if_pos (show M_cd (M_mk 0 (M_pt c) (M_mn c) (M_ev c) (M_co c) (M_al c) (M_re c) (M_lo c) (M_rs c) (M_li c) (M_he c) (M_go c) (M_sp c) (M_ba c) (M_le c) (M_lf c) (M_mo c) (M_un c) (M_ch c) (M_lc c) (M_ac c) (M_bd c)) ≤ 0 by rw [M_cd_mk]; decide)]
    unfold tE
    simp only [M_cd_mk, M_pt_mk, M_mn_mk, M_ev_mk, M_co_mk, M_al_mk, M_re_mk, M_lo_mk, M_rs_mk, M_li_mk, M_he_mk, M_go_mk, M_sp_mk, M_ba_mk, M_le_mk, M_lf_mk, M_mo_mk, M_un_mk, M_ch_mk, M_lc_mk, M_ac_mk, M_bd_mk, T_cs_s_of, T_rs_s_of, T_fi_s_of, T_li_s_of, T_me_s_of, T_ra_s_of, T_us_s_of, T_po_s_of, T_of_s_of, T_wh_s_of, T_ki_s_of, T_am_s_of, T_nu_s_of, T_cs_s_wh, T_rs_s_wh, T_fi_s_wh, T_li_s_wh, T_me_s_wh, T_ra_s_wh, T_us_s_wh, T_po_s_wh, T_of_s_wh, T_wh_s_wh, T_ki_s_wh, T_am_s_wh, T_nu_s_wh, T_cs_s_ki, T_rs_s_ki, T_fi_s_ki, T_li_s_ki, T_me_s_ki, T_ra_s_ki, T_us_s_ki, T_po_s_ki, T_of_s_ki, T_wh_s_ki, T_ki_s_ki, T_am_s_ki, T_nu_s_ki, T_cs_s_am, T_rs_s_am, T_fi_s_am, T_li_s_am, T_me_s_am, T_ra_s_am, T_us_s_am, T_po_s_am, T_of_s_am, T_wh_s_am, T_ki_s_am, T_am_s_am, T_nu_s_am, T_cs_s_nu, T_rs_s_nu, T_fi_s_nu, T_li_s_nu, T_me_s_nu, T_ra_s_nu, T_us_s_nu, T_po_s_nu, T_of_s_nu, T_wh_s_nu, T_ki_s_nu, T_am_s_nu, T_nu_s_nu]
    rw [hev, nI_clamp (by omega)]
theorem ev_V {c : MR} {T : TR} {i mm ki : Int32} {v : Int64} {n : Int32} : (m_X5_isPart c T i = 0 ∨ m_X5_isMonth mm = 0 ∨ mm < T_fi T (Int32.toNatClampNeg i) → (f2_X5_event c T i mm ki v n (f0_X5_event c T i mm ki v n) (f1_X5_event c T i mm ki v n (f0_X5_event c T i mm ki v n))) = 0) ∧ (¬ m_X5_isPart c T i = 0 → ¬ m_X5_isMonth mm = 0 → ¬ mm < T_fi T (Int32.toNatClampNeg i) → (f2_X5_event c T i mm ki v n (f0_X5_event c T i mm ki v n) (f1_X5_event c T i mm ki v n (f0_X5_event c T i mm ki v n))) = m_X4_isEvent ki v n) := by
  have z1 : f1_X5_event c T i mm ki v n 0 = 0 := by unfold f1_X5_event; rw [if_pos rfl]
  have z2 : f2_X5_event c T i mm ki v n 0 0 = 0 := by unfold f2_X5_event; rw [if_pos rfl]
  refine ⟨fun h => ?_, fun h1 h2 h3 => ?_⟩
  · have e : (f0_X5_event c T i mm ki v n) = 0 := by
      unfold f0_X5_event
      by_cases y1 : m_X5_isPart c T i = 0
      · rw [if_pos y1]
      · rw [if_neg y1]
        by_cases y2 : m_X5_isMonth mm = 0
        · rw [if_pos y2]
        · rw [if_neg y2, if_pos (by rcases h with z | z | z; exact absurd z y1; exact absurd z y2; exact z)]
    rw [e, z1, z2]
  · rw [ev_ok c T i mm]
    by_cases g : m_X5_isIn (Int32.toInt64 ki) 0 7 = 0
    · have e : (f0_X5_event c T i mm ki v n) = 0 := by
        unfold f0_X5_event
        rw [if_neg h1, if_neg h2, if_neg h3, if_pos g]
      rw [e, z1, z2, if_pos g]
    · have e : (f0_X5_event c T i mm ki v n) = 1 := by
        unfold f0_X5_event
        rw [if_neg h1, if_neg h2, if_neg h3, if_neg g]
      rw [e, if_neg g]

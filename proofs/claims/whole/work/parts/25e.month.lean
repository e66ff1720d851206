set_option maxHeartbeats 4000000 in
/-- a month's charge on both sides -/
theorem W_step {me ra : Int32} {c : CR} {t : SR} {m : MR} {T : TR} {p mm us : Int32} {jc ju : Int} (h : RS me ra c t m) (n : NC jc ju m) (s : NS me ju m) (hj : jc ≤ 36) (hu0 : 0 ≤ ju) (hu : ju ≤ 35) (hM : T_me T (Int32.toNatClampNeg p) = me) (hT : T_ra T (Int32.toNatClampNeg p) = ra) (hra : 0 ≤ ra.toInt ∧ ra.toInt ≤ 1000000) (hme : me = 0 ∨ me = 1 ∨ me = 2 ∨ me = 3) (hut : (T_us T (Int32.toNatClampNeg ((36 * p) + mm))) = us) (hus : 0 ≤ us.toInt ∧ us.toInt ≤ 1000000) : RS me ra (m_X0_chargeMonth c t us).1 (m_X0_chargeMonth c t us).2 (m_X5_writeOff m T p mm) ∧ NC jc (ju + 1) (m_X5_writeOff m T p mm) ∧ NS me (ju + 1) (m_X5_writeOff m T p mm) := by
  have hs0 := h
  have ns0 := s
  have nc0 := n
  obtain ⟨⟨⟨h1, h2, h3, h4, h5⟩, ⟨h6, h7, h8⟩, ⟨h9, h10⟩, ⟨h11, h12, h13⟩, h14⟩, ⟨h15, h16⟩, h17, h18⟩ := h
  obtain ⟨⟨n1, n2⟩, ⟨n3, n4⟩, ⟨n5, n6⟩, ⟨n7, n8⟩, ⟨n9, n10⟩⟩ := n
  obtain ⟨⟨s1, s2⟩, s3, ⟨s4, s5, s6⟩, ⟨s7, s8⟩, ⟨s9, s10⟩⟩ := s
  by_cases hA : ¬ M_he m = 0 ∨ ¬ M_go m = 0 ∨ M_li m = 0
  · rw [wo_0 hA, cm_0 (by rw [h6, h7, h8]; exact hA)]
    refine ⟨⟨⟨?_, ?_, ?_, ?_, ?_⟩, ?_, ?_, ?_⟩, ⟨?_, ?_, ?_, ?_, ?_⟩, ⟨?_, ?_, ?_, ?_, ?_⟩⟩
    · simp only [C_me_mk, C_ra_mk, C_co_mk, C_al_mk, C_re_mk, C_lo_mk, C_rs_mk, C_li_mk, C_he_mk, C_go_mk, C_br_mk, C_cu_mk, C_lc_mk, C_ac_mk, M_cd_mk, M_pt_mk, M_mn_mk, M_ev_mk, M_co_mk, M_al_mk, M_re_mk, M_lo_mk, M_rs_mk, M_li_mk, M_he_mk, M_go_mk, M_sp_mk, M_ba_mk, M_le_mk, M_lf_mk, M_mo_mk, M_un_mk, M_ch_mk, M_lc_mk, M_ac_mk, M_bd_mk, S_ba_mk, S_le_mk, S_ul_mk, S_mo_mk, S_un_mk, S_ch_mk]; exact ⟨h1, h2, h3, h4, h5⟩
    · simp only [C_me_mk, C_ra_mk, C_co_mk, C_al_mk, C_re_mk, C_lo_mk, C_rs_mk, C_li_mk, C_he_mk, C_go_mk, C_br_mk, C_cu_mk, C_lc_mk, C_ac_mk, M_cd_mk, M_pt_mk, M_mn_mk, M_ev_mk, M_co_mk, M_al_mk, M_re_mk, M_lo_mk, M_rs_mk, M_li_mk, M_he_mk, M_go_mk, M_sp_mk, M_ba_mk, M_le_mk, M_lf_mk, M_mo_mk, M_un_mk, M_ch_mk, M_lc_mk, M_ac_mk, M_bd_mk, S_ba_mk, S_le_mk, S_ul_mk, S_mo_mk, S_un_mk, S_ch_mk]; exact ⟨h6, h7, h8⟩
    · simp only [C_me_mk, C_ra_mk, C_co_mk, C_al_mk, C_re_mk, C_lo_mk, C_rs_mk, C_li_mk, C_he_mk, C_go_mk, C_br_mk, C_cu_mk, C_lc_mk, C_ac_mk, M_cd_mk, M_pt_mk, M_mn_mk, M_ev_mk, M_co_mk, M_al_mk, M_re_mk, M_lo_mk, M_rs_mk, M_li_mk, M_he_mk, M_go_mk, M_sp_mk, M_ba_mk, M_le_mk, M_lf_mk, M_mo_mk, M_un_mk, M_ch_mk, M_lc_mk, M_ac_mk, M_bd_mk, S_ba_mk, S_le_mk, S_ul_mk, S_mo_mk, S_un_mk, S_ch_mk]; exact ⟨by trivial, h10⟩
    · simp only [C_me_mk, C_ra_mk, C_co_mk, C_al_mk, C_re_mk, C_lo_mk, C_rs_mk, C_li_mk, C_he_mk, C_go_mk, C_br_mk, C_cu_mk, C_lc_mk, C_ac_mk, M_cd_mk, M_pt_mk, M_mn_mk, M_ev_mk, M_co_mk, M_al_mk, M_re_mk, M_lo_mk, M_rs_mk, M_li_mk, M_he_mk, M_go_mk, M_sp_mk, M_ba_mk, M_le_mk, M_lf_mk, M_mo_mk, M_un_mk, M_ch_mk, M_lc_mk, M_ac_mk, M_bd_mk, S_ba_mk, S_le_mk, S_ul_mk, S_mo_mk, S_un_mk, S_ch_mk]; exact ⟨h11, h12, h13⟩
    · simp only [C_me_mk, C_ra_mk, C_co_mk, C_al_mk, C_re_mk, C_lo_mk, C_rs_mk, C_li_mk, C_he_mk, C_go_mk, C_br_mk, C_cu_mk, C_lc_mk, C_ac_mk, M_cd_mk, M_pt_mk, M_mn_mk, M_ev_mk, M_co_mk, M_al_mk, M_re_mk, M_lo_mk, M_rs_mk, M_li_mk, M_he_mk, M_go_mk, M_sp_mk, M_ba_mk, M_le_mk, M_lf_mk, M_mo_mk, M_un_mk, M_ch_mk, M_lc_mk, M_ac_mk, M_bd_mk, S_ba_mk, S_le_mk, S_ul_mk, S_mo_mk, S_un_mk, S_ch_mk]; exact h14
    · simp only [C_me_mk, C_ra_mk, C_co_mk, C_al_mk, C_re_mk, C_lo_mk, C_rs_mk, C_li_mk, C_he_mk, C_go_mk, C_br_mk, C_cu_mk, C_lc_mk, C_ac_mk, M_cd_mk, M_pt_mk, M_mn_mk, M_ev_mk, M_co_mk, M_al_mk, M_re_mk, M_lo_mk, M_rs_mk, M_li_mk, M_he_mk, M_go_mk, M_sp_mk, M_ba_mk, M_le_mk, M_lf_mk, M_mo_mk, M_un_mk, M_ch_mk, M_lc_mk, M_ac_mk, M_bd_mk, S_ba_mk, S_le_mk, S_ul_mk, S_mo_mk, S_un_mk, S_ch_mk]; exact ⟨h15, h16⟩
    · simp only [C_me_mk, C_ra_mk, C_co_mk, C_al_mk, C_re_mk, C_lo_mk, C_rs_mk, C_li_mk, C_he_mk, C_go_mk, C_br_mk, C_cu_mk, C_lc_mk, C_ac_mk, M_cd_mk, M_pt_mk, M_mn_mk, M_ev_mk, M_co_mk, M_al_mk, M_re_mk, M_lo_mk, M_rs_mk, M_li_mk, M_he_mk, M_go_mk, M_sp_mk, M_ba_mk, M_le_mk, M_lf_mk, M_mo_mk, M_un_mk, M_ch_mk, M_lc_mk, M_ac_mk, M_bd_mk, S_ba_mk, S_le_mk, S_ul_mk, S_mo_mk, S_un_mk, S_ch_mk]; exact h17
    · simp only [C_me_mk, C_ra_mk, C_co_mk, C_al_mk, C_re_mk, C_lo_mk, C_rs_mk, C_li_mk, C_he_mk, C_go_mk, C_br_mk, C_cu_mk, C_lc_mk, C_ac_mk, M_cd_mk, M_pt_mk, M_mn_mk, M_ev_mk, M_co_mk, M_al_mk, M_re_mk, M_lo_mk, M_rs_mk, M_li_mk, M_he_mk, M_go_mk, M_sp_mk, M_ba_mk, M_le_mk, M_lf_mk, M_mo_mk, M_un_mk, M_ch_mk, M_lc_mk, M_ac_mk, M_bd_mk, S_ba_mk, S_le_mk, S_ul_mk, S_mo_mk, S_un_mk, S_ch_mk]; exact h18
    · rw [M_co_mk]; omega
    · rw [M_al_mk, M_co_mk]; omega
    · rw [M_rs_mk]; omega
    · rw [M_li_mk]; omega
    · rw [M_sp_mk]; omega
    · rw [M_ba_mk]; omega
    · rw [M_ch_mk, M_ba_mk, M_al_mk, M_co_mk]; exact s3
    · rw [M_mo_mk, M_li_mk, M_le_mk]; omega
    · rw [M_un_mk]; omega
    · rw [M_lf_mk]; omega
  · have g1 : M_he m = 0 := by by_cases z : M_he m = 0; exact z; exact absurd (Or.inl z) hA
    have g2 : M_go m = 0 := by by_cases z : M_go m = 0; exact z; exact absurd (Or.inr (Or.inl z)) hA
    have g3 : ¬ M_li m = 0 := fun z => hA (Or.inr (Or.inr z))
    have hl := i32_pos n7 g3
    have eli : (M_li m - 1).toInt = (M_li m).toInt - 1 := by rw [i32_sub, i32_1] <;> rw [i32_1] <;> omega
    have emo : (M_mo m + 1).toInt = (M_mo m).toInt + 1 := by rw [i32_add, i32_1] <;> rw [i32_1] <;> omega
    have emo6 : S_mo t = Int32.toInt64 (M_mo m) → S_mo t + 1 = Int32.toInt64 (M_mo m + 1) := fun e => by rw [l_add (by rw [i32_1]; omega) (by rw [i32_1]; omega), e, l_1]
    have esp : (M_sp m + us).toInt = (M_sp m).toInt + us.toInt := i32_add (by omega) (by omega)
    have eun : (M_un m + us).toInt = (M_un m).toInt + us.toInt := i32_add (by omega) (by omega)
    rcases hme with e | e | e | e
    · subst e
      have hn1 : ¬ (0 : Int32) = 1 := by decide
      obtain ⟨h17a, h17b⟩ := h17 hn1
      obtain ⟨s3a, s3b, s3c, s3d⟩ := s3 hn1
      obtain ⟨d1, d2, d3⟩ := tg_02 (T := T) (p := p) (us := us) hs0 ns0 hM (by decide) hl
      rw [wo_02 g1 g2 g3 (by rw [hM]; decide) (by rw [hM]; decide), cm_n (me := 0) (by rw [h7]; exact g1) (by rw [h8]; exact g2) (by rw [h6]; exact g3) (by rw [h12]; exact hn1) h12, d1]
      generalize (m_X5_together (M_mk (M_cd m) (M_pt m) (M_mn m) (M_ev m) (M_co m) (M_al m) (M_re m) (M_lo m) (M_rs m) (M_li m - 1) (M_he m) (M_go m) (M_sp m) (M_ba m) (M_le m) (M_lf m) (M_mo m + 1) (M_un m) (M_ch m) 0 (M_ac m) (M_bd m)) T p) = d at *
      have ed : (d - M_ch m).toInt = d.toInt - (M_ch m).toInt := i64_sub (by omega) (by omega)
      have ea : (M_al m + (d - M_ch m)).toInt = (M_al m).toInt + (d.toInt - (M_ch m).toInt) := by rw [i64_add, ed] <;> rw [ed] <;> omega
      refine ⟨⟨⟨?_, ?_, ?_, ?_, ?_⟩, ?_, ?_, ?_⟩, ⟨?_, ?_, ?_, ?_, ?_⟩, ⟨?_, ?_, ?_, ?_, ?_⟩⟩
      · simp only [C_me_mk, C_ra_mk, C_co_mk, C_al_mk, C_re_mk, C_lo_mk, C_rs_mk, C_li_mk, C_he_mk, C_go_mk, C_br_mk, C_cu_mk, C_lc_mk, C_ac_mk, M_cd_mk, M_pt_mk, M_mn_mk, M_ev_mk, M_co_mk, M_al_mk, M_re_mk, M_lo_mk, M_rs_mk, M_li_mk, M_he_mk, M_go_mk, M_sp_mk, M_ba_mk, M_le_mk, M_lf_mk, M_mo_mk, M_un_mk, M_ch_mk, M_lc_mk, M_ac_mk, M_bd_mk, S_ba_mk, S_le_mk, S_ul_mk, S_mo_mk, S_un_mk, S_ch_mk]; exact ⟨h1, by rw [h2, h17b], h3, h4, h5⟩
      · simp only [C_me_mk, C_ra_mk, C_co_mk, C_al_mk, C_re_mk, C_lo_mk, C_rs_mk, C_li_mk, C_he_mk, C_go_mk, C_br_mk, C_cu_mk, C_lc_mk, C_ac_mk, M_cd_mk, M_pt_mk, M_mn_mk, M_ev_mk, M_co_mk, M_al_mk, M_re_mk, M_lo_mk, M_rs_mk, M_li_mk, M_he_mk, M_go_mk, M_sp_mk, M_ba_mk, M_le_mk, M_lf_mk, M_mo_mk, M_un_mk, M_ch_mk, M_lc_mk, M_ac_mk, M_bd_mk, S_ba_mk, S_le_mk, S_ul_mk, S_mo_mk, S_un_mk, S_ch_mk]; exact ⟨by rw [h6], h7, h8⟩
      · simp only [C_me_mk, C_ra_mk, C_co_mk, C_al_mk, C_re_mk, C_lo_mk, C_rs_mk, C_li_mk, C_he_mk, C_go_mk, C_br_mk, C_cu_mk, C_lc_mk, C_ac_mk, M_cd_mk, M_pt_mk, M_mn_mk, M_ev_mk, M_co_mk, M_al_mk, M_re_mk, M_lo_mk, M_rs_mk, M_li_mk, M_he_mk, M_go_mk, M_sp_mk, M_ba_mk, M_le_mk, M_lf_mk, M_mo_mk, M_un_mk, M_ch_mk, M_lc_mk, M_ac_mk, M_bd_mk, S_ba_mk, S_le_mk, S_ul_mk, S_mo_mk, S_un_mk, S_ch_mk]; exact ⟨by rw [h17b], by rw [h10, h17b]⟩
      · simp only [C_me_mk, C_ra_mk, C_co_mk, C_al_mk, C_re_mk, C_lo_mk, C_rs_mk, C_li_mk, C_he_mk, C_go_mk, C_br_mk, C_cu_mk, C_lc_mk, C_ac_mk, M_cd_mk, M_pt_mk, M_mn_mk, M_ev_mk, M_co_mk, M_al_mk, M_re_mk, M_lo_mk, M_rs_mk, M_li_mk, M_he_mk, M_go_mk, M_sp_mk, M_ba_mk, M_le_mk, M_lf_mk, M_mo_mk, M_un_mk, M_ch_mk, M_lc_mk, M_ac_mk, M_bd_mk, S_ba_mk, S_le_mk, S_ul_mk, S_mo_mk, S_un_mk, S_ch_mk]; exact ⟨h11, h12, h13⟩
      · intro z; exact absurd z (by decide)
      · simp only [C_me_mk, C_ra_mk, C_co_mk, C_al_mk, C_re_mk, C_lo_mk, C_rs_mk, C_li_mk, C_he_mk, C_go_mk, C_br_mk, C_cu_mk, C_lc_mk, C_ac_mk, M_cd_mk, M_pt_mk, M_mn_mk, M_ev_mk, M_co_mk, M_al_mk, M_re_mk, M_lo_mk, M_rs_mk, M_li_mk, M_he_mk, M_go_mk, M_sp_mk, M_ba_mk, M_le_mk, M_lf_mk, M_mo_mk, M_un_mk, M_ch_mk, M_lc_mk, M_ac_mk, M_bd_mk, S_ba_mk, S_le_mk, S_ul_mk, S_mo_mk, S_un_mk, S_ch_mk]; exact ⟨h15, h16⟩
      · simp only [C_me_mk, C_ra_mk, C_co_mk, C_al_mk, C_re_mk, C_lo_mk, C_rs_mk, C_li_mk, C_he_mk, C_go_mk, C_br_mk, C_cu_mk, C_lc_mk, C_ac_mk, M_cd_mk, M_pt_mk, M_mn_mk, M_ev_mk, M_co_mk, M_al_mk, M_re_mk, M_lo_mk, M_rs_mk, M_li_mk, M_he_mk, M_go_mk, M_sp_mk, M_ba_mk, M_le_mk, M_lf_mk, M_mo_mk, M_un_mk, M_ch_mk, M_lc_mk, M_ac_mk, M_bd_mk, S_ba_mk, S_le_mk, S_ul_mk, S_mo_mk, S_un_mk, S_ch_mk]; exact fun _ => ⟨emo6 h17a, by trivial⟩
      · intro z; exact absurd z (by decide)
      · rw [M_co_mk]; omega
      · rw [M_al_mk, M_co_mk, ea]; omega
      · rw [M_rs_mk]; omega
      · rw [M_li_mk, eli]; omega
      · rw [M_sp_mk]; omega
      · rw [M_ba_mk]; omega
      · rw [M_ch_mk, M_ba_mk, M_al_mk, M_co_mk, ea]; intro _; omega
      · rw [M_mo_mk, M_li_mk, M_le_mk, eli, emo]; omega
      · rw [M_un_mk]; omega
      · rw [M_lf_mk]; omega
    · subst e
      obtain ⟨d1, d2, d3⟩ := dc_eq (t := t) hs0.1 nc0 hj hT hra g3
      rw [wo_1 g1 g2 g3 hM, cm_1 (by rw [h7]; exact g1) (by rw [h8]; exact g2) (by rw [h6]; exact g3) h12, d1]
      generalize (m_X5_declining (M_mk (M_cd m) (M_pt m) (M_mn m) (M_ev m) (M_co m) (M_al m) (M_re m) (M_lo m) (M_rs m) (M_li m - 1) (M_he m) (M_go m) (M_sp m) (M_ba m) (M_le m) (M_lf m) (M_mo m + 1) (M_un m) (M_ch m) 0 (M_ac m) (M_bd m)) T p (M_li m - 1 + 1)) = d at *
      have ea : (M_al m + d).toInt = (M_al m).toInt + d.toInt := i64_add (by omega) (by omega)
      refine ⟨⟨⟨?_, ?_, ?_, ?_, ?_⟩, ?_, ?_, ?_⟩, ⟨?_, ?_, ?_, ?_, ?_⟩, ⟨?_, ?_, ?_, ?_, ?_⟩⟩
      · simp only [C_me_mk, C_ra_mk, C_co_mk, C_al_mk, C_re_mk, C_lo_mk, C_rs_mk, C_li_mk, C_he_mk, C_go_mk, C_br_mk, C_cu_mk, C_lc_mk, C_ac_mk, M_cd_mk, M_pt_mk, M_mn_mk, M_ev_mk, M_co_mk, M_al_mk, M_re_mk, M_lo_mk, M_rs_mk, M_li_mk, M_he_mk, M_go_mk, M_sp_mk, M_ba_mk, M_le_mk, M_lf_mk, M_mo_mk, M_un_mk, M_ch_mk, M_lc_mk, M_ac_mk, M_bd_mk, S_ba_mk, S_le_mk, S_ul_mk, S_mo_mk, S_un_mk, S_ch_mk]; exact ⟨h1, by rw [h2], h3, h4, h5⟩
      · simp only [C_me_mk, C_ra_mk, C_co_mk, C_al_mk, C_re_mk, C_lo_mk, C_rs_mk, C_li_mk, C_he_mk, C_go_mk, C_br_mk, C_cu_mk, C_lc_mk, C_ac_mk, M_cd_mk, M_pt_mk, M_mn_mk, M_ev_mk, M_co_mk, M_al_mk, M_re_mk, M_lo_mk, M_rs_mk, M_li_mk, M_he_mk, M_go_mk, M_sp_mk, M_ba_mk, M_le_mk, M_lf_mk, M_mo_mk, M_un_mk, M_ch_mk, M_lc_mk, M_ac_mk, M_bd_mk, S_ba_mk, S_le_mk, S_ul_mk, S_mo_mk, S_un_mk, S_ch_mk]; exact ⟨by rw [h6], h7, h8⟩
      · simp only [C_me_mk, C_ra_mk, C_co_mk, C_al_mk, C_re_mk, C_lo_mk, C_rs_mk, C_li_mk, C_he_mk, C_go_mk, C_br_mk, C_cu_mk, C_lc_mk, C_ac_mk, M_cd_mk, M_pt_mk, M_mn_mk, M_ev_mk, M_co_mk, M_al_mk, M_re_mk, M_lo_mk, M_rs_mk, M_li_mk, M_he_mk, M_go_mk, M_sp_mk, M_ba_mk, M_le_mk, M_lf_mk, M_mo_mk, M_un_mk, M_ch_mk, M_lc_mk, M_ac_mk, M_bd_mk, S_ba_mk, S_le_mk, S_ul_mk, S_mo_mk, S_un_mk, S_ch_mk]; exact ⟨by trivial, by rw [h10]⟩
      · simp only [C_me_mk, C_ra_mk, C_co_mk, C_al_mk, C_re_mk, C_lo_mk, C_rs_mk, C_li_mk, C_he_mk, C_go_mk, C_br_mk, C_cu_mk, C_lc_mk, C_ac_mk, M_cd_mk, M_pt_mk, M_mn_mk, M_ev_mk, M_co_mk, M_al_mk, M_re_mk, M_lo_mk, M_rs_mk, M_li_mk, M_he_mk, M_go_mk, M_sp_mk, M_ba_mk, M_le_mk, M_lf_mk, M_mo_mk, M_un_mk, M_ch_mk, M_lc_mk, M_ac_mk, M_bd_mk, S_ba_mk, S_le_mk, S_ul_mk, S_mo_mk, S_un_mk, S_ch_mk]; exact ⟨h11, h12, h13⟩
      · intro z; exact absurd z (by decide)
      · simp only [C_me_mk, C_ra_mk, C_co_mk, C_al_mk, C_re_mk, C_lo_mk, C_rs_mk, C_li_mk, C_he_mk, C_go_mk, C_br_mk, C_cu_mk, C_lc_mk, C_ac_mk, M_cd_mk, M_pt_mk, M_mn_mk, M_ev_mk, M_co_mk, M_al_mk, M_re_mk, M_lo_mk, M_rs_mk, M_li_mk, M_he_mk, M_go_mk, M_sp_mk, M_ba_mk, M_le_mk, M_lf_mk, M_mo_mk, M_un_mk, M_ch_mk, M_lc_mk, M_ac_mk, M_bd_mk, S_ba_mk, S_le_mk, S_ul_mk, S_mo_mk, S_un_mk, S_ch_mk]; exact ⟨h15, h16⟩
      · intro z; exact absurd rfl z
      · intro z; exact absurd z (by decide)
      · rw [M_co_mk]; omega
      · rw [M_al_mk, M_co_mk, ea]; omega
      · rw [M_rs_mk]; omega
      · rw [M_li_mk, eli]; omega
      · rw [M_sp_mk]; omega
      · rw [M_ba_mk]; omega
      · intro z; exact absurd rfl z
      · rw [M_mo_mk, M_li_mk, M_le_mk, eli, emo]; omega
      · rw [M_un_mk]; omega
      · rw [M_lf_mk]; omega
    · subst e
      have hn1 : ¬ (2 : Int32) = 1 := by decide
      obtain ⟨h17a, h17b⟩ := h17 hn1
      obtain ⟨s3a, s3b, s3c, s3d⟩ := s3 hn1
      obtain ⟨d1, d2, d3⟩ := tg_02 (T := T) (p := p) (us := us) hs0 ns0 hM (by decide) hl
      rw [wo_02 g1 g2 g3 (by rw [hM]; decide) (by rw [hM]; decide), cm_n (me := 2) (by rw [h7]; exact g1) (by rw [h8]; exact g2) (by rw [h6]; exact g3) (by rw [h12]; exact hn1) h12, d1]
      generalize (m_X5_together (M_mk (M_cd m) (M_pt m) (M_mn m) (M_ev m) (M_co m) (M_al m) (M_re m) (M_lo m) (M_rs m) (M_li m - 1) (M_he m) (M_go m) (M_sp m) (M_ba m) (M_le m) (M_lf m) (M_mo m + 1) (M_un m) (M_ch m) 0 (M_ac m) (M_bd m)) T p) = d at *
      have ed : (d - M_ch m).toInt = d.toInt - (M_ch m).toInt := i64_sub (by omega) (by omega)
      have ea : (M_al m + (d - M_ch m)).toInt = (M_al m).toInt + (d.toInt - (M_ch m).toInt) := by rw [i64_add, ed] <;> rw [ed] <;> omega
      refine ⟨⟨⟨?_, ?_, ?_, ?_, ?_⟩, ?_, ?_, ?_⟩, ⟨?_, ?_, ?_, ?_, ?_⟩, ⟨?_, ?_, ?_, ?_, ?_⟩⟩
      · simp only [C_me_mk, C_ra_mk, C_co_mk, C_al_mk, C_re_mk, C_lo_mk, C_rs_mk, C_li_mk, C_he_mk, C_go_mk, C_br_mk, C_cu_mk, C_lc_mk, C_ac_mk, M_cd_mk, M_pt_mk, M_mn_mk, M_ev_mk, M_co_mk, M_al_mk, M_re_mk, M_lo_mk, M_rs_mk, M_li_mk, M_he_mk, M_go_mk, M_sp_mk, M_ba_mk, M_le_mk, M_lf_mk, M_mo_mk, M_un_mk, M_ch_mk, M_lc_mk, M_ac_mk, M_bd_mk, S_ba_mk, S_le_mk, S_ul_mk, S_mo_mk, S_un_mk, S_ch_mk]; exact ⟨h1, by rw [h2, h17b], h3, h4, h5⟩
      · simp only [C_me_mk, C_ra_mk, C_co_mk, C_al_mk, C_re_mk, C_lo_mk, C_rs_mk, C_li_mk, C_he_mk, C_go_mk, C_br_mk, C_cu_mk, C_lc_mk, C_ac_mk, M_cd_mk, M_pt_mk, M_mn_mk, M_ev_mk, M_co_mk, M_al_mk, M_re_mk, M_lo_mk, M_rs_mk, M_li_mk, M_he_mk, M_go_mk, M_sp_mk, M_ba_mk, M_le_mk, M_lf_mk, M_mo_mk, M_un_mk, M_ch_mk, M_lc_mk, M_ac_mk, M_bd_mk, S_ba_mk, S_le_mk, S_ul_mk, S_mo_mk, S_un_mk, S_ch_mk]; exact ⟨by rw [h6], h7, h8⟩
      · simp only [C_me_mk, C_ra_mk, C_co_mk, C_al_mk, C_re_mk, C_lo_mk, C_rs_mk, C_li_mk, C_he_mk, C_go_mk, C_br_mk, C_cu_mk, C_lc_mk, C_ac_mk, M_cd_mk, M_pt_mk, M_mn_mk, M_ev_mk, M_co_mk, M_al_mk, M_re_mk, M_lo_mk, M_rs_mk, M_li_mk, M_he_mk, M_go_mk, M_sp_mk, M_ba_mk, M_le_mk, M_lf_mk, M_mo_mk, M_un_mk, M_ch_mk, M_lc_mk, M_ac_mk, M_bd_mk, S_ba_mk, S_le_mk, S_ul_mk, S_mo_mk, S_un_mk, S_ch_mk]; exact ⟨by rw [h17b], by rw [h10, h17b]⟩
      · simp only [C_me_mk, C_ra_mk, C_co_mk, C_al_mk, C_re_mk, C_lo_mk, C_rs_mk, C_li_mk, C_he_mk, C_go_mk, C_br_mk, C_cu_mk, C_lc_mk, C_ac_mk, M_cd_mk, M_pt_mk, M_mn_mk, M_ev_mk, M_co_mk, M_al_mk, M_re_mk, M_lo_mk, M_rs_mk, M_li_mk, M_he_mk, M_go_mk, M_sp_mk, M_ba_mk, M_le_mk, M_lf_mk, M_mo_mk, M_un_mk, M_ch_mk, M_lc_mk, M_ac_mk, M_bd_mk, S_ba_mk, S_le_mk, S_ul_mk, S_mo_mk, S_un_mk, S_ch_mk]; exact ⟨h11, h12, h13⟩
      · intro z; exact absurd z (by decide)
      · simp only [C_me_mk, C_ra_mk, C_co_mk, C_al_mk, C_re_mk, C_lo_mk, C_rs_mk, C_li_mk, C_he_mk, C_go_mk, C_br_mk, C_cu_mk, C_lc_mk, C_ac_mk, M_cd_mk, M_pt_mk, M_mn_mk, M_ev_mk, M_co_mk, M_al_mk, M_re_mk, M_lo_mk, M_rs_mk, M_li_mk, M_he_mk, M_go_mk, M_sp_mk, M_ba_mk, M_le_mk, M_lf_mk, M_mo_mk, M_un_mk, M_ch_mk, M_lc_mk, M_ac_mk, M_bd_mk, S_ba_mk, S_le_mk, S_ul_mk, S_mo_mk, S_un_mk, S_ch_mk]; exact ⟨h15, h16⟩
      · simp only [C_me_mk, C_ra_mk, C_co_mk, C_al_mk, C_re_mk, C_lo_mk, C_rs_mk, C_li_mk, C_he_mk, C_go_mk, C_br_mk, C_cu_mk, C_lc_mk, C_ac_mk, M_cd_mk, M_pt_mk, M_mn_mk, M_ev_mk, M_co_mk, M_al_mk, M_re_mk, M_lo_mk, M_rs_mk, M_li_mk, M_he_mk, M_go_mk, M_sp_mk, M_ba_mk, M_le_mk, M_lf_mk, M_mo_mk, M_un_mk, M_ch_mk, M_lc_mk, M_ac_mk, M_bd_mk, S_ba_mk, S_le_mk, S_ul_mk, S_mo_mk, S_un_mk, S_ch_mk]; exact fun _ => ⟨emo6 h17a, by trivial⟩
      · intro z; exact absurd z (by decide)
      · rw [M_co_mk]; omega
      · rw [M_al_mk, M_co_mk, ea]; omega
      · rw [M_rs_mk]; omega
      · rw [M_li_mk, eli]; omega
      · rw [M_sp_mk]; omega
      · rw [M_ba_mk]; omega
      · rw [M_ch_mk, M_ba_mk, M_al_mk, M_co_mk, ea]; intro _; omega
      · rw [M_mo_mk, M_li_mk, M_le_mk, eli, emo]; omega
      · rw [M_un_mk]; omega
      · rw [M_lf_mk]; omega
    · subst e
      have hn1 : ¬ (3 : Int32) = 1 := by decide
      obtain ⟨h17a, h17b⟩ := h17 hn1
      obtain ⟨h18a, h18b⟩ := h18 rfl
      have h14a := h14 rfl
      obtain ⟨s3a, s3b, s3c, s3d⟩ := s3 hn1
      obtain ⟨d1, d2, d3⟩ := tg_3 (T := T) (p := p) (us := us) hs0 ns0 hM (by omega) hus
      rw [wo_3 g1 g2 g3 hM, hut, cm_n (me := 3) (by rw [h7]; exact g1) (by rw [h8]; exact g2) (by rw [h6]; exact g3) (by rw [h12]; exact hn1) h12, d1]
      generalize (m_X5_together (M_mk (M_cd m) (M_pt m) (M_mn m) (M_ev m) (M_co m) (M_al m) (M_re m) (M_lo m) (M_rs m) (M_li m - 1) (M_he m) (M_go m) (M_sp m + us) (M_ba m) (M_le m) (M_lf m) (M_mo m + 1) (M_un m + us) (M_ch m) 0 (M_ac m) (M_bd m)) T p) = d at *
      have ed : (d - M_ch m).toInt = d.toInt - (M_ch m).toInt := i64_sub (by omega) (by omega)
      have ea : (M_al m + (d - M_ch m)).toInt = (M_al m).toInt + (d.toInt - (M_ch m).toInt) := by rw [i64_add, ed] <;> rw [ed] <;> omega
      refine ⟨⟨⟨?_, ?_, ?_, ?_, ?_⟩, ?_, ?_, ?_⟩, ⟨?_, ?_, ?_, ?_, ?_⟩, ⟨?_, ?_, ?_, ?_, ?_⟩⟩
      · simp only [C_me_mk, C_ra_mk, C_co_mk, C_al_mk, C_re_mk, C_lo_mk, C_rs_mk, C_li_mk, C_he_mk, C_go_mk, C_br_mk, C_cu_mk, C_lc_mk, C_ac_mk, M_cd_mk, M_pt_mk, M_mn_mk, M_ev_mk, M_co_mk, M_al_mk, M_re_mk, M_lo_mk, M_rs_mk, M_li_mk, M_he_mk, M_go_mk, M_sp_mk, M_ba_mk, M_le_mk, M_lf_mk, M_mo_mk, M_un_mk, M_ch_mk, M_lc_mk, M_ac_mk, M_bd_mk, S_ba_mk, S_le_mk, S_ul_mk, S_mo_mk, S_un_mk, S_ch_mk]; exact ⟨h1, by rw [h2, h17b], h3, h4, h5⟩
      · simp only [C_me_mk, C_ra_mk, C_co_mk, C_al_mk, C_re_mk, C_lo_mk, C_rs_mk, C_li_mk, C_he_mk, C_go_mk, C_br_mk, C_cu_mk, C_lc_mk, C_ac_mk, M_cd_mk, M_pt_mk, M_mn_mk, M_ev_mk, M_co_mk, M_al_mk, M_re_mk, M_lo_mk, M_rs_mk, M_li_mk, M_he_mk, M_go_mk, M_sp_mk, M_ba_mk, M_le_mk, M_lf_mk, M_mo_mk, M_un_mk, M_ch_mk, M_lc_mk, M_ac_mk, M_bd_mk, S_ba_mk, S_le_mk, S_ul_mk, S_mo_mk, S_un_mk, S_ch_mk]; exact ⟨by rw [h6], h7, h8⟩
      · simp only [C_me_mk, C_ra_mk, C_co_mk, C_al_mk, C_re_mk, C_lo_mk, C_rs_mk, C_li_mk, C_he_mk, C_go_mk, C_br_mk, C_cu_mk, C_lc_mk, C_ac_mk, M_cd_mk, M_pt_mk, M_mn_mk, M_ev_mk, M_co_mk, M_al_mk, M_re_mk, M_lo_mk, M_rs_mk, M_li_mk, M_he_mk, M_go_mk, M_sp_mk, M_ba_mk, M_le_mk, M_lf_mk, M_mo_mk, M_un_mk, M_ch_mk, M_lc_mk, M_ac_mk, M_bd_mk, S_ba_mk, S_le_mk, S_ul_mk, S_mo_mk, S_un_mk, S_ch_mk]; exact ⟨by rw [h17b], by rw [h10, h17b]⟩
      · simp only [C_me_mk, C_ra_mk, C_co_mk, C_al_mk, C_re_mk, C_lo_mk, C_rs_mk, C_li_mk, C_he_mk, C_go_mk, C_br_mk, C_cu_mk, C_lc_mk, C_ac_mk, M_cd_mk, M_pt_mk, M_mn_mk, M_ev_mk, M_co_mk, M_al_mk, M_re_mk, M_lo_mk, M_rs_mk, M_li_mk, M_he_mk, M_go_mk, M_sp_mk, M_ba_mk, M_le_mk, M_lf_mk, M_mo_mk, M_un_mk, M_ch_mk, M_lc_mk, M_ac_mk, M_bd_mk, S_ba_mk, S_le_mk, S_ul_mk, S_mo_mk, S_un_mk, S_ch_mk]; exact ⟨h11, h12, h13⟩
      · simp only [C_me_mk, C_ra_mk, C_co_mk, C_al_mk, C_re_mk, C_lo_mk, C_rs_mk, C_li_mk, C_he_mk, C_go_mk, C_br_mk, C_cu_mk, C_lc_mk, C_ac_mk, M_cd_mk, M_pt_mk, M_mn_mk, M_ev_mk, M_co_mk, M_al_mk, M_re_mk, M_lo_mk, M_rs_mk, M_li_mk, M_he_mk, M_go_mk, M_sp_mk, M_ba_mk, M_le_mk, M_lf_mk, M_mo_mk, M_un_mk, M_ch_mk, M_lc_mk, M_ac_mk, M_bd_mk, S_ba_mk, S_le_mk, S_ul_mk, S_mo_mk, S_un_mk, S_ch_mk]; intro _; rw [h14a, l_add (by omega) (by omega)]
      · simp only [C_me_mk, C_ra_mk, C_co_mk, C_al_mk, C_re_mk, C_lo_mk, C_rs_mk, C_li_mk, C_he_mk, C_go_mk, C_br_mk, C_cu_mk, C_lc_mk, C_ac_mk, M_cd_mk, M_pt_mk, M_mn_mk, M_ev_mk, M_co_mk, M_al_mk, M_re_mk, M_lo_mk, M_rs_mk, M_li_mk, M_he_mk, M_go_mk, M_sp_mk, M_ba_mk, M_le_mk, M_lf_mk, M_mo_mk, M_un_mk, M_ch_mk, M_lc_mk, M_ac_mk, M_bd_mk, S_ba_mk, S_le_mk, S_ul_mk, S_mo_mk, S_un_mk, S_ch_mk]; exact ⟨h15, h16⟩
      · simp only [C_me_mk, C_ra_mk, C_co_mk, C_al_mk, C_re_mk, C_lo_mk, C_rs_mk, C_li_mk, C_he_mk, C_go_mk, C_br_mk, C_cu_mk, C_lc_mk, C_ac_mk, M_cd_mk, M_pt_mk, M_mn_mk, M_ev_mk, M_co_mk, M_al_mk, M_re_mk, M_lo_mk, M_rs_mk, M_li_mk, M_he_mk, M_go_mk, M_sp_mk, M_ba_mk, M_le_mk, M_lf_mk, M_mo_mk, M_un_mk, M_ch_mk, M_lc_mk, M_ac_mk, M_bd_mk, S_ba_mk, S_le_mk, S_ul_mk, S_mo_mk, S_un_mk, S_ch_mk]; exact fun _ => ⟨emo6 h17a, by trivial⟩
      · simp only [C_me_mk, C_ra_mk, C_co_mk, C_al_mk, C_re_mk, C_lo_mk, C_rs_mk, C_li_mk, C_he_mk, C_go_mk, C_br_mk, C_cu_mk, C_lc_mk, C_ac_mk, M_cd_mk, M_pt_mk, M_mn_mk, M_ev_mk, M_co_mk, M_al_mk, M_re_mk, M_lo_mk, M_rs_mk, M_li_mk, M_he_mk, M_go_mk, M_sp_mk, M_ba_mk, M_le_mk, M_lf_mk, M_mo_mk, M_un_mk, M_ch_mk, M_lc_mk, M_ac_mk, M_bd_mk, S_ba_mk, S_le_mk, S_ul_mk, S_mo_mk, S_un_mk, S_ch_mk]; exact fun _ => ⟨h18a, by rw [h18b, l_add (by omega) (by omega)]⟩
      · rw [M_co_mk]; omega
      · rw [M_al_mk, M_co_mk, ea]; omega
      · rw [M_rs_mk]; omega
      · rw [M_li_mk, eli]; omega
      · rw [M_sp_mk, esp]; omega
      · rw [M_ba_mk]; omega
      · rw [M_ch_mk, M_ba_mk, M_al_mk, M_co_mk, ea]; intro _; omega
      · rw [M_mo_mk, M_li_mk, M_le_mk, eli, emo]; omega
      · rw [M_un_mk, eun]; omega
      · rw [M_lf_mk]; omega

/-! the component's course and the reference's state: how they go together -/
def RC (me ra : Int32) (c : CR) (m : MR) : Prop := (C_co c = M_co m ∧ C_al c = M_al m ∧ C_re c = M_re m ∧ C_lo c = M_lo m ∧ C_rs c = M_rs m) ∧ (C_li c = M_li m ∧ C_he c = M_he m ∧ C_go c = M_go m) ∧ (C_lc c = M_lc m ∧ C_ac c = M_ac m) ∧ (C_br c = 0 ∧ C_me c = me ∧ C_ra c = ra) ∧ (me = 3 → C_cu c = Int32.toInt64 (M_sp m))
def RS (me ra : Int32) (c : CR) (t : SR) (m : MR) : Prop := RC me ra c m ∧ (S_ba t = M_ba m ∧ S_le t = Int32.toInt64 (M_le m)) ∧ (¬ me = 1 → S_mo t = Int32.toInt64 (M_mo m) ∧ S_ch t = M_ch m) ∧ (me = 3 → S_ul t = Int32.toInt64 (M_lf m) ∧ S_un t = Int32.toInt64 (M_un m))
/-- the numbers' bounds: the core, and the stretch -/
def NC (jc ju : Int) (m : MR) : Prop := (0 ≤ (M_co m).toInt ∧ (M_co m).toInt ≤ 1000000000 * (jc + 1)) ∧ (0 ≤ (M_al m).toInt ∧ (M_al m).toInt ≤ (M_co m).toInt) ∧ (0 ≤ (M_rs m).toInt ∧ (M_rs m).toInt ≤ 1000000000) ∧ (0 ≤ (M_li m).toInt ∧ (M_li m).toInt ≤ 36) ∧ (0 ≤ (M_sp m).toInt ∧ (M_sp m).toInt ≤ 1000000 * ju)
def NS (me : Int32) (ju : Int) (m : MR) : Prop := (0 ≤ (M_ba m).toInt ∧ (M_ba m).toInt ≤ 37000000000) ∧ (¬ me = 1 → 0 ≤ (M_ch m).toInt ∧ (M_ch m).toInt ≤ (M_ba m).toInt ∧ (M_ch m).toInt ≤ (M_al m).toInt ∧ (M_al m).toInt - (M_ch m).toInt + (M_ba m).toInt ≤ (M_co m).toInt) ∧ (0 ≤ (M_mo m).toInt ∧ (M_li m).toInt + (M_mo m).toInt = (M_le m).toInt ∧ (M_le m).toInt ≤ 36) ∧ (0 ≤ (M_un m).toInt ∧ (M_un m).toInt ≤ 1000000 * ju) ∧ (0 ≤ (M_lf m).toInt ∧ (M_lf m).toInt ≤ 1000000)
theorem jmax_d {a b : Int64} (h1 : -4000000000000000000 ≤ a.toInt) (h2 : a.toInt ≤ 4000000000000000000) (h3 : -4000000000000000000 ≤ b.toInt) (h4 : b.toInt ≤ 4000000000000000000) : jmax 0 (a - b) = if a ≤ b then 0 else a - b := by
  have e : (a - b).toInt = a.toInt - b.toInt := i64_sub (by omega) (by omega)
  unfold jmax
  by_cases h : a ≤ b
  · rw [if_pos h]
    rw [Int64.le_iff_toInt_le] at h
    by_cases g : a - b < 0
    · rw [if_pos g]
    · rw [if_neg g]
      rw [Int64.lt_iff_toInt_lt, e, i64_0] at g
      exact i64_eq (by rw [e, i64_0]; omega)
  · rw [if_neg h]
    rw [Int64.le_iff_toInt_le] at h
    rw [if_neg (by rw [Int64.lt_iff_toInt_lt, e, i64_0]; omega)]
theorem jmax_u {a b : Int32} (h1 : 0 ≤ a.toInt) (h2 : a.toInt ≤ 1000000) (h3 : 0 ≤ b.toInt) (h4 : b.toInt ≤ 100000000) : jmax 0 (Int32.toInt64 a - Int32.toInt64 b) = Int32.toInt64 (if a ≤ b then 0 else a - b) := by
  rw [jmax_d (by rw [Int32.toInt_toInt64]; omega) (by rw [Int32.toInt_toInt64]; omega) (by rw [Int32.toInt_toInt64]; omega) (by rw [Int32.toInt_toInt64]; omega)]
  by_cases h : a ≤ b
  · rw [if_pos h, if_pos (by rw [Int64.le_iff_toInt_le, Int32.toInt_toInt64, Int32.toInt_toInt64, ← Int32.le_iff_toInt_le]; exact h), l_0]
  · rw [if_neg h, if_neg (by rw [Int64.le_iff_toInt_le, Int32.toInt_toInt64, Int32.toInt_toInt64, ← Int32.le_iff_toInt_le]; exact h), l_sub (by omega) (by omega)]
theorem str_mk (m : MR) (T : TR) (p : Int32) : m_X5_stretch m T p = (M_mk (M_cd m) (M_pt m) (M_mn m) (M_ev m) (M_co m) (M_al m) (M_re m) (M_lo m) (M_rs m) (M_li m) (M_he m) (M_go m) (M_sp m) (if (m_X5_book m T) ≤ (M_rs m) then 0 else (m_X5_book m T) - (M_rs m)) (M_li m) (if (T_ra T (Int32.toNatClampNeg p)) ≤ (M_sp m) then 0 else (T_ra T (Int32.toNatClampNeg p)) - (M_sp m)) 0 0 0 (M_lc m) (M_ac m) (M_bd m)) := by
  unfold m_X5_stretch
  by_cases h1 : (m_X5_book m T) ≤ (M_rs m)
  · by_cases h2 : (T_ra T (Int32.toNatClampNeg p)) ≤ (M_sp m)
    · simp only [h1, h2, ↓reduceIte]
    · simp only [h1, h2, ↓reduceIte]
  · by_cases h2 : (T_ra T (Int32.toNatClampNeg p)) ≤ (M_sp m)
    · simp only [h1, h2, ↓reduceIte]
    · simp only [h1, h2, ↓reduceIte]
theorem bk_int {jc ju : Int} {m : MR} (n : NC jc ju m) (hj : jc ≤ 40) : (M_co m - M_al m).toInt = (M_co m).toInt - (M_al m).toInt := i64_sub (by have := n.1; have := n.2.1; omega) (by have := n.1; have := n.2.1; omega)
set_option maxHeartbeats 2000000 in
/-- a stretch begins on both sides -/
theorem st_step {me ra : Int32} {c : CR} {t : SR} {m : MR} {T : TR} {p : Int32} {jc ju : Int} (h : RC me ra c m) (n : NC jc ju m) (hj : jc ≤ 36) (hu0 : ju ≤ 36) (hT : T_ra T (Int32.toNatClampNeg p) = ra) (hra : 0 ≤ ra.toInt ∧ ra.toInt ≤ 1000000) : RS me ra c (m_X0_beginStretch c t) (m_X5_stretch m T p) ∧ NC jc ju (m_X5_stretch m T p) ∧ NS me ju (m_X5_stretch m T p) := by
  have hb := bk_int n (by omega)
  obtain ⟨⟨h1, h2, h3, h4, h5⟩, ⟨h6, h7, h8⟩, ⟨h9, h10⟩, ⟨h11, h12, h13⟩, h14⟩ := h
  obtain ⟨⟨n1, n2⟩, ⟨n3, n4⟩, ⟨n5, n6⟩, ⟨n7, n8⟩, ⟨n9, n10⟩⟩ := n
  have eb : m_X5_book m T = M_co m - M_al m := rfl
  have ec : m_X0_book c t = M_co m - M_al m := by unfold m_X0_book; rw [h1, h2]
  have eB : jmax 0 ((m_X0_book c t) - (C_rs c)) = (if (m_X5_book m T) ≤ (M_rs m) then 0 else (m_X5_book m T) - (M_rs m)) := by
    rw [ec, h5, eb]
    exact jmax_d (by omega) (by omega) (by omega) (by omega)
  have nB : 0 ≤ ((if (m_X5_book m T) ≤ (M_rs m) then 0 else (m_X5_book m T) - (M_rs m)) : Int64).toInt ∧ ((if (m_X5_book m T) ≤ (M_rs m) then 0 else (m_X5_book m T) - (M_rs m)) : Int64).toInt ≤ (M_co m).toInt - (M_al m).toInt := by
    rw [eb]
    by_cases g : (M_co m - M_al m) ≤ M_rs m
    · rw [if_pos g, i64_0]
      omega
    · rw [if_neg g]
      rw [Int64.le_iff_toInt_le, hb] at g
      rw [i64_sub, hb] <;> (try rw [hb]) <;> omega
  have nL : 0 ≤ ((if (T_ra T (Int32.toNatClampNeg p)) ≤ (M_sp m) then 0 else (T_ra T (Int32.toNatClampNeg p)) - (M_sp m)) : Int32).toInt ∧ ((if (T_ra T (Int32.toNatClampNeg p)) ≤ (M_sp m) then 0 else (T_ra T (Int32.toNatClampNeg p)) - (M_sp m)) : Int32).toInt ≤ 1000000 := by
    rw [hT]
    by_cases g : ra ≤ (M_sp m)
    · rw [if_pos g, i32_0]; omega
    · rw [if_neg g]
      rw [Int32.le_iff_toInt_le] at g
      rw [i32_sub] <;> omega
  rw [str_mk]
  unfold m_X0_beginStretch m_X3_begin
  rw [eB]
  generalize (if (m_X5_book m T) ≤ (M_rs m) then 0 else (m_X5_book m T) - (M_rs m) : Int64) = B at *
  refine ⟨⟨⟨?_, ?_, ?_, ?_, ?_⟩, ?_, ?_, ?_⟩, ⟨?_, ?_, ?_, ?_, ?_⟩, ?_, ?_, ?_, ?_, ?_⟩
  · simp only [M_cd_mk, M_pt_mk, M_mn_mk, M_ev_mk, M_co_mk, M_al_mk, M_re_mk, M_lo_mk, M_rs_mk, M_li_mk, M_he_mk, M_go_mk, M_sp_mk, M_ba_mk, M_le_mk, M_lf_mk, M_mo_mk, M_un_mk, M_ch_mk, M_lc_mk, M_ac_mk, M_bd_mk]; exact ⟨h1, h2, h3, h4, h5⟩
  · simp only [M_cd_mk, M_pt_mk, M_mn_mk, M_ev_mk, M_co_mk, M_al_mk, M_re_mk, M_lo_mk, M_rs_mk, M_li_mk, M_he_mk, M_go_mk, M_sp_mk, M_ba_mk, M_le_mk, M_lf_mk, M_mo_mk, M_un_mk, M_ch_mk, M_lc_mk, M_ac_mk, M_bd_mk]; exact ⟨h6, h7, h8⟩
  · simp only [M_cd_mk, M_pt_mk, M_mn_mk, M_ev_mk, M_co_mk, M_al_mk, M_re_mk, M_lo_mk, M_rs_mk, M_li_mk, M_he_mk, M_go_mk, M_sp_mk, M_ba_mk, M_le_mk, M_lf_mk, M_mo_mk, M_un_mk, M_ch_mk, M_lc_mk, M_ac_mk, M_bd_mk]; exact ⟨h9, h10⟩
  · exact ⟨h11, h12, h13⟩
  · simp only [M_cd_mk, M_pt_mk, M_mn_mk, M_ev_mk, M_co_mk, M_al_mk, M_re_mk, M_lo_mk, M_rs_mk, M_li_mk, M_he_mk, M_go_mk, M_sp_mk, M_ba_mk, M_le_mk, M_lf_mk, M_mo_mk, M_un_mk, M_ch_mk, M_lc_mk, M_ac_mk, M_bd_mk]; exact h14
  · simp only [M_cd_mk, M_pt_mk, M_mn_mk, M_ev_mk, M_co_mk, M_al_mk, M_re_mk, M_lo_mk, M_rs_mk, M_li_mk, M_he_mk, M_go_mk, M_sp_mk, M_ba_mk, M_le_mk, M_lf_mk, M_mo_mk, M_un_mk, M_ch_mk, M_lc_mk, M_ac_mk, M_bd_mk, S_ba_mk, S_le_mk, S_ul_mk, S_mo_mk, S_un_mk, S_ch_mk]; rw [h6]; exact ⟨by trivial, by trivial⟩
  · simp only [M_cd_mk, M_pt_mk, M_mn_mk, M_ev_mk, M_co_mk, M_al_mk, M_re_mk, M_lo_mk, M_rs_mk, M_li_mk, M_he_mk, M_go_mk, M_sp_mk, M_ba_mk, M_le_mk, M_lf_mk, M_mo_mk, M_un_mk, M_ch_mk, M_lc_mk, M_ac_mk, M_bd_mk, S_ba_mk, S_le_mk, S_ul_mk, S_mo_mk, S_un_mk, S_ch_mk]; exact fun _ => ⟨l_0.symm, by trivial⟩
  · simp only [M_cd_mk, M_pt_mk, M_mn_mk, M_ev_mk, M_co_mk, M_al_mk, M_re_mk, M_lo_mk, M_rs_mk, M_li_mk, M_he_mk, M_go_mk, M_sp_mk, M_ba_mk, M_le_mk, M_lf_mk, M_mo_mk, M_un_mk, M_ch_mk, M_lc_mk, M_ac_mk, M_bd_mk, S_ba_mk, S_le_mk, S_ul_mk, S_mo_mk, S_un_mk, S_ch_mk]
    intro g
    rw [h13, h14 g, hT]
    exact ⟨jmax_u hra.1 hra.2 n9 (by omega), l_0.symm⟩
  · simp only [M_cd_mk, M_pt_mk, M_mn_mk, M_ev_mk, M_co_mk, M_al_mk, M_re_mk, M_lo_mk, M_rs_mk, M_li_mk, M_he_mk, M_go_mk, M_sp_mk, M_ba_mk, M_le_mk, M_lf_mk, M_mo_mk, M_un_mk, M_ch_mk, M_lc_mk, M_ac_mk, M_bd_mk]; exact ⟨n1, n2⟩
  · simp only [M_cd_mk, M_pt_mk, M_mn_mk, M_ev_mk, M_co_mk, M_al_mk, M_re_mk, M_lo_mk, M_rs_mk, M_li_mk, M_he_mk, M_go_mk, M_sp_mk, M_ba_mk, M_le_mk, M_lf_mk, M_mo_mk, M_un_mk, M_ch_mk, M_lc_mk, M_ac_mk, M_bd_mk]; exact ⟨n3, n4⟩
  · simp only [M_cd_mk, M_pt_mk, M_mn_mk, M_ev_mk, M_co_mk, M_al_mk, M_re_mk, M_lo_mk, M_rs_mk, M_li_mk, M_he_mk, M_go_mk, M_sp_mk, M_ba_mk, M_le_mk, M_lf_mk, M_mo_mk, M_un_mk, M_ch_mk, M_lc_mk, M_ac_mk, M_bd_mk]; exact ⟨n5, n6⟩
  · simp only [M_cd_mk, M_pt_mk, M_mn_mk, M_ev_mk, M_co_mk, M_al_mk, M_re_mk, M_lo_mk, M_rs_mk, M_li_mk, M_he_mk, M_go_mk, M_sp_mk, M_ba_mk, M_le_mk, M_lf_mk, M_mo_mk, M_un_mk, M_ch_mk, M_lc_mk, M_ac_mk, M_bd_mk]; exact ⟨n7, n8⟩
  · simp only [M_cd_mk, M_pt_mk, M_mn_mk, M_ev_mk, M_co_mk, M_al_mk, M_re_mk, M_lo_mk, M_rs_mk, M_li_mk, M_he_mk, M_go_mk, M_sp_mk, M_ba_mk, M_le_mk, M_lf_mk, M_mo_mk, M_un_mk, M_ch_mk, M_lc_mk, M_ac_mk, M_bd_mk]; exact ⟨n9, n10⟩
  · rw [M_ba_mk]; omega
  · rw [M_ch_mk, M_ba_mk, M_al_mk, M_co_mk, i64_0]; intro _; omega
  · rw [M_mo_mk, M_li_mk, M_le_mk, i32_0]; omega
  · rw [M_un_mk, i32_0]; omega
  · simp only [M_cd_mk, M_pt_mk, M_mn_mk, M_ev_mk, M_co_mk, M_al_mk, M_re_mk, M_lo_mk, M_rs_mk, M_li_mk, M_he_mk, M_go_mk, M_sp_mk, M_ba_mk, M_le_mk, M_lf_mk, M_mo_mk, M_un_mk, M_ch_mk, M_lc_mk, M_ac_mk, M_bd_mk]; exact nL

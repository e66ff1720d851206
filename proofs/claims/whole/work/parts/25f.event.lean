theorem r_1 (a b c : Int64) : a + b - c = a - c + b := by
  rw [Int64.sub_eq_add_neg, Int64.sub_eq_add_neg, Int64.add_assoc, Int64.add_assoc, Int64.add_comm b]
theorem r_2 (a b c : Int64) : a + b - c = a + (b - c) := by
  rw [Int64.sub_eq_add_neg, Int64.sub_eq_add_neg, Int64.add_assoc]
theorem r_3 (a b v : Int64) : a + (b - a - v) = b - v := by
  rw [← r_2, ← r_2, Int64.add_comm a b, Int64.add_sub_cancel]
theorem r_4 (a b : Int64) (h : a = b) : a - b = 0 := by rw [h, Int64.sub_self]
theorem jmin_le {x y : Int64} : jmin x y = if y ≤ x then y else x := by
  unfold jmin
  by_cases h : y < x
  · rw [if_pos h, if_pos (by rw [Int64.lt_iff_toInt_lt] at h; rw [Int64.le_iff_toInt_le]; omega)]
  · rw [if_neg h]
    by_cases g : y ≤ x
    · rw [if_pos g]
      rw [Int64.lt_iff_toInt_lt] at h
      rw [Int64.le_iff_toInt_le] at g
      exact i64_eq (by omega)
    · rw [if_neg g]
theorem fall_mk (m : MR) (T : TR) (y : Int64) : m_X5_fall m T y = (M_mk (M_cd m) (M_pt m) (M_mn m) (M_ev m) (M_co m) (M_al m) (M_re m - jmin y (M_re m)) (M_lo m + (y - jmin y (M_re m))) (M_rs m) (M_li m) (M_he m) (M_go m) (M_sp m) (M_ba m) (M_le m) (M_lf m) (M_mo m) (M_un m) (M_ch m) (M_lc m) (M_ac m) (M_bd m)) := by
  unfold m_X5_fall
  rw [jmin_le]
  by_cases h : M_re m ≤ y
  · rw [if_pos h, if_pos h, r_2]
  · rw [if_neg h, if_neg h, r_2]
theorem va_1 {m : MR} {T : TR} {v : Int64} (h : v ≤ m_X5_book m T) : m_X5_values m T v = (M_mk (M_cd m) (M_pt m) (M_mn m) (M_ev m) v 0 (M_re m - jmin (m_X5_book m T - v) (M_re m)) (M_lo m + (m_X5_book m T - v - jmin (m_X5_book m T - v) (M_re m))) (M_rs m) (M_li m) (M_he m) (M_go m) (M_sp m) (M_ba m) (M_le m) (M_lf m) (M_mo m) (M_un m) (M_ch m) (M_lc m) (M_ac m) (M_bd m)) := by
  unfold m_X5_values
  rw [if_pos h, fall_mk]
  simp only [M_cd_mk, M_pt_mk, M_mn_mk, M_ev_mk, M_co_mk, M_al_mk, M_re_mk, M_lo_mk, M_rs_mk, M_li_mk, M_he_mk, M_go_mk, M_sp_mk, M_ba_mk, M_le_mk, M_lf_mk, M_mo_mk, M_un_mk, M_ch_mk, M_lc_mk, M_ac_mk, M_bd_mk]
theorem va_2 {m : MR} {T : TR} {v : Int64} (h : ¬ v ≤ m_X5_book m T) : m_X5_values m T v = (M_mk (M_cd m) (M_pt m) (M_mn m) (M_ev m) v 0 (M_re m + (v - m_X5_book m T)) (M_lo m) (M_rs m) (M_li m) (M_he m) (M_go m) (M_sp m) (M_ba m) (M_le m) (M_lf m) (M_mo m) (M_un m) (M_ch m) (M_lc m) (M_ac m) (M_bd m)) := by
  unfold m_X5_values
  rw [if_neg h, r_2]
theorem im_1 {m : MR} {T : TR} {v : Int64} (h : v < m_X5_book m T) : m_X5_impairs m T v = (1, (M_mk (M_cd m) (M_pt m) (M_mn m) (M_ev m) (M_co m) (M_co m - v) (M_re m - jmin (m_X5_book m T - v) (M_re m)) (M_lo m + (m_X5_book m T - v - jmin (m_X5_book m T - v) (M_re m))) (M_rs m) (M_li m) (M_he m) (M_go m) (M_sp m) (M_ba m) (M_le m) (M_lf m) (M_mo m) (M_un m) (M_ch m) (M_lc m) (M_ac m) (M_bd m))) := by
  unfold m_X5_impairs
  rw [if_pos h, fall_mk]
  simp only [M_cd_mk, M_pt_mk, M_mn_mk, M_ev_mk, M_co_mk, M_al_mk, M_re_mk, M_lo_mk, M_rs_mk, M_li_mk, M_he_mk, M_go_mk, M_sp_mk, M_ba_mk, M_le_mk, M_lf_mk, M_mo_mk, M_un_mk, M_ch_mk, M_lc_mk, M_ac_mk, M_bd_mk]
theorem im_0 {m : MR} {T : TR} {v : Int64} (h : ¬ v < m_X5_book m T) : (m_X5_impairs m T v).1 = 0 := by
  unfold m_X5_impairs
  rw [if_neg h]
theorem re_0 {m : MR} {T : TR} {v : Int64} {mm : Int32} (h : M_bd m ≤ mm ∨ v - m_X5_book m T ≤ 0 ∨ T_bf T (Int32.toNatClampNeg mm) < v ∨ ¬ v - m_X5_book m T ≤ M_al m) : (m_X5_restores m T v mm).1 = 0 := by
  unfold m_X5_restores
  by_cases h1 : M_bd m ≤ mm
  · rw [if_pos h1]
  · rw [if_neg h1]
    by_cases h2 : v - m_X5_book m T ≤ 0
    · rw [if_pos h2]
    · rw [if_neg h2]
      by_cases h3 : T_bf T (Int32.toNatClampNeg mm) < v
      · rw [if_pos h3]
      · rw [if_neg h3]
        by_cases h4 : v - m_X5_book m T ≤ M_al m
        · rcases h with z | z | z | z
          · exact absurd z h1
          · exact absurd z h2
          · exact absurd z h3
          · exact absurd h4 z
        · rw [if_neg h4]
theorem lo_mk (m : MR) (by_ : Int64) : (if M_lo m ≤ by_ then (0 : Int64) else M_lo m - by_) = M_lo m - jmin by_ (M_lo m) := by
  rw [jmin_le]
  by_cases h : M_lo m ≤ by_
  · rw [if_pos h, if_pos h, Int64.sub_self]
  · rw [if_neg h, if_neg h]
theorem re_1 {m : MR} {T : TR} {v : Int64} {mm : Int32} (h1 : ¬ M_bd m ≤ mm) (h2 : ¬ v - m_X5_book m T ≤ 0) (h3 : ¬ T_bf T (Int32.toNatClampNeg mm) < v) (h4 : v - m_X5_book m T ≤ M_al m) : (m_X5_restores m T v mm).1 = (if M_co m - (M_al m - (v - m_X5_book m T)) < M_rs m then 0 else 1) ∧ (m_X5_restores m T v mm).2 = (M_mk (M_cd m) (M_pt m) (M_mn m) (M_ev m) (M_co m) (M_al m - (v - m_X5_book m T)) (M_re m) (M_lo m - jmin (v - m_X5_book m T) (M_lo m)) (M_rs m) (M_li m) (M_he m) (M_go m) (M_sp m) (M_ba m) (M_le m) (M_lf m) (M_mo m) (M_un m) (M_ch m) (M_lc m) (M_ac m) (M_bd m)) := by
  unfold m_X5_restores
  rw [if_neg h1, if_neg h2, if_neg h3, if_pos h4, ← lo_mk]
  by_cases h5 : M_lo m ≤ v - m_X5_book m T
  · rw [if_pos h5, if_pos h5]
    have eb : m_X5_book (M_mk (M_cd m) (M_pt m) (M_mn m) (M_ev m) (M_co m) (M_al m - (v - m_X5_book m T)) (M_re m) 0 (M_rs m) (M_li m) (M_he m) (M_go m) (M_sp m) (M_ba m) (M_le m) (M_lf m) (M_mo m) (M_un m) (M_ch m) (M_lc m) (M_ac m) (M_bd m)) T = M_co m - (M_al m - (v - m_X5_book m T)) := by unfold m_X5_book; rw [M_co_mk, M_al_mk]
    rw [eb]
    by_cases h6 : M_co m - (M_al m - (v - m_X5_book m T)) < M_rs m
    · rw [if_pos h6, if_pos h6]
      exact ⟨rfl, rfl⟩
    · rw [if_neg h6, if_neg h6]
      exact ⟨rfl, rfl⟩
  · rw [if_neg h5, if_neg h5]
    have eb : m_X5_book (M_mk (M_cd m) (M_pt m) (M_mn m) (M_ev m) (M_co m) (M_al m - (v - m_X5_book m T)) (M_re m) (M_lo m - (v - m_X5_book m T)) (M_rs m) (M_li m) (M_he m) (M_go m) (M_sp m) (M_ba m) (M_le m) (M_lf m) (M_mo m) (M_un m) (M_ch m) (M_lc m) (M_ac m) (M_bd m)) T = M_co m - (M_al m - (v - m_X5_book m T)) := by unfold m_X5_book; rw [M_co_mk, M_al_mk]
    rw [eb]
    by_cases h6 : M_co m - (M_al m - (v - m_X5_book m T)) < M_rs m
    · rw [if_pos h6, if_pos h6]
      exact ⟨rfl, rfl⟩
    · rw [if_neg h6, if_neg h6]
      exact ⟨rfl, rfl⟩
theorem se_mk (m : MR) (T : TR) (n : Int32) : m_X5_sells m T n = (M_mk (M_cd m) (M_pt m) (M_mn m) (M_ev m) (m_X5_less (M_co m) n) (m_X5_less (M_al m) n) (m_X5_less (M_re m) n) (M_lo m) (m_X5_less (M_rs m) n) (M_li m) (M_he m) (if n = 1000000 then 1 else 0) (M_sp m) (M_ba m) (M_le m) (M_lf m) (M_mo m) (M_un m) (M_ch m) (M_lc m) (M_ac m) (M_bd m)) := by
  unfold m_X5_sells
  by_cases h : n = 1000000
  · rw [if_pos h, if_pos h]
  · rw [if_neg h, if_neg h]
theorem hp_0 {m : MR} {T : TR} {e mm : Int32} (g : M_go m = 0) (h : M_he m = 0) (k : (T_ki T (Int32.toNatClampNeg e)) = 0) : m_X5_happens m T e mm = if M_li m ≤ 0 then (0, (M_mk (M_cd m) (M_pt m) (M_mn m) (M_ev m) (M_co m + (T_am T (Int32.toNatClampNeg e))) (M_al m) (M_re m) (M_lo m) (M_rs m) (M_li m) (M_he m) (M_go m) (M_sp m) (M_ba m) (M_le m) (M_lf m) (M_mo m) (M_un m) (M_ch m) (M_lc m) (M_ac m) (M_bd m))) else if m_X5_book (M_mk (M_cd m) (M_pt m) (M_mn m) (M_ev m) (M_co m + (T_am T (Int32.toNatClampNeg e))) (M_al m) (M_re m) (M_lo m) (M_rs m) (M_li m) (M_he m) (M_go m) (M_sp m) (M_ba m) (M_le m) (M_lf m) (M_mo m) (M_un m) (M_ch m) (M_lc m) (M_ac m) (M_bd m)) T < M_rs m then (0, (M_mk (M_cd m) (M_pt m) (M_mn m) (M_ev m) (M_co m + (T_am T (Int32.toNatClampNeg e))) (M_al m) (M_re m) (M_lo m) (M_rs m) (M_li m) (M_he m) (M_go m) (M_sp m) (M_ba m) (M_le m) (M_lf m) (M_mo m) (M_un m) (M_ch m) (M_lc m) (M_ac m) (M_bd m))) else (1, (M_mk (M_cd m) (M_pt m) (M_mn m) (M_ev m) (M_co m + (T_am T (Int32.toNatClampNeg e))) (M_al m) (M_re m) (M_lo m) (M_rs m) (M_li m) (M_he m) (M_go m) (M_sp m) (M_ba m) (M_le m) (M_lf m) (M_mo m) (M_un m) (M_ch m) (M_lc m) (M_ac m) (M_bd m))) := by
  unfold m_X5_happens
  rw [if_pos g, if_pos h, if_pos k]
theorem hp_1 {m : MR} {T : TR} {e mm : Int32} (g : M_go m = 0) (h : M_he m = 0) (k : (T_ki T (Int32.toNatClampNeg e)) = 1) : m_X5_happens m T e mm = if m_X5_book (M_mk (M_cd m) (M_pt m) (M_mn m) (M_ev m) (M_co m) (M_al m) (M_re m) (M_lo m) (T_am T (Int32.toNatClampNeg e)) (T_nu T (Int32.toNatClampNeg e)) (M_he m) (M_go m) (M_sp m) (M_ba m) (M_le m) (M_lf m) (M_mo m) (M_un m) (M_ch m) (M_lc m) (M_ac m) (M_bd m)) T < (T_am T (Int32.toNatClampNeg e)) then (0, (M_mk (M_cd m) (M_pt m) (M_mn m) (M_ev m) (M_co m) (M_al m) (M_re m) (M_lo m) (T_am T (Int32.toNatClampNeg e)) (T_nu T (Int32.toNatClampNeg e)) (M_he m) (M_go m) (M_sp m) (M_ba m) (M_le m) (M_lf m) (M_mo m) (M_un m) (M_ch m) (M_lc m) (M_ac m) (M_bd m))) else (1, (M_mk (M_cd m) (M_pt m) (M_mn m) (M_ev m) (M_co m) (M_al m) (M_re m) (M_lo m) (T_am T (Int32.toNatClampNeg e)) (T_nu T (Int32.toNatClampNeg e)) (M_he m) (M_go m) (M_sp m) (M_ba m) (M_le m) (M_lf m) (M_mo m) (M_un m) (M_ch m) (M_lc m) (M_ac m) (M_bd m))) := by
  unfold m_X5_happens
  rw [if_pos g, if_pos h, if_neg (by rw [k]; decide), if_pos k]
theorem hp_2 {m : MR} {T : TR} {e mm : Int32} (g : M_go m = 0) (h : M_he m = 0) (k : (T_ki T (Int32.toNatClampNeg e)) = 2) : m_X5_happens m T e mm = (1, m_X5_values m T (T_am T (Int32.toNatClampNeg e))) := by
  unfold m_X5_happens
  rw [if_pos g, if_pos h, if_neg (by rw [k]; decide), if_neg (by rw [k]; decide), if_pos k]
theorem hp_3 {m : MR} {T : TR} {e mm : Int32} (g : M_go m = 0) (h : M_he m = 0) (k : (T_ki T (Int32.toNatClampNeg e)) = 3) : m_X5_happens m T e mm = ((m_X5_impairs m T (T_am T (Int32.toNatClampNeg e))).1, (m_X5_impairs m T (T_am T (Int32.toNatClampNeg e))).2) := by
  unfold m_X5_happens
  rw [if_pos g, if_pos h, if_neg (by rw [k]; decide), if_neg (by rw [k]; decide), if_neg (by rw [k]; decide), if_pos k]
theorem hp_4 {m : MR} {T : TR} {e mm : Int32} (g : M_go m = 0) (h : M_he m = 0) (k : (T_ki T (Int32.toNatClampNeg e)) = 4) : m_X5_happens m T e mm = ((m_X5_restores m T (T_am T (Int32.toNatClampNeg e)) mm).1, (m_X5_restores m T (T_am T (Int32.toNatClampNeg e)) mm).2) := by
  unfold m_X5_happens
  rw [if_pos g, if_pos h, if_neg (by rw [k]; decide), if_neg (by rw [k]; decide), if_neg (by rw [k]; decide), if_neg (by rw [k]; decide), if_pos k]
theorem hp_5 {m : MR} {T : TR} {e mm : Int32} (g : M_go m = 0) (h : M_he m = 0) (k : (T_ki T (Int32.toNatClampNeg e)) = 5) : m_X5_happens m T e mm = (1, m_X5_sells m T (T_nu T (Int32.toNatClampNeg e))) := by
  unfold m_X5_happens
  rw [if_pos g, if_pos h, if_neg (by rw [k]; decide), if_neg (by rw [k]; decide), if_neg (by rw [k]; decide), if_neg (by rw [k]; decide), if_neg (by rw [k]; decide), if_pos k]
theorem hp_6 {m : MR} {T : TR} {e mm : Int32} (g : M_go m = 0) (h : M_he m = 0) (k : (T_ki T (Int32.toNatClampNeg e)) = 6) : m_X5_happens m T e mm = (1, (M_mk (M_cd m) (M_pt m) (M_mn m) (M_ev m) (M_co m) (M_al m) (M_re m) (M_lo m) (M_rs m) (M_li m) 1 (M_go m) (M_sp m) (M_ba m) (M_le m) (M_lf m) (M_mo m) (M_un m) (M_ch m) (M_lc m) (M_ac m) (M_bd m))) := by
  unfold m_X5_happens
  rw [if_pos g, if_pos h, if_neg (by rw [k]; decide), if_neg (by rw [k]; decide), if_neg (by rw [k]; decide), if_neg (by rw [k]; decide), if_neg (by rw [k]; decide), if_neg (by rw [k]; decide), if_pos k]
theorem hp_7 {m : MR} {T : TR} {e mm : Int32} (g : M_go m = 0) (h : M_he m = 0) (k : (T_ki T (Int32.toNatClampNeg e)) = 7) : m_X5_happens m T e mm = (M_he m, (M_mk (M_cd m) (M_pt m) (M_mn m) (M_ev m) (M_co m) (M_al m) (M_re m) (M_lo m) (M_rs m) (M_li m) 0 (M_go m) (M_sp m) (M_ba m) (M_le m) (M_lf m) (M_mo m) (M_un m) (M_ch m) (M_lc m) (M_ac m) (M_bd m))) := by
  unfold m_X5_happens
  rw [if_pos g, if_pos h, if_neg (by rw [k]; decide), if_neg (by rw [k]; decide), if_neg (by rw [k]; decide), if_neg (by rw [k]; decide), if_neg (by rw [k]; decide), if_neg (by rw [k]; decide), if_neg (by rw [k]; decide)]
theorem hp_5h {m : MR} {T : TR} {e mm : Int32} (g : M_go m = 0) (h : ¬ M_he m = 0) (k : (T_ki T (Int32.toNatClampNeg e)) = 5) : m_X5_happens m T e mm = (1, m_X5_sells m T (T_nu T (Int32.toNatClampNeg e))) := by
  unfold m_X5_happens
  rw [if_pos g, if_neg h, if_pos k]
theorem hp_7h {m : MR} {T : TR} {e mm : Int32} (g : M_go m = 0) (h : ¬ M_he m = 0) (k : (T_ki T (Int32.toNatClampNeg e)) = 7) : m_X5_happens m T e mm = (M_he m, (M_mk (M_cd m) (M_pt m) (M_mn m) (M_ev m) (M_co m) (M_al m) (M_re m) (M_lo m) (M_rs m) (M_li m) 0 (M_go m) (M_sp m) (M_ba m) (M_le m) (M_lf m) (M_mo m) (M_un m) (M_ch m) (M_lc m) (M_ac m) (M_bd m))) := by
  unfold m_X5_happens
  rw [if_pos g, if_neg h, if_neg (by rw [k]; decide), if_pos k, if_neg (by rw [k]; decide), if_neg (by rw [k]; decide), if_neg (by rw [k]; decide), if_neg (by rw [k]; decide), if_neg (by rw [k]; decide), if_neg (by rw [k]; decide)]
theorem hp_h {m : MR} {T : TR} {e mm : Int32} (g : M_go m = 0) (h : ¬ M_he m = 0) (k : ¬ (T_ki T (Int32.toNatClampNeg e)) = 5) (k2 : ¬ (T_ki T (Int32.toNatClampNeg e)) = 7) : (m_X5_happens m T e mm).1 = 0 := by
  unfold m_X5_happens
  rw [if_pos g, if_neg h, if_neg k, if_neg k2]
theorem hp_g {m : MR} {T : TR} {e mm : Int32} (g : ¬ M_go m = 0) : (m_X5_happens m T e mm).1 = 0 := by
  unfold m_X5_happens
  rw [if_neg g]
theorem ib_0 {c : CR} {t : SR} {ev : ER} {mr : Int64} (g : C_go c = 0) (h : C_he c = 0) (k : E_ki ev = 0) : m_X0_isBreach c t ev mr = (if C_li c = 0 then 1 else if C_rs c ≤ m_X0_book c t + E_am ev then 0 else 1 : Int32) := by
  unfold m_X0_isBreach
  rw [if_pos g, if_pos h, if_pos k]
theorem ib_1 {c : CR} {t : SR} {ev : ER} {mr : Int64} (g : C_go c = 0) (h : C_he c = 0) (k : E_ki ev = 1) : m_X0_isBreach c t ev mr = (if E_am ev ≤ m_X0_book c t then 0 else 1 : Int32) := by
  unfold m_X0_isBreach
  rw [if_pos g, if_pos h, if_neg (by rw [k]; decide), if_pos k]
theorem ib_2 {c : CR} {t : SR} {ev : ER} {mr : Int64} (g : C_go c = 0) (h : C_he c = 0) (k : E_ki ev = 2) : m_X0_isBreach c t ev mr = (0 : Int32) := by
  unfold m_X0_isBreach
  rw [if_pos g, if_pos h, if_neg (by rw [k]; decide), if_neg (by rw [k]; decide), if_pos k]
theorem ib_3 {c : CR} {t : SR} {ev : ER} {mr : Int64} (g : C_go c = 0) (h : C_he c = 0) (k : E_ki ev = 3) : m_X0_isBreach c t ev mr = (if E_am ev < m_X0_book c t then 0 else 1 : Int32) := by
  unfold m_X0_isBreach
  rw [if_pos g, if_pos h, if_neg (by rw [k]; decide), if_neg (by rw [k]; decide), if_neg (by rw [k]; decide), if_pos k]
theorem ib_4 {c : CR} {t : SR} {ev : ER} {mr : Int64} (g : C_go c = 0) (h : C_he c = 0) (k : E_ki ev = 4) : m_X0_isBreach c t ev mr = (if E_am ev ≤ m_X0_book c t then 1 else if mr < E_am ev then 1 else if C_al c < E_am ev - m_X0_book c t then 1 else if C_rs c ≤ E_am ev then 0 else 1 : Int32) := by
  unfold m_X0_isBreach
  rw [if_pos g, if_pos h, if_neg (by rw [k]; decide), if_neg (by rw [k]; decide), if_neg (by rw [k]; decide), if_neg (by rw [k]; decide), if_pos k]
theorem ib_5 {c : CR} {t : SR} {ev : ER} {mr : Int64} (g : C_go c = 0) (h : C_he c = 0) (k : E_ki ev = 5) : m_X0_isBreach c t ev mr = (0 : Int32) := by
  unfold m_X0_isBreach
  rw [if_pos g, if_pos h, if_neg (by rw [k]; decide), if_neg (by rw [k]; decide), if_neg (by rw [k]; decide), if_neg (by rw [k]; decide), if_neg (by rw [k]; decide), if_pos k]
theorem ib_6 {c : CR} {t : SR} {ev : ER} {mr : Int64} (g : C_go c = 0) (h : C_he c = 0) (k : E_ki ev = 6) : m_X0_isBreach c t ev mr = (0 : Int32) := by
  unfold m_X0_isBreach
  rw [if_pos g, if_pos h, if_neg (by rw [k]; decide), if_neg (by rw [k]; decide), if_neg (by rw [k]; decide), if_neg (by rw [k]; decide), if_neg (by rw [k]; decide), if_neg (by rw [k]; decide), if_pos k]
theorem ib_7 {c : CR} {t : SR} {ev : ER} {mr : Int64} (g : C_go c = 0) (h : C_he c = 0) (k : E_ki ev = 7) : m_X0_isBreach c t ev mr = (1 : Int32) := by
  unfold m_X0_isBreach
  rw [if_pos g, if_pos h, if_neg (by rw [k]; decide), if_neg (by rw [k]; decide), if_neg (by rw [k]; decide), if_neg (by rw [k]; decide), if_neg (by rw [k]; decide), if_neg (by rw [k]; decide), if_neg (by rw [k]; decide), if_pos k]
theorem ib_7h {c : CR} {t : SR} {ev : ER} {mr : Int64} (g : C_go c = 0) (h : ¬ C_he c = 0) (k : E_ki ev = 7) : m_X0_isBreach c t ev mr = 0 := by
  unfold m_X0_isBreach
  rw [if_pos g, if_neg h, if_pos k]
theorem ib_5h {c : CR} {t : SR} {ev : ER} {mr : Int64} (g : C_go c = 0) (h : ¬ C_he c = 0) (k : E_ki ev = 5) : m_X0_isBreach c t ev mr = 0 := by
  unfold m_X0_isBreach
  rw [if_pos g, if_neg h, if_neg (by rw [k]; decide), if_pos k]
theorem ib_h {c : CR} {t : SR} {ev : ER} {mr : Int64} (g : C_go c = 0) (h : ¬ C_he c = 0) (k : ¬ E_ki ev = 5) (k2 : ¬ E_ki ev = 7) : m_X0_isBreach c t ev mr = 1 := by
  unfold m_X0_isBreach
  rw [if_pos g, if_neg h, if_neg k2, if_neg k]
theorem ib_g {c : CR} {t : SR} {ev : ER} {mr : Int64} (g : ¬ C_go c = 0) : m_X0_isBreach c t ev mr = 1 := by
  unfold m_X0_isBreach
  rw [if_neg g]
theorem me_b {c : CR} {t : SR} {ev : ER} {mr : Int64} (h : m_X0_isBreach c t ev mr = 1) : C_br (m_X0_meet c t ev mr).1 = 1 := by
  unfold m_X0_meet
  rw [if_neg (by rw [h]; decide), C_br_mk]
theorem me_a {c : CR} {t : SR} {ev : ER} {mr : Int64} (h : m_X0_isBreach c t ev mr = 0) (h6 : ¬ E_ki ev = 6) (h7 : ¬ E_ki ev = 7) : m_X0_meet c t ev mr = (m_X0_apply c t ev, m_X0_beginStretch (m_X0_apply c t ev) t) := by
  unfold m_X0_meet
  rw [if_pos h, if_neg h6, if_neg h7]
theorem me_6 {c : CR} {t : SR} {ev : ER} {mr : Int64} (h : m_X0_isBreach c t ev mr = 0) (h6 : E_ki ev = 6) : m_X0_meet c t ev mr = (m_X0_apply c t ev, t) := by
  unfold m_X0_meet
  rw [if_pos h, if_pos h6]
theorem me_7 {c : CR} {t : SR} {ev : ER} {mr : Int64} (h : m_X0_isBreach c t ev mr = 0) (h7 : E_ki ev = 7) : m_X0_meet c t ev mr = (m_X0_apply c t ev, t) := by
  unfold m_X0_meet
  rw [if_pos h, if_neg (by rw [h7]; decide), if_pos h7]
theorem ap_0 {c : CR} {t : SR} {ev : ER} (k : E_ki ev = 0) : m_X0_apply c t ev = (C_mk (C_me c) (C_ra c) (C_co c + E_am ev) (C_al c) (C_re c) (C_lo c) (C_rs c) (C_li c) (C_he c) (C_go c) (C_br c) (C_cu c) (C_lc c) (C_ac c)) := by
  unfold m_X0_apply
  rw [if_pos k]
theorem ap_1 {c : CR} {t : SR} {ev : ER} (k : E_ki ev = 1) : m_X0_apply c t ev = (C_mk (C_me c) (C_ra c) (C_co c) (C_al c) (C_re c) (C_lo c) (E_am ev) (E_nu ev) (C_he c) (C_go c) (C_br c) (C_cu c) (C_lc c) (C_ac c)) := by
  unfold m_X0_apply
  rw [if_neg (by rw [k]; decide), if_pos k]
theorem ap_3 {c : CR} {t : SR} {ev : ER} (k : E_ki ev = 3) : m_X0_apply c t ev = (C_mk (C_me c) (C_ra c) (C_co c) (C_al c + ((m_X0_book c t) - E_am ev)) (C_re c - jmin ((m_X0_book c t) - E_am ev) (C_re c)) (C_lo c + ((m_X0_book c t) - E_am ev - jmin ((m_X0_book c t) - E_am ev) (C_re c))) (C_rs c) (C_li c) (C_he c) (C_go c) (C_br c) (C_cu c) (C_lc c) (C_ac c)) := by
  unfold m_X0_apply
  rw [if_neg (by rw [k]; decide), if_neg (by rw [k]; decide), if_neg (by rw [k]; decide), if_pos k]
  unfold m_X0_impair m_X0_lose
  simp only [C_me_mk, C_ra_mk, C_co_mk, C_al_mk, C_re_mk, C_lo_mk, C_rs_mk, C_li_mk, C_he_mk, C_go_mk, C_br_mk, C_cu_mk, C_lc_mk, C_ac_mk]
theorem ap_4 {c : CR} {t : SR} {ev : ER} (k : E_ki ev = 4) : m_X0_apply c t ev = (C_mk (C_me c) (C_ra c) (C_co c) (C_al c - (E_am ev - (m_X0_book c t))) (C_re c) (C_lo c - jmin (E_am ev - (m_X0_book c t)) (C_lo c)) (C_rs c) (C_li c) (C_he c) (C_go c) (C_br c) (C_cu c) (C_lc c) (C_ac c)) := by
  unfold m_X0_apply
  rw [if_neg (by rw [k]; decide), if_neg (by rw [k]; decide), if_neg (by rw [k]; decide), if_neg (by rw [k]; decide), if_pos k]
  unfold m_X0_restore
  rfl
theorem ap_6 {c : CR} {t : SR} {ev : ER} (k : E_ki ev = 6) : m_X0_apply c t ev = (C_mk (C_me c) (C_ra c) (C_co c) (C_al c) (C_re c) (C_lo c) (C_rs c) (C_li c) 1 (C_go c) (C_br c) (C_cu c) (C_lc c) (C_ac c)) := by
  unfold m_X0_apply
  rw [if_neg (by rw [k]; decide), if_neg (by rw [k]; decide), if_neg (by rw [k]; decide), if_neg (by rw [k]; decide), if_neg (by rw [k]; decide), if_neg (by rw [k]; decide), if_pos k]
theorem ap_7 {c : CR} {t : SR} {ev : ER} (k : E_ki ev = 7) : m_X0_apply c t ev = (C_mk (C_me c) (C_ra c) (C_co c) (C_al c) (C_re c) (C_lo c) (C_rs c) (C_li c) 0 (C_go c) (C_br c) (C_cu c) (C_lc c) (C_ac c)) := by
  unfold m_X0_apply
  rw [if_neg (by rw [k]; decide), if_neg (by rw [k]; decide), if_neg (by rw [k]; decide), if_neg (by rw [k]; decide), if_neg (by rw [k]; decide), if_neg (by rw [k]; decide), if_neg (by rw [k]; decide)]
theorem ap_2a {c : CR} {t : SR} {ev : ER} (k : E_ki ev = 2) (h : E_am ev ≤ (m_X0_book c t)) : m_X0_apply c t ev = (C_mk (C_me c) (C_ra c) (E_am ev) 0 (C_re c - jmin ((m_X0_book c t) - E_am ev) (C_re c)) (C_lo c + ((m_X0_book c t) - E_am ev - jmin ((m_X0_book c t) - E_am ev) (C_re c))) (C_rs c) (C_li c) (C_he c) (C_go c) (C_br c) (C_cu c) (C_lc c) (C_ac c)) := by
  unfold m_X0_apply m_X0_revalue
  rw [if_neg (by rw [k]; decide), if_neg (by rw [k]; decide), if_pos k, if_pos h]
  unfold m_X0_lose
  simp only [C_me_mk, C_ra_mk, C_co_mk, C_al_mk, C_re_mk, C_lo_mk, C_rs_mk, C_li_mk, C_he_mk, C_go_mk, C_br_mk, C_cu_mk, C_lc_mk, C_ac_mk]
theorem ap_2b {c : CR} {t : SR} {ev : ER} (k : E_ki ev = 2) (h : ¬ E_am ev ≤ (m_X0_book c t)) : m_X0_apply c t ev = (C_mk (C_me c) (C_ra c) (E_am ev) 0 (C_re c + (E_am ev - (m_X0_book c t))) (C_lo c) (C_rs c) (C_li c) (C_he c) (C_go c) (C_br c) (C_cu c) (C_lc c) (C_ac c)) := by
  unfold m_X0_apply m_X0_revalue
  rw [if_neg (by rw [k]; decide), if_neg (by rw [k]; decide), if_pos k, if_neg h]
theorem ap_5 {c : CR} {t : SR} {ev : ER} (k : E_ki ev = 5) : m_X0_apply c t ev = (C_mk (C_me c) (C_ra c) (m_X5_less (C_co c) (E_nu ev)) (m_X5_less (C_al c) (E_nu ev)) (m_X5_less (C_re c) (E_nu ev)) (C_lo c) (m_X5_less (C_rs c) (E_nu ev)) (C_li c) (C_he c) (if E_nu ev = 1000000 then 1 else 0) (C_br c) (C_cu c) (C_lc c) (C_ac c)) := by
  unfold m_X0_apply m_X0_sell m_X5_less
  rw [if_neg (by rw [k]; decide), if_neg (by rw [k]; decide), if_neg (by rw [k]; decide), if_neg (by rw [k]; decide), if_neg (by rw [k]; decide), if_pos k, rd_eq (by decide), rd_eq (by decide), rd_eq (by decide), rd_eq (by decide)]
  by_cases h : E_nu ev = 1000000
  · rw [if_pos h, if_pos h]
  · rw [if_neg h, if_neg h]
/-- what an event may say -/
def EV (k : Int32) (a : Int64) (u : Int32) : Prop := (k = 0 ∨ k = 1 ∨ k = 2 ∨ k = 3 ∨ k = 4 ∨ k = 5 ∨ k = 6 ∨ k = 7) ∧ (0 ≤ a.toInt ∧ a.toInt ≤ 1000000000) ∧ (k = 1 → 1 ≤ u.toInt ∧ u.toInt ≤ 36) ∧ (k = 5 → 1 ≤ u.toInt ∧ u.toInt ≤ 1000000)
def ES (me ra : Int32) (c : CR) (t : SR) (m : MR) (T : TR) (p e mm : Int32) (ev : ER) (mr : Int64) (jc ju : Int) : Prop := ((m_X5_happens m T e mm).1 = 0 ∧ C_br (m_X0_meet c t ev mr).1 = 1) ∨ (¬ (m_X5_happens m T e mm).1 = 0 ∧ RS me ra (m_X0_meet c t ev mr).1 (m_X0_meet c t ev mr).2 (gC m T p e mm 0) ∧ NC (jc + 1) ju (gC m T p e mm 0) ∧ NS me ju (gC m T p e mm 0))
theorem es_lt {me ra : Int32} {c : CR} {t : SR} {m : MR} {T : TR} {p e mm : Int32} {ev : ER} {mr : Int64} {jc ju : Int} (h : RS me ra c t m) (n : NC jc ju m) (s : NS me ju m) (hj0 : 0 ≤ jc) (hj : jc ≤ 35) (hu : ju ≤ 36) (hT : T_ra T (Int32.toNatClampNeg p) = ra) (hra : 0 ≤ ra.toInt ∧ ra.toInt ≤ 1000000) (hk : E_ki ev = (T_ki T (Int32.toNatClampNeg e))) (ha : E_am ev = (T_am T (Int32.toNatClampNeg e))) (hn : E_nu ev = (T_nu T (Int32.toNatClampNeg e))) (h6 : ¬ 6 ≤ (T_ki T (Int32.toNatClampNeg e))) (hb : m_X0_isBreach c t ev mr = 0) (hp : ¬ (m_X5_happens m T e mm).1 = 0) (hR : RC me ra (m_X0_apply c t ev) (m_X5_happens m T e mm).2) (hN : NC (jc + 1) ju (m_X5_happens m T e mm).2) : ES me ra c t m T p e mm ev mr jc ju := by
  have e6 : ¬ E_ki ev = 6 := fun z => h6 (by rw [← hk, z]; decide)
  have e7 : ¬ E_ki ev = 7 := fun z => h6 (by rw [← hk, z]; decide)
  have eg : (gC m T p e mm 0) = m_X5_stretch (m_X5_happens m T e mm).2 T p := by unfold gC; rw [if_pos rfl, if_neg h6]
  unfold ES
  rw [me_a hb e6 e7, eg]
  exact Or.inr ⟨hp, st_step hR hN (by omega) hu hT hra⟩

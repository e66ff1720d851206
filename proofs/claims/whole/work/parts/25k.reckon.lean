set_option maxHeartbeats 2000000 in
/-- both sides open a part -/
theorem OP {T T' : TR} {a fm : Nat} {pt : PR} {us : Nat → Int32} {es : Nat → Option Nat} {evf : Nat → ER} {c : MR} (hD : DR (M_ev c) T a fm pt us es evf) (cf : CR) (tf : SR) : RS (P_me pt) (P_ra pt) (m_X0_open cf tf pt).1 (m_X0_open cf tf pt).2 (gA (m_X5_clear c T') T (nI a) (nI fm)) ∧ NC 0 0 (gA (m_X5_clear c T') T (nI a) (nI fm)) ∧ NS (P_me pt) 0 (gA (m_X5_clear c T') T (nI a) (nI fm)) := by
  obtain ⟨⟨d1, d2, d3⟩, ⟨d4, d5, d6, d7, d8, d9⟩, ⟨⟨v1, v2⟩, ⟨v3, v4⟩, ⟨v5, v6⟩, v7, ⟨v8, v9⟩⟩, -⟩ := hD
  have hpa : Int32.toNatClampNeg (nI a) = a := nI_clamp (by omega)
  have e1 : gA (m_X5_clear c T') T (nI a) (nI fm) = m_X5_stretch (M_mk (M_cd c) (M_pt c) (M_mn c) (M_ev c) (T_cs T a) 0 0 0 (T_rs T a) (T_li T a) 0 0 0 (M_ba c) (M_le c) (M_lf c) (M_mo c) (M_un c) (M_ch c) 0 0 (M_bd c)) T (nI a) := by
    unfold gA
    rw [hpa, if_pos (by rw [← d6, d3])]
    unfold m_X5_clear
    simp only [M_cd_mk, M_pt_mk, M_mn_mk, M_ev_mk, M_co_mk, M_al_mk, M_re_mk, M_lo_mk, M_rs_mk, M_li_mk, M_he_mk, M_go_mk, M_sp_mk, M_ba_mk, M_le_mk, M_lf_mk, M_mo_mk, M_un_mk, M_ch_mk, M_lc_mk, M_ac_mk, M_bd_mk]
  have e2 : m_X0_open cf tf pt = ((m_X0_open cf tf pt).1, m_X0_beginStretch (m_X0_open cf tf pt).1 tf) := rfl
  have hR : RC (P_me pt) (P_ra pt) (m_X0_open cf tf pt).1 (M_mk (M_cd c) (M_pt c) (M_mn c) (M_ev c) (T_cs T a) 0 0 0 (T_rs T a) (T_li T a) 0 0 0 (M_ba c) (M_le c) (M_lf c) (M_mo c) (M_un c) (M_ch c) 0 0 (M_bd c)) := by
    unfold m_X0_open
    refine ⟨⟨?_, ?_, ?_, ?_, ?_⟩, ⟨?_, ?_, ?_⟩, ⟨?_, ?_⟩, ⟨?_, ?_, ?_⟩, ?_⟩
    · simp only [C_me_mk, C_ra_mk, C_co_mk, C_al_mk, C_re_mk, C_lo_mk, C_rs_mk, C_li_mk, C_he_mk, C_go_mk, C_br_mk, C_cu_mk, C_lc_mk, C_ac_mk, M_cd_mk, M_pt_mk, M_mn_mk, M_ev_mk, M_co_mk, M_al_mk, M_re_mk, M_lo_mk, M_rs_mk, M_li_mk, M_he_mk, M_go_mk, M_sp_mk, M_ba_mk, M_le_mk, M_lf_mk, M_mo_mk, M_un_mk, M_ch_mk, M_lc_mk, M_ac_mk, M_bd_mk, d4]
    · simp only [C_me_mk, C_ra_mk, C_co_mk, C_al_mk, C_re_mk, C_lo_mk, C_rs_mk, C_li_mk, C_he_mk, C_go_mk, C_br_mk, C_cu_mk, C_lc_mk, C_ac_mk, M_cd_mk, M_pt_mk, M_mn_mk, M_ev_mk, M_co_mk, M_al_mk, M_re_mk, M_lo_mk, M_rs_mk, M_li_mk, M_he_mk, M_go_mk, M_sp_mk, M_ba_mk, M_le_mk, M_lf_mk, M_mo_mk, M_un_mk, M_ch_mk, M_lc_mk, M_ac_mk, M_bd_mk]
    · simp only [C_me_mk, C_ra_mk, C_co_mk, C_al_mk, C_re_mk, C_lo_mk, C_rs_mk, C_li_mk, C_he_mk, C_go_mk, C_br_mk, C_cu_mk, C_lc_mk, C_ac_mk, M_cd_mk, M_pt_mk, M_mn_mk, M_ev_mk, M_co_mk, M_al_mk, M_re_mk, M_lo_mk, M_rs_mk, M_li_mk, M_he_mk, M_go_mk, M_sp_mk, M_ba_mk, M_le_mk, M_lf_mk, M_mo_mk, M_un_mk, M_ch_mk, M_lc_mk, M_ac_mk, M_bd_mk]
    · simp only [C_me_mk, C_ra_mk, C_co_mk, C_al_mk, C_re_mk, C_lo_mk, C_rs_mk, C_li_mk, C_he_mk, C_go_mk, C_br_mk, C_cu_mk, C_lc_mk, C_ac_mk, M_cd_mk, M_pt_mk, M_mn_mk, M_ev_mk, M_co_mk, M_al_mk, M_re_mk, M_lo_mk, M_rs_mk, M_li_mk, M_he_mk, M_go_mk, M_sp_mk, M_ba_mk, M_le_mk, M_lf_mk, M_mo_mk, M_un_mk, M_ch_mk, M_lc_mk, M_ac_mk, M_bd_mk]
    · simp only [C_me_mk, C_ra_mk, C_co_mk, C_al_mk, C_re_mk, C_lo_mk, C_rs_mk, C_li_mk, C_he_mk, C_go_mk, C_br_mk, C_cu_mk, C_lc_mk, C_ac_mk, M_cd_mk, M_pt_mk, M_mn_mk, M_ev_mk, M_co_mk, M_al_mk, M_re_mk, M_lo_mk, M_rs_mk, M_li_mk, M_he_mk, M_go_mk, M_sp_mk, M_ba_mk, M_le_mk, M_lf_mk, M_mo_mk, M_un_mk, M_ch_mk, M_lc_mk, M_ac_mk, M_bd_mk, d5]
    · simp only [C_me_mk, C_ra_mk, C_co_mk, C_al_mk, C_re_mk, C_lo_mk, C_rs_mk, C_li_mk, C_he_mk, C_go_mk, C_br_mk, C_cu_mk, C_lc_mk, C_ac_mk, M_cd_mk, M_pt_mk, M_mn_mk, M_ev_mk, M_co_mk, M_al_mk, M_re_mk, M_lo_mk, M_rs_mk, M_li_mk, M_he_mk, M_go_mk, M_sp_mk, M_ba_mk, M_le_mk, M_lf_mk, M_mo_mk, M_un_mk, M_ch_mk, M_lc_mk, M_ac_mk, M_bd_mk, d7]
    · simp only [C_me_mk, C_ra_mk, C_co_mk, C_al_mk, C_re_mk, C_lo_mk, C_rs_mk, C_li_mk, C_he_mk, C_go_mk, C_br_mk, C_cu_mk, C_lc_mk, C_ac_mk, M_cd_mk, M_pt_mk, M_mn_mk, M_ev_mk, M_co_mk, M_al_mk, M_re_mk, M_lo_mk, M_rs_mk, M_li_mk, M_he_mk, M_go_mk, M_sp_mk, M_ba_mk, M_le_mk, M_lf_mk, M_mo_mk, M_un_mk, M_ch_mk, M_lc_mk, M_ac_mk, M_bd_mk]
    · simp only [C_me_mk, C_ra_mk, C_co_mk, C_al_mk, C_re_mk, C_lo_mk, C_rs_mk, C_li_mk, C_he_mk, C_go_mk, C_br_mk, C_cu_mk, C_lc_mk, C_ac_mk, M_cd_mk, M_pt_mk, M_mn_mk, M_ev_mk, M_co_mk, M_al_mk, M_re_mk, M_lo_mk, M_rs_mk, M_li_mk, M_he_mk, M_go_mk, M_sp_mk, M_ba_mk, M_le_mk, M_lf_mk, M_mo_mk, M_un_mk, M_ch_mk, M_lc_mk, M_ac_mk, M_bd_mk]
    · simp only [C_me_mk, C_ra_mk, C_co_mk, C_al_mk, C_re_mk, C_lo_mk, C_rs_mk, C_li_mk, C_he_mk, C_go_mk, C_br_mk, C_cu_mk, C_lc_mk, C_ac_mk, M_cd_mk, M_pt_mk, M_mn_mk, M_ev_mk, M_co_mk, M_al_mk, M_re_mk, M_lo_mk, M_rs_mk, M_li_mk, M_he_mk, M_go_mk, M_sp_mk, M_ba_mk, M_le_mk, M_lf_mk, M_mo_mk, M_un_mk, M_ch_mk, M_lc_mk, M_ac_mk, M_bd_mk]
    · simp only [C_me_mk, C_ra_mk, C_co_mk, C_al_mk, C_re_mk, C_lo_mk, C_rs_mk, C_li_mk, C_he_mk, C_go_mk, C_br_mk, C_cu_mk, C_lc_mk, C_ac_mk, M_cd_mk, M_pt_mk, M_mn_mk, M_ev_mk, M_co_mk, M_al_mk, M_re_mk, M_lo_mk, M_rs_mk, M_li_mk, M_he_mk, M_go_mk, M_sp_mk, M_ba_mk, M_le_mk, M_lf_mk, M_mo_mk, M_un_mk, M_ch_mk, M_lc_mk, M_ac_mk, M_bd_mk]
    · simp only [C_me_mk, C_ra_mk, C_co_mk, C_al_mk, C_re_mk, C_lo_mk, C_rs_mk, C_li_mk, C_he_mk, C_go_mk, C_br_mk, C_cu_mk, C_lc_mk, C_ac_mk, M_cd_mk, M_pt_mk, M_mn_mk, M_ev_mk, M_co_mk, M_al_mk, M_re_mk, M_lo_mk, M_rs_mk, M_li_mk, M_he_mk, M_go_mk, M_sp_mk, M_ba_mk, M_le_mk, M_lf_mk, M_mo_mk, M_un_mk, M_ch_mk, M_lc_mk, M_ac_mk, M_bd_mk]
    · simp only [C_me_mk, C_ra_mk, C_co_mk, C_al_mk, C_re_mk, C_lo_mk, C_rs_mk, C_li_mk, C_he_mk, C_go_mk, C_br_mk, C_cu_mk, C_lc_mk, C_ac_mk, M_cd_mk, M_pt_mk, M_mn_mk, M_ev_mk, M_co_mk, M_al_mk, M_re_mk, M_lo_mk, M_rs_mk, M_li_mk, M_he_mk, M_go_mk, M_sp_mk, M_ba_mk, M_le_mk, M_lf_mk, M_mo_mk, M_un_mk, M_ch_mk, M_lc_mk, M_ac_mk, M_bd_mk]
    · simp only [C_me_mk, C_ra_mk, C_co_mk, C_al_mk, C_re_mk, C_lo_mk, C_rs_mk, C_li_mk, C_he_mk, C_go_mk, C_br_mk, C_cu_mk, C_lc_mk, C_ac_mk, M_cd_mk, M_pt_mk, M_mn_mk, M_ev_mk, M_co_mk, M_al_mk, M_re_mk, M_lo_mk, M_rs_mk, M_li_mk, M_he_mk, M_go_mk, M_sp_mk, M_ba_mk, M_le_mk, M_lf_mk, M_mo_mk, M_un_mk, M_ch_mk, M_lc_mk, M_ac_mk, M_bd_mk]
    · simp only [C_me_mk, C_ra_mk, C_co_mk, C_al_mk, C_re_mk, C_lo_mk, C_rs_mk, C_li_mk, C_he_mk, C_go_mk, C_br_mk, C_cu_mk, C_lc_mk, C_ac_mk, M_cd_mk, M_pt_mk, M_mn_mk, M_ev_mk, M_co_mk, M_al_mk, M_re_mk, M_lo_mk, M_rs_mk, M_li_mk, M_he_mk, M_go_mk, M_sp_mk, M_ba_mk, M_le_mk, M_lf_mk, M_mo_mk, M_un_mk, M_ch_mk, M_lc_mk, M_ac_mk, M_bd_mk]
      exact fun _ => rfl
  have hN : NC 0 0 (M_mk (M_cd c) (M_pt c) (M_mn c) (M_ev c) (T_cs T a) 0 0 0 (T_rs T a) (T_li T a) 0 0 0 (M_ba c) (M_le c) (M_lf c) (M_mo c) (M_un c) (M_ch c) 0 0 (M_bd c)) := by
    refine ⟨?_, ?_, ?_, ?_, ?_⟩
    · rw [M_co_mk, ← d4]; omega
    · rw [M_al_mk, M_co_mk, ← d4, i64_0]; omega
    · rw [M_rs_mk, ← d5]; omega
    · rw [M_li_mk, ← d7]; omega
    · rw [M_sp_mk, i32_0]; omega
  rw [e1, e2]
  exact st_step hR hN (by omega) (by omega) (by rw [hpa, d9]) ⟨v8, v9⟩
theorem FB_s (us : Nat → Int32) (es : Nat → Option Nat) (evf : Nat → ER) (fm : Nat) (x y : CR × SR) {i : Nat} (h : fm ≤ i) : FB us es evf fm x y (i + 1 - fm) = (F_s us es evf i (m_X0_bookOrNone (FB us es evf fm x y (i - fm)).2.1 (FB us es evf fm x y (i - fm)).2.2) (FB us es evf fm x y (i - fm)).1, B_s us es evf i (FB us es evf fm x y (i - fm)).2) := by
  have e1 : i + 1 - fm = (i - fm) + 1 := by omega
  have e2 : fm + (i - fm) = i := by omega
  rw [e1]
  show (F_s us es evf (fm + (i - fm)) _ _, B_s us es evf (fm + (i - fm)) _) = _
  rw [e2]
/-- the component's walk is the two courses -/
theorem FO {us : Nat → Int32} {es : Nat → Option Nat} {evf : Nat → ER} {fm : Nat} {pt : PR} (h : P_fi pt = nI fm) (cf : CR) (tf : SR) (cb : CR) (tb : SR) {U : Nat} (hU : U ≤ 35) (hf : fm ≤ U) : (m_X4_follow pt us es evf cf tf cb tb (nI U)) = ((FB us es evf fm (m_X0_open cf tf pt) (m_X0_open cb tb pt) (U + 1 - fm)).1.1, (FB us es evf fm (m_X0_open cf tf pt) (m_X0_open cb tb pt) (U + 1 - fm)).1.2, (FB us es evf fm (m_X0_open cf tf pt) (m_X0_open cb tb pt) (U + 1 - fm)).2.1, (FB us es evf fm (m_X0_open cf tf pt) (m_X0_open cb tb pt) (U + 1 - fm)).2.2) := by
  unfold m_X4_follow
  rw [h]
  exact FB_l us es evf fm (m_X0_open cf tf pt) (m_X0_open cb tb pt) hU 37 0 (by omega) (by omega)
theorem bn_0 {c : CR} {t : SR} (h : C_br c = 0) : m_X0_bookOrNone c t = m_X0_book c t := by unfold m_X0_bookOrNone; rw [if_pos h]
theorem bn_1 {c : CR} {t : SR} (h : C_br c = 1) : m_X0_bookOrNone c t = -1 := by unfold m_X0_bookOrNone; rw [if_neg (by rw [h]; decide)]
set_option maxHeartbeats 2000000 in
/-- the plain walk from its start -/
theorem PL0 {T : TR} {a fm : Nat} {pt : PR} {us : Nat → Int32} {es : Nat → Option Nat} {evf : Nat → ER} {c : MR} (hD : DR (M_ev c) T a fm pt us es evf) (cf : CR) (tf : SR) (cb : CR) (tb : SR) {U : Nat} (hU : U ≤ 35) (hf : fm ≤ U) {B : Nat → CR × SR} (hBd : ∀ i, B i = (FB us es evf fm (m_X0_open cf tf pt) (m_X0_open cb tb pt) (i - fm)).2) : ((m_X5_go c T (nI a) (nI U) 1).1 = 36 ∧ ∀ i, fm ≤ i → i ≤ U → OKB es evf B (m_X5_go c T (nI a) (nI U) 1).2.2 i) ∨ ∃ b, (m_X5_go c T (nI a) (nI U) 1).1 = nI b ∧ fm ≤ b ∧ b ≤ U ∧ (∀ i, fm ≤ i → i < b → OKB es evf B (m_X5_go c T (nI a) (nI U) 1).2.2 i) ∧ C_br (B (b + 1)).1 = 1 ∧ ∃ e, es b = some e ∧ ¬ E_ki (evf e) = 3 ∧ ¬ E_ki (evf e) = 4 := by
  have hpa : Int32.toNatClampNeg (nI a) = a := nI_clamp (by have := hD.1.1; omega)
  have hfi : T_fi T a = nI fm := by rw [← hD.2.1.2.2.1, hD.1.2.2]
  obtain ⟨o1, o2, o3⟩ := OP (T' := T) hD cb tb
  have hB : ∀ i, fm ≤ i → i < 36 → B (i + 1) = B_s us es evf i (B i) := fun i h1 _ => by
    rw [hBd, hBd, FB_s _ _ _ _ _ _ h1]
  have h0 : B fm = m_X0_open cb tb pt := by
    rw [hBd, Nat.sub_self]
    rfl
  have hz : ((fm : Nat) : Int) - (fm : Nat) = 0 := by omega
  have := (PL hD hB hU 37 fm (m_X5_clear c T) T (Nat.le_refl _) (by omega) (by omega) rfl rfl (by rw [h0]; exact o1) (by rw [hz]; exact o2) (by rw [hz]; exact o3)).2
  unfold m_X5_go
  rw [hpa, hfi]
  exact this
theorem m_FB {us : Nat → Int32} {es : Nat → Option Nat} {evf : Nat → ER} {fm : Nat} (x y : CR × SR) : ∃ F B : Nat → CR × SR, (∀ i, F i = (FB us es evf fm x y (i - fm)).1) ∧ ∀ i, B i = (FB us es evf fm x y (i - fm)).2 := ⟨_, _, fun _ => rfl, fun _ => rfl⟩
set_option maxHeartbeats 2000000 in
/-- reckon, against the component's walk -/
theorem RK {T : TR} {a fm : Nat} {pt : PR} {us : Nat → Int32} {es : Nat → Option Nat} {evf : Nat → ER} {c : MR} (hD : DR (M_ev c) T a fm pt us es evf) (cf : CR) (tf : SR) (cb : CR) (tb : SR) {U : Nat} (hU : U ≤ 35) (hf : fm ≤ U) : ((m_X5_reckon c T (nI a) (nI U)).1 = 1 ∧ C_br (m_X4_follow pt us es evf cf tf cb tb (nI U)).1 = 0 ∧ RC (P_me pt) (P_ra pt) (m_X4_follow pt us es evf cf tf cb tb (nI U)).1 (m_X5_reckon c T (nI a) (nI U)).2.1 ∧ NC 36 36 (m_X5_reckon c T (nI a) (nI U)).2.1) ∨ ((m_X5_reckon c T (nI a) (nI U)).1 = 0 ∧ C_br (m_X4_follow pt us es evf cf tf cb tb (nI U)).1 = 1) := by
  have hpa : Int32.toNatClampNeg (nI a) = a := nI_clamp (by have := hD.1.1; omega)
  obtain ⟨F, B, hFd, hBd⟩ := m_FB (us := us) (es := es) (evf := evf) (fm := fm) (m_X0_open cf tf pt) (m_X0_open cb tb pt)
  have hf35 : fm ≤ 35 := by omega
  have hP := PL0 hD cf tf cb tb (U := 35) (Nat.le_refl _) hf35 hBd
  rw [FO hD.1.2.2 cf tf cb tb hU hf, ← hFd, ← hBd]
  show ((m_X5_reckon c T (nI a) (nI U)).1 = 1 ∧ C_br (F (U + 1)).1 = 0 ∧ RC (P_me pt) (P_ra pt) (F (U + 1)).1 (m_X5_reckon c T (nI a) (nI U)).2.1 ∧ NC 36 36 (m_X5_reckon c T (nI a) (nI U)).2.1) ∨ ((m_X5_reckon c T (nI a) (nI U)).1 = 0 ∧ C_br (F (U + 1)).1 = 1)
  unfold m_X5_reckon m_X5_reckon_0 m_X5_reckon_1
  obtain ⟨-, -, -, g4, g5⟩ := f0_X5_reckon_h c T (nI a) (nI U)
  have gb : M_bd (f0_X5_reckon c T (nI a) (nI U)).1 = (m_X5_go c T (nI a) (nI 35) 1).1 := rfl
  have gT : (f0_X5_reckon c T (nI a) (nI U)).2 = (m_X5_go c T (nI a) (nI 35) 1).2.2 := rfl
  generalize (f0_X5_reckon c T (nI a) (nI U)).1 = c1 at *
  generalize (f0_X5_reckon c T (nI a) (nI U)).2 = T1 at *
  rw [← gb, ← gT] at hP
  have hD1 : DR (M_ev c1) T1 a fm pt us es evf := by rw [g4]; exact DR_cg g5 hD
  obtain ⟨o1, o2, o3⟩ := OP (T' := T1) hD1 cf tf
  have hB : ∀ i, fm ≤ i → i < 36 → B (i + 1) = B_s us es evf i (B i) := fun i h1 _ => by
    rw [hBd, hBd, FB_s _ _ _ _ _ _ h1]
  obtain ⟨mr, hmr⟩ : ∃ mr : Nat → Int64, ∀ i, mr i = m_X0_bookOrNone (B i).1 (B i).2 := ⟨_, fun _ => rfl⟩
  have hF : ∀ i, fm ≤ i → i < 36 → F (i + 1) = F_s us es evf i (mr i) (F i) := fun i h1 _ => by
    rw [hFd, hFd, hmr, hBd, FB_s _ _ _ _ _ _ h1]
  have h4 : ∀ i e, fm ≤ i → i < 36 → es i = some e → E_ki (evf e) = 4 → (M_bd c1 ≤ nI i ∧ mr i = -1) ∨ (¬ M_bd c1 ≤ nI i ∧ mr i = T_bf T1 i) := by
    intro i e h1 h2 he h9
    have ok : OKB es evf B T1 i → mr i = T_bf T1 i := fun q => by
      obtain ⟨q1, q2, -⟩ := q
      rw [q2 (Or.inr ⟨e, he, Or.inr h9⟩), hmr]
      exact bn_0 q1
    rcases hP with ⟨p1, p2⟩ | ⟨b, p1, p2, p3, p4, p5, e', p6, p7, p8⟩
    · refine Or.inr ⟨?_, ok (p2 i h1 (by omega))⟩
      rw [p1, show (36 : Int32) = nI 36 from rfl, nI_leI (by omega) (by omega)]
      omega
    · rw [p1]
      rcases Nat.lt_trichotomy i b with q | q | q
      · refine Or.inr ⟨?_, ok (p4 i h1 q)⟩
        rw [nI_leI (by omega) (by omega)]
        omega
      · subst q
        rw [he] at p6
        have : e = e' := Option.some.inj p6
        subst this
        exact absurd h9 p8
      · refine Or.inl ⟨nI_le (by omega) (by omega), ?_⟩
        rw [hmr]
        refine bn_1 ?_
        have := br_BB hB (k := b + 1) (by omega) p5 (i - (b + 1)) (by omega)
        rw [show b + 1 + (i - (b + 1)) = i by omega] at this
        exact this
  have h0 : F fm = m_X0_open cf tf pt := by
    rw [hFd, Nat.sub_self]
    rfl
  have hz : ((fm : Nat) : Int) - (fm : Nat) = 0 := by omega
  have hfi : T_fi T1 a = nI fm := by rw [← hD1.2.1.2.2.1, hD1.1.2.2]
  have := FU hD1 hF h4 hU hf 37 fm (m_X5_clear c1 T1) (Nat.le_refl _) (by omega) (by omega) rfl rfl (by rw [h0]; exact o1) (by rw [hz]; exact o2) (by rw [hz]; exact o3)
  have eg : m_X5_go c1 T1 (nI a) (nI U) 0 = m_X5_go_l (nI a) (nI U) 0 37 (m_X5_clear c1 T1) T1 (nI fm) := by
    unfold m_X5_go
    rw [hpa, hfi]
  rw [eg]
  rcases this with ⟨q1, q2, q3⟩ | ⟨q1, q2⟩
  · rw [if_pos q1]
    exact Or.inl ⟨rfl, q2.2.2.2.1.1, q2, q3⟩
  · rw [if_neg q1]
    exact Or.inr ⟨rfl, q2⟩
set_option maxHeartbeats 2000000 in
/-- the plain walk, against the bare course -/
theorem WO {T : TR} {a fm : Nat} {pt : PR} {us : Nat → Int32} {es : Nat → Option Nat} {evf : Nat → ER} {c : MR} (hD : DR (M_ev c) T a fm pt us es evf) (cf : CR) (tf : SR) (cb : CR) (tb : SR) {U : Nat} (hU : U ≤ 35) (hf : fm ≤ U) : ((m_X5_go c T (nI a) (nI U) 1).1 = 36 ∧ C_br (m_X4_follow pt us es evf cf tf cb tb (nI U)).2.2.1 = 0 ∧ T_bh (m_X5_go c T (nI a) (nI U) 1).2.2 U = m_X0_book (m_X4_follow pt us es evf cf tf cb tb (nI U)).2.2.1 (m_X4_follow pt us es evf cf tf cb tb (nI U)).2.2.2) ∨ ∃ b, (m_X5_go c T (nI a) (nI U) 1).1 = nI b ∧ b ≤ U ∧ C_br (m_X4_follow pt us es evf cf tf cb tb (nI U)).2.2.1 = 1 := by
  obtain ⟨F, B, hFd, hBd⟩ := m_FB (us := us) (es := es) (evf := evf) (fm := fm) (m_X0_open cf tf pt) (m_X0_open cb tb pt)
  have hP := PL0 hD cf tf cb tb hU hf hBd
  rw [FO hD.1.2.2 cf tf cb tb hU hf, ← hFd, ← hBd]
  show ((m_X5_go c T (nI a) (nI U) 1).1 = 36 ∧ C_br (B (U + 1)).1 = 0 ∧ T_bh (m_X5_go c T (nI a) (nI U) 1).2.2 U = m_X0_book (B (U + 1)).1 (B (U + 1)).2) ∨ ∃ b, (m_X5_go c T (nI a) (nI U) 1).1 = nI b ∧ b ≤ U ∧ C_br (B (U + 1)).1 = 1
  have hB : ∀ i, fm ≤ i → i < 36 → B (i + 1) = B_s us es evf i (B i) := fun i h1 _ => by
    rw [hBd, hBd, FB_s _ _ _ _ _ _ h1]
  rcases hP with ⟨p1, p2⟩ | ⟨b, p1, p2, p3, p4, p5, -⟩
  · obtain ⟨-, -, q3, q4⟩ := p2 U hf (Nat.le_refl _)
    exact Or.inl ⟨p1, q4, q3⟩
  · refine Or.inr ⟨b, p1, p3, ?_⟩
    have := br_BB hB (k := b + 1) (by omega) p5 (U - b) (by omega)
    rw [show b + 1 + (U - b) = U + 1 by omega] at this
    exact this

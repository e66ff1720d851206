set_option maxHeartbeats 2000000 in
theorem ag_without {G : pw_G} {L : List Nat} {F : Nat → va_E} {ar : AR} {pr er : Nat → Option Nat} {D : pw_D} {evf : Nat → ER} {c : MR} {T : TR} {NP NE NM : Nat} (h : LI G L F ar pr er D evf c T NP NE NM) (cf : CR) (tf : SR) (cb : CR) (tb : SR) (i mm : Int32) : ∃ a, PAT G L F ar pr er D evf NP cf tf cb tb i a ∧ ((m_X4_without ar pr er cf tf cb tb (dT D a) (dus D a) (des D a) evf i mm).1 = 0 ∨ (m_X4_without ar pr er cf tf cb tb (dT D a) (dus D a) (des D a) evf i mm).1 = 1) ∧ M_cd (m_X5_without c T i mm).2.1 = (m_X4_without ar pr er cf tf cb tb (dT D a) (dus D a) (des D a) evf i mm).1 ∧ ((m_X4_without ar pr er cf tf cb tb (dT D a) (dus D a) (des D a) evf i mm).1 = 0 → (m_X4_without ar pr er cf tf cb tb (dT D a) (dus D a) (des D a) evf i mm).2.1 = (m_X5_without c T i mm).1) ∧ M_nc (m_X5_without c T i mm).2.1 = M_nc c ∧ T_st (m_X5_without c T i mm).2.2 = T_st T := by
  rcases (LI_part h cf tf cb tb i).symm with ⟨hp, hq⟩ | ⟨a, ha, hi, hp, hq⟩
  · refine ⟨0, pat_0 hp, ?_⟩
    unfold m_X4_without m_X4_without_0 m_X5_without m_X5_without_0 m_X5_without_1 f0_X5_without
    rw [hp, hq, if_pos rfl]
    show (((1 : Int32) = 0 ∨ (1 : Int32) = 1) ∧ _)
    rw [if_neg (show ¬ M_cd (M_mk 1 (M_pt c) (M_mn c) (M_ev c) (M_co c) (M_al c) (M_re c) (M_lo c) (M_rs c) (M_li c) (M_he c) (M_go c) (M_sp c) (M_ba c) (M_le c) (M_lf c) (M_mo c) (M_un c) (M_ch c) (M_lc c) (M_ac c) (M_bd c)) ≤ 0 by rw [M_cd_mk]; decide)]
    exact ⟨Or.inr rfl, M_cd_mk .., fun z => absurd (show (1 : Int32) = 0 from z) (by decide), rfl, rfl⟩
  have hq1 : ¬ m_X5_isPart c T i = 0 := by rw [hq]; decide
  refine ⟨a, pat_1 h ha hi hp, ?_⟩
  by_cases g1 : m_X5_isMonth mm = 0
  · unfold m_X4_without m_X4_without_0 m_X5_without m_X5_without_0 m_X5_without_1 f0_X5_without
    rw [hp, if_neg hq1, if_pos g1]
    rw [month_eq, if_pos g1, if_neg (show ¬ M_cd (M_mk 1 (M_pt c) (M_mn c) (M_ev c) (M_co c) (M_al c) (M_re c) (M_lo c) (M_rs c) (M_li c) (M_he c) (M_go c) (M_sp c) (M_ba c) (M_le c) (M_lf c) (M_mo c) (M_un c) (M_ch c) (M_lc c) (M_ac c) (M_bd c)) ≤ 0 by rw [M_cd_mk]; decide)]
    exact ⟨Or.inr rfl, M_cd_mk .., fun z => absurd (show (1 : Int32) = 0 from z) (by decide), rfl, rfl⟩
  obtain ⟨U, hU, hm⟩ := isMonth_in g1
  have hc1 : M_nc (M_mk 0 (M_pt c) (M_mn c) (M_ev c) (M_co c) (M_al c) (M_re c) (M_lo c) (M_rs c) (M_li c) (M_he c) (M_go c) (M_sp c) (M_ba c) (M_le c) (M_lf c) (M_mo c) (M_un c) (M_ch c) (M_lc c) (M_ac c) (M_bd c)) = M_nc c := rfl
  have hcd : M_cd (M_mk 0 (M_pt c) (M_mn c) (M_ev c) (M_co c) (M_al c) (M_re c) (M_lo c) (M_rs c) (M_li c) (M_he c) (M_go c) (M_sp c) (M_ba c) (M_le c) (M_lf c) (M_mo c) (M_un c) (M_ch c) (M_lc c) (M_ac c) (M_bd c)) ≤ 0 := by rw [M_cd_mk]; decide
  obtain ⟨fm, hD⟩ := LI_DR h ha
  have hev : M_ev (M_mk 0 (M_pt c) (M_mn c) (M_ev c) (M_co c) (M_al c) (M_re c) (M_lo c) (M_rs c) (M_li c) (M_he c) (M_go c) (M_sp c) (M_ba c) (M_le c) (M_lf c) (M_mo c) (M_un c) (M_ch c) (M_lc c) (M_ac c) (M_bd c)) = nI NE := by rw [M_ev_mk]; exact h.1.2.1.2
  rw [← hev] at hD
  have k5 : T_st (m_X5_go (M_mk 0 (M_pt c) (M_mn c) (M_ev c) (M_co c) (M_al c) (M_re c) (M_lo c) (M_rs c) (M_li c) (M_he c) (M_go c) (M_sp c) (M_ba c) (M_le c) (M_lf c) (M_mo c) (M_un c) (M_ch c) (M_lc c) (M_ac c) (M_bd c)) T i mm 1).2.2 = T_st T := go_st ..
  have k7 : M_fr (m_X5_go (M_mk 0 (M_pt c) (M_mn c) (M_ev c) (M_co c) (M_al c) (M_re c) (M_lo c) (M_rs c) (M_li c) (M_he c) (M_go c) (M_sp c) (M_ba c) (M_le c) (M_lf c) (M_mo c) (M_un c) (M_ch c) (M_lc c) (M_ac c) (M_bd c)) T i mm 1).2.1 = M_fr (M_mk 0 (M_pt c) (M_mn c) (M_ev c) (M_co c) (M_al c) (M_re c) (M_lo c) (M_rs c) (M_li c) (M_he c) (M_go c) (M_sp c) (M_ba c) (M_le c) (M_lf c) (M_mo c) (M_un c) (M_ch c) (M_lc c) (M_ac c) (M_bd c)) := go_fr ..
  have k6 : M_nc (m_X5_go (M_mk 0 (M_pt c) (M_mn c) (M_ev c) (M_co c) (M_al c) (M_re c) (M_lo c) (M_rs c) (M_li c) (M_he c) (M_go c) (M_sp c) (M_ba c) (M_le c) (M_lf c) (M_mo c) (M_un c) (M_ch c) (M_lc c) (M_ac c) (M_bd c)) T i mm 1).2.1 = M_nc c := by
    unfold M_nc
    rw [fr_pt k7, fr_mn k7, fr_ev k7, M_pt_mk, M_mn_mk, M_ev_mk]
  have k1 : M_cd (m_X5_go (M_mk 0 (M_pt c) (M_mn c) (M_ev c) (M_co c) (M_al c) (M_re c) (M_lo c) (M_rs c) (M_li c) (M_he c) (M_go c) (M_sp c) (M_ba c) (M_le c) (M_lf c) (M_mo c) (M_un c) (M_ch c) (M_lc c) (M_ac c) (M_bd c)) T i mm 1).2.1 = 0 := by rw [fr_cd k7, M_cd_mk]
  have p1 := hD.1.2.2
  have hf35 := hD.1.2.1
  have hpa : Int32.toNatClampNeg (nI a) = a := nI_clamp (by have := hD.1.1; omega)
  have hfi : T_fi T a = nI fm := by rw [← hD.2.1.2.2.1, hD.1.2.2]
  have hfi2 : T_fi (m_X5_go (M_mk 0 (M_pt c) (M_mn c) (M_ev c) (M_co c) (M_al c) (M_re c) (M_lo c) (M_rs c) (M_li c) (M_he c) (M_go c) (M_sp c) (M_ba c) (M_le c) (M_lf c) (M_mo c) (M_un c) (M_ch c) (M_lc c) (M_ac c) (M_bd c)) T i mm 1).2.2 (Int32.toNatClampNeg i) = nI fm := by rw [hi, hpa, ← hi, st_fi k5]; exact hfi
  unfold m_X4_without m_X4_without_0 m_X5_without m_X5_without_0 m_X5_without_1 f0_X5_without
  rw [hp, if_neg hq1, if_neg g1, if_pos hcd]
  rw [month_eq, if_neg g1, hfi2]
  by_cases g2 : P_fi (dT D a) ≤ mm
  · rw [if_pos g2]
    rw [p1] at g2
    have g3 := g2
    rw [hm, nI_leI (by omega) (by omega)] at g3
    have hW := WO hD cf tf cb tb (U := U) (by omega) g3
    rw [← hi, ← hm] at hW
    rcases hW with ⟨q1, q2, q3⟩ | ⟨b, q1, q2, q3⟩
    · rw [if_pos (by rw [q1, hm]; exact nI_lt hU (by decide)), if_pos g2]
      refine ⟨Or.inl rfl, k1, fun _ => ?_, k6, k5⟩
      show m_X0_bookOrNone _ _ = T_bh (m_X5_go (M_mk 0 (M_pt c) (M_mn c) (M_ev c) (M_co c) (M_al c) (M_re c) (M_lo c) (M_rs c) (M_li c) (M_he c) (M_go c) (M_sp c) (M_ba c) (M_le c) (M_lf c) (M_mo c) (M_un c) (M_ch c) (M_lc c) (M_ac c) (M_bd c)) T i mm 1).2.2 (Int32.toNatClampNeg mm)
      rw [bn_0 q2, hm, nI_clamp (by omega), ← hm]
      exact q3.symm
    · rw [if_neg (by rw [q1, hm]; exact nI_nlt q2 (by omega))]
      refine ⟨Or.inl rfl, k1, fun _ => ?_, k6, k5⟩
      show m_X0_bookOrNone _ _ = -1
      exact bn_1 q3
  · rw [if_neg g2]
    rw [p1] at g2
    have g3 := g2
    rw [hm, nI_leI (by omega) (by omega)] at g3
    have e36 : (m_X5_go (M_mk 0 (M_pt c) (M_mn c) (M_ev c) (M_co c) (M_al c) (M_re c) (M_lo c) (M_rs c) (M_li c) (M_he c) (M_go c) (M_sp c) (M_ba c) (M_le c) (M_lf c) (M_mo c) (M_un c) (M_ch c) (M_lc c) (M_ac c) (M_bd c)) T i mm 1).1 = 36 := by
      unfold m_X5_go
      rw [hi, hpa, hfi, hm, go_1 (nI_lt (by omega) (by omega))]
    rw [if_pos (by rw [e36, hm]; exact nI_lt hU (by decide)), if_neg g2]
    exact ⟨Or.inl rfl, k1, fun _ => rfl, k6, k5⟩
theorem LI_event {G : pw_G} {L : List Nat} {F : Nat → va_E} {ar : AR} {pr er : Nat → Option Nat} {D : pw_D} {evf : Nat → ER} {c : MR} {T : TR} {NP NE NM : Nat} (h : LI G L F ar pr er D evf c T NP NE NM) (cf : CR) (tf : SR) (cb : CR) (tb : SR) (e : Int32) : (∃ i ad a j, i < NE ∧ e = nI i ∧ m_X4_eventOf ar pr er cf tf cb tb e = some ad ∧ er i = some ad ∧ (ad ∈ L ∧ F ad = cE (evf ad)) ∧ a < NP ∧ j < 36 ∧ T_of T i = nI (a + 1) ∧ T_wh T i = nI j ∧ des D a j = some ad ∧ evf ad = E_mk (nI a) (nI j) (T_ki T i) (T_am T i) (T_nu T i) ∧ m_X5_isEvent c T e = 1) ∨ (m_X4_eventOf ar pr er cf tf cb tb e = none ∧ m_X5_isEvent c T e = 0) := by
  obtain ⟨⟨⟨r1, r2⟩, ⟨r3, r4⟩, -⟩, ⟨-, a2, -⟩, h3, h4, h5, h6, h7, -⟩ := h
  unfold m_X4_eventOf m_X5_isEvent
  rw [r4, a2]
  by_cases g : e < 0
  · rw [if_pos g, if_pos g]
    exact Or.inr ⟨rfl, rfl⟩
  · rw [if_neg g, if_neg g]
    by_cases g2 : nI NE ≤ e
    · rw [if_pos g2, if_pos g2]
      exact Or.inr ⟨rfl, rfl⟩
    · rw [if_neg g2, if_neg g2]
      obtain ⟨i, hi, rfl⟩ := nI_of g
      have hlt : i < NE := by
        rcases Nat.lt_or_ge i NE with q | q
        · exact q
        · exact absurd (nI_le q hi) g2
      rw [nI_clamp hi]
      obtain ⟨-, q | ⟨ad, a, j, g3, g4, g5, g6, g7, g8, g9, g10⟩⟩ := h7 i hlt
      · rw [q.1, q.2, if_pos (by decide)]
        exact Or.inr ⟨rfl, rfl⟩
      · refine Or.inl ⟨i, ad, a, j, hlt, rfl, g3, g3, g4, g5, g6, g7, g8, g9, g10, ?_⟩
        rw [g7, if_neg (nI_nle (by omega) (by omega))]
/-- told -/
theorem ag_told {G : pw_G} {L : List Nat} {F : Nat → va_E} {ar : AR} {pr er : Nat → Option Nat} {D : pw_D} {evf : Nat → ER} {c : MR} {T : TR} {NP NE NM : Nat} (h : LI G L F ar pr er D evf c T NP NE NM) (cf : CR) (tf : SR) (cb : CR) (tb : SR) (e wh : Int32) : (∀ a, m_X4_eventOf ar pr er cf tf cb tb e = some a → (a ∈ L ∧ F a = cE (evf a)) ∧ vp_in (E_mo (evf a)) 36 ∧ vp_in e 40) ∧ m_X4_told ar pr er cf tf cb tb evf e wh = (m_X5_told c T e wh).1 ∧ M_nc (m_X5_told c T e wh).2 = M_nc c := by
  have hne : NE ≤ 40 := h.1.2.1.1
  have e0 : ∀ x, m_X5_isEvent (f0_X5_told c T e wh) T x = m_X5_isEvent c T x := fun x => rfl
  have n0 : M_nc (f0_X5_told c T e wh) = M_nc c := rfl
  rcases LI_event h cf tf cb tb e with ⟨i, ad, a, j, g1, g2, g3, g4, g5, g6, g7, g8, g9, g10, g11, g12⟩ | ⟨g1, g2⟩
  · refine ⟨fun x hx => ?_, ?_⟩
    · rw [g3] at hx
      have : ad = x := Option.some.inj hx
      subst this
      refine ⟨g5, ?_, ?_⟩
      · rw [g11, E_mo_mk]
        exact vp_in_nI g7 (by decide)
      · rw [g2]
        exact vp_in_nI (by omega) (by decide)
    · unfold m_X4_told m_X4_told_0 m_X5_told m_X5_told_0 m_X5_told_1
      rw [g3]
      show (if wh = 0 then E_pn (evf ad) else if wh = 1 then E_mo (evf ad) else if wh = 2 then E_ki (evf ad) else if wh = 3 then E_nu (evf ad) else -1) = _ ∧ _
      rw [e0, if_neg (show ¬ m_X5_isEvent c T e = 0 by rw [g12]; decide), g11, E_pn_mk, E_mo_mk, E_ki_mk, E_nu_mk, g2, nI_clamp (by omega), g8, g9, nI_pred]
      by_cases w : wh < 0
      · have w' := w
        rw [Int32.lt_iff_toInt_lt, i32_0] at w'
        have w3 : ∀ z : Int32, 0 ≤ z.toInt → ¬ wh = z := fun z hz q => by rw [q] at w'; omega
        rw [if_pos w, if_neg (w3 0 (by decide)), if_neg (w3 1 (by decide)), if_neg (w3 2 (by decide)), if_neg (w3 3 (by decide))]
        exact ⟨rfl, n0⟩
      · rw [if_neg w]
        by_cases y : wh ≤ 3
        · rw [if_pos y]
          by_cases w0 : wh = 0
          · rw [if_pos w0, if_pos w0]; exact ⟨rfl, n0⟩
          · rw [if_neg w0, if_neg w0]
            by_cases w1 : wh = 1
            · rw [if_pos w1, if_pos w1]; exact ⟨rfl, n0⟩
            · rw [if_neg w1, if_neg w1]
              by_cases w2 : wh = 2
              · rw [if_pos w2, if_pos w2]; exact ⟨rfl, n0⟩
              · rw [if_neg w2, if_neg w2]
                have w3 : wh = 3 := by
                  have q0 : ¬ wh.toInt = 0 := fun z => w0 (i32_eq (by rw [z]; rfl))
                  have q1 : ¬ wh.toInt = 1 := fun z => w1 (i32_eq (by rw [z]; rfl))
                  have q2 : ¬ wh.toInt = 2 := fun z => w2 (i32_eq (by rw [z]; rfl))
                  have c3 : (3 : Int32).toInt = 3 := rfl
                  rw [Int32.lt_iff_toInt_lt, i32_0] at w
                  rw [Int32.le_iff_toInt_le, c3] at y
                  exact i32_eq (by rw [c3]; omega)
                rw [if_pos w3]; exact ⟨rfl, n0⟩
        · have y' := y
          have c3 : (3 : Int32).toInt = 3 := rfl
          rw [Int32.le_iff_toInt_le, c3] at y'
          have w3 : ∀ z : Int32, z.toInt ≤ 3 → ¬ wh = z := fun z hz q => by rw [q] at y'; omega
          rw [if_neg y, if_neg (w3 0 (by decide)), if_neg (w3 1 (by decide)), if_neg (w3 2 (by decide)), if_neg (w3 3 (by decide))]
          exact ⟨rfl, n0⟩
  · refine ⟨fun x hx => absurd hx (by rw [g1]; exact fun z => nomatch z), ?_⟩
    unfold m_X4_told m_X4_told_0 m_X5_told m_X5_told_0 m_X5_told_1
    rw [g1, e0, if_pos g2]
    exact ⟨rfl, n0⟩

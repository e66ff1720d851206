theorem upd_tw (f : Nat → Int32) (i : Nat) (x y : Int32) : upd (upd f i x) i y = upd f i y := by
  funext k
  by_cases e : k = i
  · rw [e, pk_us, pk_us]
  · rw [pk_un e, pk_un e, pk_un e]
theorem upd_sm {f : Nat → Int32} {i : Nat} {x : Int32} (h : f i = x) : upd f i x = f := by
  funext k
  by_cases e : k = i
  · rw [e, pk_us, h]
  · rw [pk_un e]
/-- a breach doesn't hang on what the courses held before -/
theorem NBall {ev : Int32} {T : TR} {a fm : Nat} {pt : PR} {us : Nat → Int32} {es : Nat → Option Nat} {evf : Nat → ER} (hD : DR ev T a fm pt us es evf) {cf : CR} {tf : SR} {cb : CR} {tb : SR} (h : C_br (m_X4_follow pt us es evf cf tf cb tb (nI 35)).1 = 0) (cf' : CR) (tf' : SR) (cb' : CR) (tb' : SR) : C_br (m_X4_follow pt us es evf cf' tf' cb' tb' (nI 35)).1 = 0 := by
  have hD' : DR (M_ev (M_mk 0 0 0 ev 0 0 0 0 0 0 0 0 0 0 0 0 0 0 0 0 0 0)) T a fm pt us es evf := hD
  rcases RK hD' cf tf cb tb (U := 35) (Nat.le_refl _) hD.1.2.1 with ⟨q1, -, -, -⟩ | ⟨-, q2⟩
  · rcases RK hD' cf' tf' cb' tb' (U := 35) (Nat.le_refl _) hD.1.2.1 with ⟨-, r2, -, -⟩ | ⟨r1, -⟩
    · exact r2
    · rw [q1] at r1
      exact absurd r1 (by decide)
  · rw [h] at q2
    exact absurd q2 (by decide)
def dsU (D : pw_D) (a : Nat) (us' : Nat → Int32) : pw_D := (D.1, D.2.1, D.2.2.1, D.2.2.2.1, D.2.2.2.2.1, va_up D.2.2.2.2.2.1 a us', D.2.2.2.2.2.2.1, D.2.2.2.2.2.2.2)
theorem dsU_s (D : pw_D) (a : Nat) (us' : Nat → Int32) : dus (dsU D a us') a = us' := va_up_self ..
theorem dsU_n (D : pw_D) {a b : Nat} (us' : Nat → Int32) (h : b ≠ a) : dus (dsU D a us') b = dus D b := va_up_ne _ _ h
theorem us_5 {G : pw_G} {L : List Nat} {F : Nat → va_E} {ar : AR} {pr er : Nat → Option Nat} {D : pw_D} {evf : Nat → ER} {c : MR} {T : TR} {NP NE NM : Nat} (h : LI G L F ar pr er D evf c T NP NE NM) {a j : Nat} (ha : a < NP) (hj : j < 36) {my : Int32} (hmy : 0 ≤ my.toInt ∧ my.toInt ≤ 1000000) : ∀ b, b < NP → PRM (T_s_us T (upd (T_us T) (36 * a + j) my)) b (dT D b) (dus (dsU D a (upd (dus D a) j my)) b) := by
  intro b hb
  obtain ⟨p1, p2, p3, p4⟩ := h.2.2.2.2.1 b hb
  unfold PRM
  rw [T_cs_s_us, T_rs_s_us, T_fi_s_us, T_li_s_us, T_me_s_us, T_ra_s_us, T_us_s_us]
  refine ⟨p1, p2, p3, fun k hk => ?_⟩
  by_cases e : b = a
  · subst e
    rw [dsU_s]
    by_cases e2 : k = j
    · subst e2
      rw [pk_us, pk_us]
      exact ⟨rfl, hmy⟩
    · rw [pk_un e2, pk_un (by omega)]
      exact p4 k hk
  · rw [dsU_n _ _ e, pk_un (by omega)]
    exact p4 k hk
theorem us_7 {G : pw_G} {L : List Nat} {F : Nat → va_E} {ar : AR} {pr er : Nat → Option Nat} {D : pw_D} {evf : Nat → ER} {c : MR} {T : TR} {NP NE NM : Nat} (h : LI G L F ar pr er D evf c T NP NE NM) {a j : Nat} (ha : a < NP) (hj : j < 36) {my : Int32} (hmy : 0 ≤ my.toInt ∧ my.toInt ≤ 1000000) : ∀ i, i < NE → ERW L (va_up F (dU D a) (.inl (G.2.1, 36, .inl (upd (dus D a) j my)))) er (dsU D a (upd (dus D a) j my)) evf (T_s_us T (upd (T_us T) (36 * a + j) my)) NP i := by
  intro i hi
  obtain ⟨v, g⟩ := h.2.2.2.2.2.2.1 i hi
  unfold ERW
  rw [T_ki_s_us, T_am_s_us, T_nu_s_us, T_of_s_us, T_wh_s_us]
  refine ⟨v, ?_⟩
  rcases g with g | ⟨e, a', j', g1, g2, g3⟩
  · exact Or.inl g
  · exact Or.inr ⟨e, a', j', g1, pE_w g2 ((h.2.2.1 a ha).2.2.1.2), g3⟩
theorem LI_us {G : pw_G} {L : List Nat} {F : Nat → va_E} {ar : AR} {pr er : Nat → Option Nat} {D : pw_D} {evf : Nat → ER} {c : MR} {T : TR} {NP NE NM : Nat} (h : LI G L F ar pr er D evf c T NP NE NM) {a j : Nat} (ha : a < NP) (hj : j < 36) {my : Int32} (hmy : 0 ≤ my.toInt ∧ my.toInt ≤ 1000000) (hnb : ∀ cf tf cb tb, C_br (m_X4_follow (dT D a) (upd (dus D a) j my) (des D a) evf cf tf cb tb (nI 35)).1 = 0) : LI G L (va_up F (dU D a) (.inl (G.2.1, 36, .inl (upd (dus D a) j my)))) ar pr er (dsU D a (upd (dus D a) j my)) evf c (T_s_us T (upd (T_us T) (36 * a + j) my)) NP NE NM := by
  have h0 := h
  obtain ⟨h1, h2, h3, h4, h5, h6, h7, h8, h9, h10, h11, h12, h13⟩ := h
  refine ⟨?_, h2, ?_, h4, us_5 h0 ha hj hmy, ?_, us_7 h0 ha hj hmy, ?_, h9, ?_, ?_, ?_, ?_⟩
  · unfold RI at h1 ⊢
    rw [T_fi_s_us, T_li_s_us, T_ki_s_us, T_nu_s_us, T_of_s_us]
    exact h1
  · intro b hb
    refine ⟨(h3 b hb).1, ?_⟩
    show pA G L (va_up F (dU D a) (.inl (G.2.1, 36, .inl (upd (dus D a) j my)))) (dP D b) (dU D b) (dW D b) (dQ D b) (dT D b) (dus (dsU D a (upd (dus D a) j my)) b) (des D b) (dps D b) evf
    by_cases e : b = a
    · subst e
      rw [dsU_s]
      exact pA_us (h3 b hb).2 _
    · rw [dsU_n _ _ e]
      obtain ⟨⟨a1, a2⟩, ⟨b1, b2⟩, ⟨c1, c2⟩, ⟨d1, d2⟩, he⟩ := (h3 b hb).2
      have b9 := (h3 a ha).2.2.1.2
      refine ⟨⟨a1, ?_⟩, ⟨b1, ?_⟩, ⟨c1, ?_⟩, ⟨d1, ?_⟩, fun i hi x hx => pE_w (he i hi x hx) b9⟩
      · rw [va_up_ne _ _ (up_ne a2 b9 (by simp))]; exact a2
      · rw [va_up_ne _ _ (h4 b a hb ha e).2.1]; exact b2
      · rw [va_up_ne _ _ (up_ne c2 b9 (by simp))]; exact c2
      · rw [va_up_ne _ _ (up_ne d2 b9 (by simp))]; exact d2
  · intro b hb cf tf cb tb
    show C_br (m_X4_follow (dT D b) (dus (dsU D a (upd (dus D a) j my)) b) (des D b) evf cf tf cb tb (nI 35)).1 = 0
    by_cases e : b = a
    · subst e
      rw [dsU_s]
      exact hnb cf tf cb tb
    · rw [dsU_n _ _ e]
      exact h6 b hb cf tf cb tb
  · rw [T_of_s_us, T_wh_s_us]
    exact h8
  · rw [T_of_s_us]
    exact h10
  · rw [T_po_s_us]
    exact h11
  · rw [T_po_s_us]
    exact h12
  · intro b k hb1 hb2 hk
    rw [T_us_s_us, T_po_s_us, pk_un (by omega)]
    exact h13 b k hb1 hb2 hk
theorem st_back {T X : TR} {ix : Nat} {v : Int32} (hX : T_st X = T_st (T_s_us T (upd (T_us T) ix v))) : T_st (T_s_us X (upd (T_us X) ix (T_us T ix))) = T_st T := by
  have e : upd (T_us X) ix (T_us T ix) = T_us T := by rw [st_us hX, T_us_s_us, upd_tw, upd_sm rfl]
  unfold T_st
  rw [e, T_cs_s_us, T_rs_s_us, T_fi_s_us, T_li_s_us, T_me_s_us, T_ra_s_us, T_us_s_us, T_po_s_us, T_of_s_us, T_wh_s_us, T_ki_s_us, T_am_s_us, T_nu_s_us, st_cs hX, st_rs hX, st_fi hX, st_li9 hX, st_me hX, st_ra hX, st_po hX, st_of hX, st_wh hX, st_ki hX, st_am hX, st_nu hX, T_cs_s_us, T_rs_s_us, T_fi_s_us, T_li_s_us, T_me_s_us, T_ra_s_us, T_po_s_us, T_of_s_us, T_wh_s_us, T_ki_s_us, T_am_s_us, T_nu_s_us]
theorem up_back {F : Nat → va_E} {u : Nat} {x y : va_E} (h : F u = y) : va_up (va_up F u x) u y = F := by
  funext k
  by_cases e : k = u
  · subst e
    rw [va_up_self, h]
  · rw [va_up_ne _ _ e, va_up_ne _ _ e]
set_option maxHeartbeats 2000000 in
theorem ag_units {G : pw_G} {L : List Nat} {F : Nat → va_E} {ar : AR} {pr er : Nat → Option Nat} {D : pw_D} {evf : Nat → ER} {c : MR} {T : TR} {NP NE NM : Nat} (h : LI G L F ar pr er D evf c T NP NE NM) (cf : CR) (tf : SR) (cb : CR) (tb : SR) (i mm my : Int32) : ∃ a, PAT G L F ar pr er D evf NP cf tf cb tb i a ∧ ((m_X4_units ar pr er cf tf cb tb F G (dU D a) (dT D a) (dus D a) (des D a) evf i mm my).1 = 0 ∨ (m_X4_units ar pr er cf tf cb tb F G (dU D a) (dT D a) (dus D a) (des D a) evf i mm my).1 = 1 ∨ (m_X4_units ar pr er cf tf cb tb F G (dU D a) (dT D a) (dus D a) (des D a) evf i mm my).1 = 2) ∧ M_cd (m_X5_units c T i mm my).2.1 = (m_X4_units ar pr er cf tf cb tb F G (dU D a) (dT D a) (dus D a) (des D a) evf i mm my).1 ∧ ((m_X4_units ar pr er cf tf cb tb F G (dU D a) (dT D a) (dus D a) (des D a) evf i mm my).1 = 0 → (m_X4_units ar pr er cf tf cb tb F G (dU D a) (dT D a) (dus D a) (des D a) evf i mm my).2.1 = (m_X5_units c T i mm my).1) ∧ ∃ D', LI G L (m_X4_units ar pr er cf tf cb tb F G (dU D a) (dT D a) (dus D a) (des D a) evf i mm my).2.2.2.2.2.2 ar pr er D' evf (m_X5_units c T i mm my).2.1 (m_X5_units c T i mm my).2.2 NP NE NM := by
  have hbad : LI G L F ar pr er D evf (M_mk 1 (M_pt c) (M_mn c) (M_ev c) (M_co c) (M_al c) (M_re c) (M_lo c) (M_rs c) (M_li c) (M_he c) (M_go c) (M_sp c) (M_ba c) (M_le c) (M_lf c) (M_mo c) (M_un c) (M_ch c) (M_lc c) (M_ac c) (M_bd c)) T NP NE NM := LI_mv h rfl rfl
  rcases (LI_part h cf tf cb tb i).symm with ⟨hp, hq⟩ | ⟨a, ha, hi, hp, hq⟩
  · refine ⟨0, pat_0 hp, ?_⟩
    unfold m_X4_units m_X4_units_0 m_X5_units m_X5_units_0 m_X5_units_1 f0_X5_units
    rw [hp, hq, if_pos rfl]
    rw [if_neg (show ¬ M_cd (M_mk 1 (M_pt c) (M_mn c) (M_ev c) (M_co c) (M_al c) (M_re c) (M_lo c) (M_rs c) (M_li c) (M_he c) (M_go c) (M_sp c) (M_ba c) (M_le c) (M_lf c) (M_mo c) (M_un c) (M_ch c) (M_lc c) (M_ac c) (M_bd c)) ≤ 0 by rw [M_cd_mk]; decide)]
    exact ⟨Or.inr (Or.inl rfl), M_cd_mk .., fun z => absurd (show (1 : Int32) = 0 from z) (by decide), D, hbad⟩
  have hq1 : ¬ m_X5_isPart c T i = 0 := by rw [hq]; decide
  refine ⟨a, pat_1 h ha hi hp, ?_⟩
  by_cases g1 : m_X5_isMonth mm = 0
  · unfold m_X4_units m_X4_units_0 m_X5_units m_X5_units_0 m_X5_units_1 f0_X5_units
    rw [hp, if_neg hq1, if_pos g1, month_eq, if_pos g1, if_neg (show ¬ M_cd (M_mk 1 (M_pt c) (M_mn c) (M_ev c) (M_co c) (M_al c) (M_re c) (M_lo c) (M_rs c) (M_li c) (M_he c) (M_go c) (M_sp c) (M_ba c) (M_le c) (M_lf c) (M_mo c) (M_un c) (M_ch c) (M_lc c) (M_ac c) (M_bd c)) ≤ 0 by rw [M_cd_mk]; decide)]
    exact ⟨Or.inr (Or.inl rfl), M_cd_mk .., fun z => absurd (show (1 : Int32) = 0 from z) (by decide), D, hbad⟩
  by_cases g2 : m_X5_isIn (Int32.toInt64 my) 0 1000000 = 0
  · unfold m_X4_units m_X4_units_0 m_X5_units m_X5_units_0 m_X5_units_1 f0_X5_units
    rw [hp, if_neg hq1, if_neg g1, if_pos g2, month_eq, if_neg g1, within_eq, if_pos g2, if_neg (show ¬ M_cd (M_mk 1 (M_pt c) (M_mn c) (M_ev c) (M_co c) (M_al c) (M_re c) (M_lo c) (M_rs c) (M_li c) (M_he c) (M_go c) (M_sp c) (M_ba c) (M_le c) (M_lf c) (M_mo c) (M_un c) (M_ch c) (M_lc c) (M_ac c) (M_bd c)) ≤ 0 by rw [M_cd_mk]; decide)]
    exact ⟨Or.inr (Or.inl rfl), M_cd_mk .., fun z => absurd (show (1 : Int32) = 0 from z) (by decide), D, hbad⟩
  obtain ⟨j, hj, hm⟩ := isMonth_in g1
  have hmy : 0 ≤ my.toInt ∧ my.toInt ≤ 1000000 := by
    obtain ⟨y1, y2⟩ := isIn_in g2
    rw [Int64.le_iff_toInt_le, Int32.toInt_toInt64] at y1 y2
    exact ⟨y1, y2⟩
  have hN6 : NP ≤ 6 := h.1.1.1
  have hcd : M_cd (M_mk 0 (M_pt c) (M_mn c) (M_ev c) (M_co c) (M_al c) (M_re c) (M_lo c) (M_rs c) (M_li c) (M_he c) (M_go c) (M_sp c) (M_ba c) (M_le c) (M_lf c) (M_mo c) (M_un c) (M_ch c) (M_lc c) (M_ac c) (M_bd c)) ≤ 0 := by rw [M_cd_mk]; decide
  have hnc : M_nc (M_mk 0 (M_pt c) (M_mn c) (M_ev c) (M_co c) (M_al c) (M_re c) (M_lo c) (M_rs c) (M_li c) (M_he c) (M_go c) (M_sp c) (M_ba c) (M_le c) (M_lf c) (M_mo c) (M_un c) (M_ch c) (M_lc c) (M_ac c) (M_bd c)) = M_nc c := rfl
  have hev : M_ev (M_mk 0 (M_pt c) (M_mn c) (M_ev c) (M_co c) (M_al c) (M_re c) (M_lo c) (M_rs c) (M_li c) (M_he c) (M_go c) (M_sp c) (M_ba c) (M_le c) (M_lf c) (M_mo c) (M_un c) (M_ch c) (M_lc c) (M_ac c) (M_bd c)) = nI NE := by rw [M_ev_mk]; exact h.1.2.1.2
  have hix : Int32.toNatClampNeg (36 * i + mm) = 36 * a + j := by
    rw [hi, hm, show (36 : Int32) = nI 36 from rfl, pk_mul, nI_add]
    exact nI_clamp (by omega)
  have hjm : Int32.toNatClampNeg mm = j := by rw [hm]; exact nI_clamp (by omega)
  obtain ⟨fm, hD1⟩ := DRx (F := (va_up F (dU D a) (.inl (G.2.1, 36, .inl (upd (dus D a) j my))))) (D := (dsU D a (upd (dus D a) j my))) (T := (T_s_us T (upd (T_us T) (36 * a + j) my))) h.1.2.1.1 hN6 (us_5 h ha hj hmy) (us_7 h ha hj hmy) (by rw [T_of_s_us, T_wh_s_us]; exact h.2.2.2.2.2.2.2.1) h.2.2.2.2.2.2.2.2.1 ha
  have hD2 : DR (M_ev (M_mk 0 (M_pt c) (M_mn c) (M_ev c) (M_co c) (M_al c) (M_re c) (M_lo c) (M_rs c) (M_li c) (M_he c) (M_go c) (M_sp c) (M_ba c) (M_le c) (M_lf c) (M_mo c) (M_un c) (M_ch c) (M_lc c) (M_ac c) (M_bd c))) (T_s_us T (upd (T_us T) (36 * a + j) my)) a fm (dT D a) (upd (dus D a) j my) (des D a) evf := by
    rw [hev]
    have := hD1
    rw [dsU_s] at this
    exact this
  have hK := RK hD2 cf tf cb tb (U := 35) (Nat.le_refl _) hD2.1.2.1
  obtain ⟨-, -, -, -, k5⟩ := re_f4 (M_mk 0 (M_pt c) (M_mn c) (M_ev c) (M_co c) (M_al c) (M_re c) (M_lo c) (M_rs c) (M_li c) (M_he c) (M_go c) (M_sp c) (M_ba c) (M_le c) (M_lf c) (M_mo c) (M_un c) (M_ch c) (M_lc c) (M_ac c) (M_bd c)) (T_s_us T (upd (T_us T) (36 * a + j) my)) (nI a) (nI 35)
  have k6 := re_nc (M_mk 0 (M_pt c) (M_mn c) (M_ev c) (M_co c) (M_al c) (M_re c) (M_lo c) (M_rs c) (M_li c) (M_he c) (M_go c) (M_sp c) (M_ba c) (M_le c) (M_lf c) (M_mo c) (M_un c) (M_ch c) (M_lc c) (M_ac c) (M_bd c)) (T_s_us T (upd (T_us T) (36 * a + j) my)) (nI a) (nI 35)
  unfold m_X4_units m_X4_units_0 m_X5_units m_X5_units_0 m_X5_units_1 f0_X5_units
  rw [hp, if_neg hq1, if_neg g1, if_neg g2, month_eq, if_neg g1, within_eq, if_neg g2, if_pos hcd, hix, hjm, show (35 : Int32) = nI 35 from rfl, hi]
  rcases hK with ⟨q1, q2, -, -⟩ | ⟨q1, q2⟩
  · rw [if_neg (show ¬ (m_X5_reckon (M_mk 0 (M_pt c) (M_mn c) (M_ev c) (M_co c) (M_al c) (M_re c) (M_lo c) (M_rs c) (M_li c) (M_he c) (M_go c) (M_sp c) (M_ba c) (M_le c) (M_lf c) (M_mo c) (M_un c) (M_ch c) (M_lc c) (M_ac c) (M_bd c)) (T_s_us T (upd (T_us T) (36 * a + j) my)) (nI a) (nI 35)).1 = 0 by rw [q1]; decide), if_pos (show (m_X4_hasBreach ar pr er cf tf cb tb (dT D a) (upd (dus D a) j my) (des D a) evf).1 = 0 from q2)]
    refine ⟨Or.inl rfl, (re_f4 (M_mk 0 (M_pt c) (M_mn c) (M_ev c) (M_co c) (M_al c) (M_re c) (M_lo c) (M_rs c) (M_li c) (M_he c) (M_go c) (M_sp c) (M_ba c) (M_le c) (M_lf c) (M_mo c) (M_un c) (M_ch c) (M_lc c) (M_ac c) (M_bd c)) (T_s_us T (upd (T_us T) (36 * a + j) my)) (nI a) (nI 35)).1.trans (M_cd_mk ..), fun _ => ?_, (dsU D a (upd (dus D a) j my)), ?_⟩
    · exact ((h.2.2.2.2.1 a ha).2.2.2 j hj).1
    · exact LI_mv (LI_us h ha hj hmy (NBall hD2 q2)) (k6.trans hnc) k5
  · rw [if_pos q1, if_neg (show ¬ (m_X4_hasBreach ar pr er cf tf cb tb (dT D a) (upd (dus D a) j my) (des D a) evf).1 = 0 from fun z => absurd (q2.symm.trans z) (by decide))]
    refine ⟨Or.inr (Or.inr rfl), M_cd_mk .., fun z => absurd (show (2 : Int32) = 0 from z) (by decide), D, ?_⟩
    have hF : va_up (va_up F (dU D a) (.inl (G.2.1, 36, .inl (upd (dus D a) j my)))) (dU D a) (.inl (G.2.1, 36, .inl (upd (upd (dus D a) j my) j (dus D a j)))) = F := up_back (by rw [upd_tw, upd_sm rfl]; exact (h.2.2.1 a ha).2.2.1.2)
    show LI G L (va_up (va_up F (dU D a) (.inl (G.2.1, 36, .inl (upd (dus D a) j my)))) (dU D a) (.inl (G.2.1, 36, .inl (upd (upd (dus D a) j my) j (dus D a j))))) ar pr er D evf _ _ NP NE NM
    rw [hF]
    have e9 : ∀ X : MR, M_nc X = M_nc c → M_nc (M_mk 2 (M_pt X) (M_mn X) (M_ev X) (M_co X) (M_al X) (M_re X) (M_lo X) (M_rs X) (M_li X) (M_he X) (M_go X) (M_sp X) (M_ba X) (M_le X) (M_lf X) (M_mo X) (M_un X) (M_ch X) (M_lc X) (M_ac X) (M_bd X)) = M_nc c := fun X hX => hX
    exact LI_mv h (e9 _ (k6.trans hnc)) (st_back k5)

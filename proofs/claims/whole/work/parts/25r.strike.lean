set_option maxHeartbeats 2000000 in
theorem ag_strike {G : pw_G} {L : List Nat} {F : Nat → va_E} {ar : AR} {pr er : Nat → Option Nat} {D : pw_D} {evf : Nat → ER} {c : MR} {T : TR} {NP NE NM : Nat} (h : LI G L F ar pr er D evf c T NP NE NM) (cf : CR) (tf : SR) (cb : CR) (tb : SR) (e : Int32) : ∃ a, (∀ x, m_X4_eventOf ar pr er cf tf cb tb e = some x → (x ∈ L ∧ F x = cE (evf x)) ∧ vp_in (E_mo (evf x)) 36 ∧ vp_in e 40) ∧ (∀ x, m_X4_eventOf ar pr er cf tf cb tb e = some x → ∀ b, m_X4_partOf ar pr er cf tf cb tb (E_pn (evf x)) = some b → pA G L F b (dU D a) (dW D a) (dQ D a) (dT D a) (dus D a) (des D a) (dps D a) evf ∧ ∃ fm, fm ≤ 35 ∧ P_fi (dT D a) = nI fm) ∧ ((m_X4_strike ar pr er cf tf cb tb F G (dU D a) (dW D a) (dQ D a) (dT D a) (dus D a) (des D a) evf e).1 = 0 ∨ (m_X4_strike ar pr er cf tf cb tb F G (dU D a) (dW D a) (dQ D a) (dT D a) (dus D a) (des D a) evf e).1 = 1) ∧ (m_X4_strike ar pr er cf tf cb tb F G (dU D a) (dW D a) (dQ D a) (dT D a) (dus D a) (des D a) evf e).1 = (m_X5_strike c T e).1 ∧ ∃ D', LI G L (m_X4_strike ar pr er cf tf cb tb F G (dU D a) (dW D a) (dQ D a) (dT D a) (dus D a) (des D a) evf e).2.2.2.2.2.2 ar pr (m_X4_strike ar pr er cf tf cb tb F G (dU D a) (dW D a) (dQ D a) (dT D a) (dus D a) (des D a) evf e).2.1 D' evf (m_X5_strike c T e).2.1 (m_X5_strike c T e).2.2 NP NE NM := by
  have hne : NE ≤ 40 := h.1.2.1.1
  have hN6 : NP ≤ 6 := h.1.1.1
  have hnc : M_nc (f0_X5_strike c T e) = M_nc c := rfl
  have e0 : m_X5_isEvent (f0_X5_strike c T e) T e = m_X5_isEvent c T e := rfl
  rcases (LI_event h cf tf cb tb e).symm with ⟨g1, g2⟩ | ⟨i, ad, a, j, g1, g2, g3, g4, g5, g6, g7, g8, g9, g10, g11, g12⟩
  · refine ⟨0, fun x hx => absurd hx (by rw [g1]; exact fun z => nomatch z), fun x hx => absurd hx (by rw [g1]; exact fun z => nomatch z), ?_⟩
    unfold m_X4_strike m_X4_strike_0 m_X5_strike m_X5_strike_0 m_X5_strike_1
    rw [g1, e0, if_pos g2]
    exact ⟨Or.inl rfl, rfl, D, LI_mv h rfl rfl⟩
  refine ⟨a, fun x hx => ?_, fun x hx b hb => ?_, ?_⟩
  · rw [g3] at hx
    have : ad = x := Option.some.inj hx
    subst this
    exact ⟨g5, by rw [g11, E_mo_mk]; exact vp_in_nI g7 (by decide), by rw [g2]; exact vp_in_nI (by omega) (by decide)⟩
  · rw [g3] at hx
    have : ad = x := Option.some.inj hx
    subst this
    rw [g11, E_pn_mk] at hb
    rcases LI_part h cf tf cb tb (nI a) with ⟨a', k1, k2, k3, -⟩ | ⟨k3, -⟩
    · have e1 : a = a' := (nI_eq (by omega) (by omega)).mp k2
      subst e1
      obtain ⟨w1, w2, w3, w4, w5⟩ := pat_1 h k1 rfl k3 b hb
      exact ⟨w4, w5⟩
    · rw [k3] at hb
      cases hb
  have hp : m_X4_partOf ar pr er cf tf cb tb (E_pn (evf ad)) = some (dP D a) := by
    rw [g11, E_pn_mk]
    rcases LI_part h cf tf cb tb (nI a) with ⟨a', k1, k2, k3, -⟩ | ⟨-, k3⟩
    · have e1 : a = a' := (nI_eq (by omega) (by omega)).mp k2
      subst e1
      exact k3
    · unfold m_X5_isPart at k3
      rw [h.1.1.2, if_neg (nI_pos (by omega)), if_neg (nI_ge g6 (by omega))] at k3
      exact absurd k3 (by decide)
  have hmo : Int32.toNatClampNeg (E_mo (evf ad)) = j := by rw [g11, E_mo_mk]; exact nI_clamp (by omega)
  have hci : Int32.toNatClampNeg e = i := by rw [g2]; exact nI_clamp (by omega)
  have hpr : T_of T i - 1 = nI a := by rw [g8, nI_pred]
  have hev : M_ev (f0_X5_strike c T e) = nI NE := h.1.2.1.2
  obtain ⟨fm, hD1⟩ := DRx (F := (va_up (va_up F (dW D a) (.inl (G.2.2.2.1, 36, .inr (.inr (.inr (.inr (va_up (des D a) j none))))))) (dP D a) (cP (dU D a) (dW D a) (dQ D a) (P_mk (P_co (dT D a)) (P_rs (dT D a)) (P_fi (dT D a)) (P_li (dT D a)) (P_me (dT D a)) (P_ra (dT D a)) ((P_ec (dT D a)) - 1) (P_pa (dT D a)))))) (er := (va_up er i none)) (D := (dsT (dsE D a (va_up (des D a) j none)) a (P_mk (P_co (dT D a)) (P_rs (dT D a)) (P_fi (dT D a)) (P_li (dT D a)) (P_me (dT D a)) (P_ra (dT D a)) ((P_ec (dT D a)) - 1) (P_pa (dT D a))))) (T := (T_s_of T (upd (T_of T) i 0))) hne hN6 (sk_5 h g1 g4 g6 g7 g8 g9 g10) (sk_7 h g1 g4 g6 g7 g8 g9 g10) (sk_8 h g1 g4 g6 g7 g8 g9 g10) (sk_9 h i) g6
  have hD2 : DR (M_ev (f0_X5_strike c T e)) (T_s_of T (upd (T_of T) i 0)) a fm (dT D a) (dus D a) (va_up (des D a) j none) evf := by
    rw [hev]
    have q := hD1
    have q2 : DR (nI NE) (T_s_of T (upd (T_of T) i 0)) a fm (dT (dsT (dsE D a (va_up (des D a) j none)) a (P_mk (P_co (dT D a)) (P_rs (dT D a)) (P_fi (dT D a)) (P_li (dT D a)) (P_me (dT D a)) (P_ra (dT D a)) ((P_ec (dT D a)) - 1) (P_pa (dT D a)))) a) (dus D a) (des (dsE D a (va_up (des D a) j none)) a) evf := q
    rw [dsT_s, dsE_s] at q2
    unfold DR at q2 ⊢
    rw [P_me_mk, P_ra_mk, P_co_mk, P_rs_mk, P_li_mk, P_fi_mk] at q2
    exact q2
  have hK := RK hD2 cf tf cb tb (U := 35) (Nat.le_refl _) hD2.1.2.1
  obtain ⟨-, -, -, -, k5⟩ := re_f4 (f0_X5_strike c T e) (T_s_of T (upd (T_of T) i 0)) (nI a) (nI 35)
  have k6 := re_nc (f0_X5_strike c T e) (T_s_of T (upd (T_of T) i 0)) (nI a) (nI 35)
  unfold m_X4_strike m_X4_strike_0 m_X5_strike m_X5_strike_0 m_X5_strike_1
  simp only [g3, hp]
  rw [hmo, e0, if_neg (show ¬ m_X5_isEvent c T e = 0 by rw [g12]; decide), hci, hpr, show (35 : Int32) = nI 35 from rfl]
  rcases hK with ⟨q1, q2, -, -⟩ | ⟨q1, q2⟩
  · rw [if_neg (show ¬ (m_X5_reckon (f0_X5_strike c T e) (T_s_of T (upd (T_of T) i 0)) (nI a) (nI 35)).1 = 0 by rw [q1]; decide), if_pos (show (m_X4_hasBreach ar pr er cf tf cb tb (dT D a) (dus D a) (va_up (des D a) j none) evf).1 = 0 from q2)]
    refine ⟨Or.inr rfl, q1.symm, (dsT (dsE D a (va_up (des D a) j none)) a (P_mk (P_co (dT D a)) (P_rs (dT D a)) (P_fi (dT D a)) (P_li (dT D a)) (P_me (dT D a)) (P_ra (dT D a)) ((P_ec (dT D a)) - 1) (P_pa (dT D a)))), ?_⟩
    exact LI_mv (LI_sk h g1 g4 g6 g7 g8 g9 g10 (NBall hD2 q2)) (k6.trans hnc) (st_keep2 k5)
  · rw [if_pos q1, if_neg (show ¬ (m_X4_hasBreach ar pr er cf tf cb tb (dT D a) (dus D a) (va_up (des D a) j none) evf).1 = 0 from fun z => absurd (q2.symm.trans z) (by decide))]
    refine ⟨Or.inl rfl, q1.symm, D, ?_⟩
    have he9 : va_up (va_up (des D a) j none) j (some ad) = des D a := by
      funext k
      by_cases y : k = j
      · subst y
        rw [va_up_self, g10]
      · rw [va_up_ne _ _ y, va_up_ne _ _ y]
    have hF : va_up (va_up F (dW D a) (.inl (G.2.2.2.1, 36, .inr (.inr (.inr (.inr (va_up (des D a) j none))))))) (dW D a) (.inl (G.2.2.2.1, 36, .inr (.inr (.inr (.inr (va_up (va_up (des D a) j none) j (some ad))))))) = F := up_back (by rw [he9]; exact (h.2.2.1 a g6).2.2.2.1.2)
    show LI G L (va_up (va_up F (dW D a) (.inl (G.2.2.2.1, 36, .inr (.inr (.inr (.inr (va_up (des D a) j none))))))) (dW D a) (.inl (G.2.2.2.1, 36, .inr (.inr (.inr (.inr (va_up (va_up (des D a) j none) j (some ad)))))))) ar pr er D evf _ _ NP NE NM
    rw [hF]
    exact LI_mv h (k6.trans hnc) (st_back2 k5)

set_option maxHeartbeats 1000000 in
theorem ag_event {G : pw_G} {L : List Nat} {F : Nat → va_E} {ar : AR} {pr er : Nat → Option Nat} {D : pw_D} {evf : Nat → ER} {c : MR} {T : TR} {NP NE NM : Nat} (h : LI G L F ar pr er D evf c T NP NE NM) (cf : CR) (tf : SR) (cb : CR) (tb : SR) (i mm ki : Int32) (v : Int64) (n : Int32) : ∃ a, PAT G L F ar pr er D evf NP cf tf cb tb i a ∧ ((((q_X4_event ar pr er cf tf cb tb (dT D a) (des D a) i mm ki v n) = 1 ∨ (q_X4_event ar pr er cf tf cb tb (dT D a) (des D a) i mm ki v n) = 2) ∧ M_cd (m_X5_event c T i mm ki v n).2.1 = (q_X4_event ar pr er cf tf cb tb (dT D a) (des D a) i mm ki v n) ∧ LI G L F ar pr er D evf (m_X5_event c T i mm ki v n).2.1 (m_X5_event c T i mm ki v n).2.2 NP NE NM) ∨ ((q_X4_event ar pr er cf tf cb tb (dT D a) (des D a) i mm ki v n) = 0 ∧ ∀ b, b ∉ L → ((m_X4_event_0 ar pr er cf tf cb tb (va_up F b (cE (E_mk i mm ki v n))) G (dP D a) (dU D a) (dW D a) (dQ D a) b (dT D a) (dus D a) (des D a) (va_up evf b (E_mk i mm ki v n)) i mm ki v n).1 = 0 ∨ (m_X4_event_0 ar pr er cf tf cb tb (va_up F b (cE (E_mk i mm ki v n))) G (dP D a) (dU D a) (dW D a) (dQ D a) b (dT D a) (dus D a) (des D a) (va_up evf b (E_mk i mm ki v n)) i mm ki v n).1 = 2) ∧ M_cd (m_X5_event c T i mm ki v n).2.1 = (m_X4_event_0 ar pr er cf tf cb tb (va_up F b (cE (E_mk i mm ki v n))) G (dP D a) (dU D a) (dW D a) (dQ D a) b (dT D a) (dus D a) (des D a) (va_up evf b (E_mk i mm ki v n)) i mm ki v n).1 ∧ ((m_X4_event_0 ar pr er cf tf cb tb (va_up F b (cE (E_mk i mm ki v n))) G (dP D a) (dU D a) (dW D a) (dQ D a) b (dT D a) (dus D a) (des D a) (va_up evf b (E_mk i mm ki v n)) i mm ki v n).1 = 0 → (m_X4_event_0 ar pr er cf tf cb tb (va_up F b (cE (E_mk i mm ki v n))) G (dP D a) (dU D a) (dW D a) (dQ D a) b (dT D a) (dus D a) (des D a) (va_up evf b (E_mk i mm ki v n)) i mm ki v n).2.1 = (m_X5_event c T i mm ki v n).1) ∧ ∃ D' evf' NE', LI G (L ++ [b]) (m_X4_event_0 ar pr er cf tf cb tb (va_up F b (cE (E_mk i mm ki v n))) G (dP D a) (dU D a) (dW D a) (dQ D a) b (dT D a) (dus D a) (des D a) (va_up evf b (E_mk i mm ki v n)) i mm ki v n).2.2.2.2.2.2.2.2 (m_X4_event_0 ar pr er cf tf cb tb (va_up F b (cE (E_mk i mm ki v n))) G (dP D a) (dU D a) (dW D a) (dQ D a) b (dT D a) (dus D a) (des D a) (va_up evf b (E_mk i mm ki v n)) i mm ki v n).2.2.1 pr (m_X4_event_0 ar pr er cf tf cb tb (va_up F b (cE (E_mk i mm ki v n))) G (dP D a) (dU D a) (dW D a) (dQ D a) b (dT D a) (dus D a) (des D a) (va_up evf b (E_mk i mm ki v n)) i mm ki v n).2.2.2.1 D' evf' (m_X5_event c T i mm ki v n).2.1 (m_X5_event c T i mm ki v n).2.2 NP NE' NM)) := by
  have hN6 : NP ≤ 6 := h.1.1.1
  have hNE : NE ≤ 40 := h.1.2.1.1
  obtain ⟨t1, t2, t3⟩ := ev_R (c := c) (T := T) (i := i) (mm := mm) (ki := ki) (v := v) (n := n) h.1.2.1.2 hNE
  obtain ⟨v1, v2⟩ := ev_V (c := c) (T := T) (i := i) (mm := mm) (ki := ki) (v := v) (n := n)
  rcases (LI_part h cf tf cb tb i).symm with ⟨hp, hq⟩ | ⟨a, ha, hi, hp, hq⟩
  · refine ⟨0, pat_0 hp, Or.inl ?_⟩
    obtain ⟨u1, u2⟩ := t1 (v1 (Or.inl hq))
    have e : ∀ a, (q_X4_event ar pr er cf tf cb tb (dT D a) (des D a) i mm ki v n) = 1 := fun a => by unfold q_X4_event; rw [hp]
    rw [e, u1, u2]
    exact ⟨Or.inl rfl, M_cd_mk .., LI_mv h rfl rfl⟩
  have hq1 : ¬ m_X5_isPart c T i = 0 := by rw [hq]; decide
  refine ⟨a, pat_1 h ha hi hp, ?_⟩
  have hpa : Int32.toNatClampNeg i = a := by rw [hi]; exact nI_clamp (by omega)
  have hfi : T_fi T (Int32.toNatClampNeg i) = P_fi (dT D a) := by rw [hpa]; exact ((h.2.2.2.2.1 a ha).2.1.2.2.1).symm
  have eQ : (q_X4_event ar pr er cf tf cb tb (dT D a) (des D a) i mm ki v n) = (if m_X5_isMonth mm = 0 then 1 else if mm < P_fi (dT D a) then 1 else if m_X4_isEvent ki v n = 0 then 1 else (match des D a (Int32.toNatClampNeg mm) with | none => if 8 ≤ P_ec (dT D a) then 2 else if A_ec ar < 40 then 0 else 2 | some _ => 2)) := by unfold q_X4_event; rw [hp]; rfl
  rw [eQ]
  have bad1 : (f2_X5_event c T i mm ki v n (f0_X5_event c T i mm ki v n) (f1_X5_event c T i mm ki v n (f0_X5_event c T i mm ki v n))) = 0 → ((1 : Int32) = 1 ∨ (1 : Int32) = 2) ∧ M_cd (m_X5_event c T i mm ki v n).2.1 = 1 ∧ LI G L F ar pr er D evf (m_X5_event c T i mm ki v n).2.1 (m_X5_event c T i mm ki v n).2.2 NP NE NM := fun z => by
    obtain ⟨u1, u2⟩ := t1 z
    rw [u1, u2]
    exact ⟨Or.inl rfl, M_cd_mk .., LI_mv h rfl rfl⟩
  by_cases g1 : m_X5_isMonth mm = 0
  · rw [if_pos g1]
    exact Or.inl (bad1 (v1 (Or.inr (Or.inl g1))))
  rw [if_neg g1]
  by_cases g2 : mm < P_fi (dT D a)
  · rw [if_pos g2]
    exact Or.inl (bad1 (v1 (Or.inr (Or.inr (by rw [hfi]; exact g2)))))
  rw [if_neg g2]
  have hV := v2 hq1 g1 (by rw [hfi]; exact g2)
  by_cases g3 : m_X4_isEvent ki v n = 0
  · rw [if_pos g3]
    exact Or.inl (bad1 (by rw [hV]; exact g3))
  rw [if_neg g3]
  have hVn : ¬ (f2_X5_event c T i mm ki v n (f0_X5_event c T i mm ki v n) (f1_X5_event c T i mm ki v n (f0_X5_event c T i mm ki v n))) = 0 := by rw [hV]; exact g3
  have hEV := ev_EV g3
  obtain ⟨j, hj, hm⟩ := isMonth_in g1
  have hjm : Int32.toNatClampNeg mm = j := by rw [hm]; exact nI_clamp (by omega)
  have bad2 : (0 ≤ (m_X5_eventIn c T i mm) ∨ (m_X5_countOf c T i) = 8 ∨ NE = 40) → ((2 : Int32) = 1 ∨ (2 : Int32) = 2) ∧ M_cd (m_X5_event c T i mm ki v n).2.1 = 2 ∧ LI G L F ar pr er D evf (m_X5_event c T i mm ki v n).2.1 (m_X5_event c T i mm ki v n).2.2 NP NE NM := fun z => by
    obtain ⟨u1, u2⟩ := t2 hVn z
    rw [u1, u2]
    exact ⟨Or.inr rfl, M_cd_mk .., LI_mv h rfl rfl⟩
  obtain ⟨fm, hDR⟩ := LI_DR h ha
  have hev5 := hDR.2.2.2.2 j hj
  rw [hjm]
  rcases hev5.symm with ⟨x, k, e1, e2, e3, -⟩ | ⟨e1, e2⟩
  · rw [e1]
    refine Or.inl (bad2 (Or.inl ?_))
    rw [hi, hm, e3 c h.1.2.1.2]
    exact nI_pos' (by omega)
  have hnone := e1
  have hneg : ¬ 0 ≤ (m_X5_eventIn c T i mm) := by
    have := e2 c h.1.2.1.2
    rw [← hi, ← hm] at this
    rw [Int32.lt_iff_toInt_lt, i32_0] at this
    rw [Int32.le_iff_toInt_le, i32_0]
    omega
  obtain ⟨k1, k2⟩ := h.2.2.2.2.2.2.2.2.2.1 a ha
  have hcn : (m_X5_countOf c T i) = nI (cntN (T_of T) a NE) := by rw [hi]; exact cnt_eq h.1.2.1.2 hNE
  rw [e1]
  dsimp only
  by_cases g4 : 8 ≤ P_ec (dT D a)
  · rw [if_pos g4]
    refine Or.inl (bad2 (Or.inr (Or.inl ?_)))
    rw [k1, show (8 : Int32) = nI 8 from rfl, nI_leI (by omega) (by omega)] at g4
    rw [hcn, show (8 : Int32) = nI 8 from rfl, nI_eq (by omega) (by omega)]
    omega
  rw [if_neg g4]
  have hc8 : cntN (T_of T) a NE < 8 := by
    rw [k1, show (8 : Int32) = nI 8 from rfl, nI_leI (by omega) (by omega)] at g4
    omega
  have hcn8 : ¬ (m_X5_countOf c T i) = 8 := by
    rw [hcn, show (8 : Int32) = nI 8 from rfl, nI_eq (by omega) (by omega)]
    omega
  by_cases g5 : NE = 40
  · rw [h.2.1.2.1, if_neg (show ¬ nI NE < 40 by rw [g5]; decide)]
    exact Or.inl (bad2 (Or.inr (Or.inr g5)))
  have hlt : NE < 40 := by omega
  rw [h.2.1.2.1, if_pos (show nI NE < 40 from nI_lt hlt (by decide))]
  refine Or.inr ⟨rfl, fun b hb => ?_⟩
  have hT5 : tE T NE (i + 1) mm ki v n = (tE T NE (nI (a + 1)) (nI j) ki v n) := by rw [hi, hm, nI_1]
  have hc5 : M_ev (M_mk 0 (M_pt c) (M_mn c) (nI NE + 1) (M_co c) (M_al c) (M_re c) (M_lo c) (M_rs c) (M_li c) (M_he c) (M_go c) (M_sp c) (M_ba c) (M_le c) (M_lf c) (M_mo c) (M_un c) (M_ch c) (M_lc c) (M_ac c) (M_bd c)) = nI (NE + 1) := by rw [M_ev_mk, nI_1]
  rw [t3 hVn hneg hcn8 g5, hT5]
  obtain ⟨fm', hD1⟩ := DRx (F := (va_up (va_up (va_up F b (cE (E_mk (nI a) (nI j) ki v n))) (dW D a) (.inl (G.2.2.2.1, 36, .inr (.inr (.inr (.inr (va_up (des D a) j (some b)))))))) (dP D a) (cP (dU D a) (dW D a) (dQ D a) (P_mk (P_co (dT D a)) (P_rs (dT D a)) (P_fi (dT D a)) (P_li (dT D a)) (P_me (dT D a)) (P_ra (dT D a)) ((P_ec (dT D a)) + 1) (P_pa (dT D a)))))) (er := (va_up er NE (some b))) (D := (dsT (dsE D a (va_up (des D a) j (some b))) a (P_mk (P_co (dT D a)) (P_rs (dT D a)) (P_fi (dT D a)) (P_li (dT D a)) (P_me (dT D a)) (P_ra (dT D a)) ((P_ec (dT D a)) + 1) (P_pa (dT D a))))) (evf := (va_up evf b (E_mk (nI a) (nI j) ki v n))) (T := (tE T NE (nI (a + 1)) (nI j) ki v n)) (NE := NE + 1) (by omega) hN6 (ev_5 h hlt ha hj hEV hb hnone hc8) (ev_7 h hlt ha hj hEV hb hnone hc8) (ev_8 h hlt ha hj hEV hb hnone hc8) (ev_9 h hlt ha hj hEV hb hnone hc8) ha
  have hD2 : DR (M_ev (M_mk 0 (M_pt c) (M_mn c) (nI NE + 1) (M_co c) (M_al c) (M_re c) (M_lo c) (M_rs c) (M_li c) (M_he c) (M_go c) (M_sp c) (M_ba c) (M_le c) (M_lf c) (M_mo c) (M_un c) (M_ch c) (M_lc c) (M_ac c) (M_bd c))) (tE T NE (nI (a + 1)) (nI j) ki v n) a fm' (dT D a) (dus D a) (va_up (des D a) j (some b)) (va_up evf b (E_mk (nI a) (nI j) ki v n)) := by
    rw [hc5]
    have q2 : DR (nI (NE + 1)) (tE T NE (nI (a + 1)) (nI j) ki v n) a fm' (dT (dsT (dsE D a (va_up (des D a) j (some b))) a (P_mk (P_co (dT D a)) (P_rs (dT D a)) (P_fi (dT D a)) (P_li (dT D a)) (P_me (dT D a)) (P_ra (dT D a)) ((P_ec (dT D a)) + 1) (P_pa (dT D a)))) a) (dus D a) (des (dsE D a (va_up (des D a) j (some b))) a) (va_up evf b (E_mk (nI a) (nI j) ki v n)) := hD1
    rw [dsT_s, dsE_s] at q2
    unfold DR at q2 ⊢
    rw [P_me_mk, P_ra_mk, P_co_mk, P_rs_mk, P_li_mk, P_fi_mk] at q2
    exact q2
  have hK := RK hD2 cf tf cb tb (U := 35) (Nat.le_refl _) hD2.1.2.1
  obtain ⟨kc, -, -, ke, k5⟩ := re_f4 (M_mk 0 (M_pt c) (M_mn c) (nI NE + 1) (M_co c) (M_al c) (M_re c) (M_lo c) (M_rs c) (M_li c) (M_he c) (M_go c) (M_sp c) (M_ba c) (M_le c) (M_lf c) (M_mo c) (M_un c) (M_ch c) (M_lc c) (M_ac c) (M_bd c)) (tE T NE (nI (a + 1)) (nI j) ki v n) (nI a) (nI 35)
  have k6 := re_nc (M_mk 0 (M_pt c) (M_mn c) (nI NE + 1) (M_co c) (M_al c) (M_re c) (M_lo c) (M_rs c) (M_li c) (M_he c) (M_go c) (M_sp c) (M_ba c) (M_le c) (M_lf c) (M_mo c) (M_un c) (M_ch c) (M_lc c) (M_ac c) (M_bd c)) (tE T NE (nI (a + 1)) (nI j) ki v n) (nI a) (nI 35)
  unfold m_X4_event_0 m_X5_event_5
  rw [hjm, hm, hi, show (35 : Int32) = nI 35 from rfl]
  rcases hK with ⟨q1, q2, -, -⟩ | ⟨q1, q2⟩
  · rw [if_neg (show ¬ (m_X5_reckon (M_mk 0 (M_pt c) (M_mn c) (nI NE + 1) (M_co c) (M_al c) (M_re c) (M_lo c) (M_rs c) (M_li c) (M_he c) (M_go c) (M_sp c) (M_ba c) (M_le c) (M_lf c) (M_mo c) (M_un c) (M_ch c) (M_lc c) (M_ac c) (M_bd c)) (tE T NE (nI (a + 1)) (nI j) ki v n) (nI a) (nI 35)).1 = 0 by rw [q1]; decide), if_pos (show (m_X4_hasBreach ar pr er cf tf cb tb (dT D a) (dus D a) (va_up (des D a) j (some b)) (va_up evf b (E_mk (nI a) (nI j) ki v n))).1 = 0 from q2)]
    refine ⟨Or.inl rfl, kc.trans (M_cd_mk ..), fun _ => ?_, (dsT (dsE D a (va_up (des D a) j (some b))) a (P_mk (P_co (dT D a)) (P_rs (dT D a)) (P_fi (dT D a)) (P_li (dT D a)) (P_me (dT D a)) (P_ra (dT D a)) ((P_ec (dT D a)) + 1) (P_pa (dT D a)))), (va_up evf b (E_mk (nI a) (nI j) ki v n)), NE + 1, ?_⟩
    · show A_ec ar + 1 - 1 = M_ev (m_X5_reckon (M_mk 0 (M_pt c) (M_mn c) (nI NE + 1) (M_co c) (M_al c) (M_re c) (M_lo c) (M_rs c) (M_li c) (M_he c) (M_go c) (M_sp c) (M_ba c) (M_le c) (M_lf c) (M_mo c) (M_un c) (M_ch c) (M_lc c) (M_ac c) (M_bd c)) (tE T NE (nI (a + 1)) (nI j) ki v n) (nI a) (nI 35)).2.1 - 1
      rw [ke, hc5, h.2.1.2.1, nI_1]
    · rw [show Int32.toNatClampNeg (A_ec ar) = NE by rw [h.2.1.2.1]; exact nI_clamp (by omega)]
      exact LI_mv (LI_ev h hlt ha hj hEV hb hnone hc8 (c5 := (M_mk 0 (M_pt c) (M_mn c) (nI NE + 1) (M_co c) (M_al c) (M_re c) (M_lo c) (M_rs c) (M_li c) (M_he c) (M_go c) (M_sp c) (M_ba c) (M_le c) (M_lf c) (M_mo c) (M_un c) (M_ch c) (M_lc c) (M_ac c) (M_bd c))) (M_pt_mk ..) (M_mn_mk ..) hc5 (NBall hD2 q2)) k6 k5
  · rw [if_pos q1, if_neg (show ¬ (m_X4_hasBreach ar pr er cf tf cb tb (dT D a) (dus D a) (va_up (des D a) j (some b)) (va_up evf b (E_mk (nI a) (nI j) ki v n))).1 = 0 from fun z => absurd (q2.symm.trans z) (by decide))]
    have he9 : va_up (va_up (des D a) j (some b)) j none = des D a := by
      funext y
      by_cases z : y = j
      · subst z
        rw [va_up_self, hnone]
      · rw [va_up_ne _ _ z, va_up_ne _ _ z]
    have hw : (va_up F b (cE (E_mk (nI a) (nI j) ki v n))) (dW D a) = .inl (G.2.2.2.1, 36, .inr (.inr (.inr (.inr (des D a))))) := by
      rw [va_up_ne _ _ (ne_in ((h.2.2.1 a ha).2.2.2.1.1) hb)]
      exact (h.2.2.1 a ha).2.2.2.1.2
    have hF : va_up (va_up (va_up F b (cE (E_mk (nI a) (nI j) ki v n))) (dW D a) (.inl (G.2.2.2.1, 36, .inr (.inr (.inr (.inr (va_up (des D a) j (some b)))))))) (dW D a) (.inl (G.2.2.2.1, 36, .inr (.inr (.inr (.inr (va_up (va_up (des D a) j (some b)) j none)))))) = (va_up F b (cE (E_mk (nI a) (nI j) ki v n))) := up_back (by rw [he9]; exact hw)
    refine ⟨Or.inr rfl, M_cd_mk .., fun z => absurd (show (2 : Int32) = 0 from z) (by decide), D, evf, NE, ?_⟩
    show LI G (L ++ [b]) (va_up (va_up (va_up F b (cE (E_mk (nI a) (nI j) ki v n))) (dW D a) (.inl (G.2.2.2.1, 36, .inr (.inr (.inr (.inr (va_up (des D a) j (some b)))))))) (dW D a) (.inl (G.2.2.2.1, 36, .inr (.inr (.inr (.inr (va_up (va_up (des D a) j (some b)) j none))))))) ar pr er D evf _ _ NP NE NM
    rw [hF]
    have e9 : ∀ X : MR, M_nc X = (M_pt c, M_mn c, nI (NE + 1)) → M_nc (M_mk 2 (M_pt X) (M_mn X) (M_ev X - 1) (M_co X) (M_al X) (M_re X) (M_lo X) (M_rs X) (M_li X) (M_he X) (M_go X) (M_sp X) (M_ba X) (M_le X) (M_lf X) (M_mo X) (M_un X) (M_ch X) (M_lc X) (M_ac X) (M_bd X)) = M_nc c := fun X hX => by
      have x1 : M_pt X = M_pt c := congrArg (fun z => z.1) hX
      have x2 : M_mn X = M_mn c := congrArg (fun z => z.2.1) hX
      have x3 : M_ev X = nI (NE + 1) := congrArg (fun z => z.2.2) hX
      unfold M_nc
      rw [M_pt_mk, M_mn_mk, M_ev_mk, x1, x2, x3, nI_pred, h.1.2.1.2]
    have k7 : M_nc (m_X5_reckon (M_mk 0 (M_pt c) (M_mn c) (nI NE + 1) (M_co c) (M_al c) (M_re c) (M_lo c) (M_rs c) (M_li c) (M_he c) (M_go c) (M_sp c) (M_ba c) (M_le c) (M_lf c) (M_mo c) (M_un c) (M_ch c) (M_lc c) (M_ac c) (M_bd c)) (tE T NE (nI (a + 1)) (nI j) ki v n) (nI a) (nI 35)).2.1 = (M_pt c, M_mn c, nI (NE + 1)) := by
      rw [k6]
      unfold M_nc
      rw [M_pt_mk, M_mn_mk, hc5]
    exact LI_mv (LI_junk h (nI (a + 1)) (nI j) ki v n hb) (e9 _ k7) k5

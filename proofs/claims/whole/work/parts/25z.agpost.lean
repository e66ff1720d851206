theorem LQ_end {G : pw_G} {L : List Nat} {F : Nat → va_E} {ar : AR} {pr er : Nat → Option Nat} {D : pw_D} {evf : Nat → ER} {c : MR} {T : TR} {NP NE NM : Nat} {nm : Nat → Nat} (h : LQ G L F ar pr er D evf c T NP NE NM nm) (hM : NM < 36) (hnm : ∀ a, a < NP → nm a = NM + 1) : LI G L F (A_mk (A_pc ar) (A_ec ar) (A_mc ar + 1)) pr er D evf (M_mk (M_cd c) (M_pt c) (M_mn c + 1) (M_ev c) (M_co c) (M_al c) (M_re c) (M_lo c) (M_rs c) (M_li c) (M_he c) (M_go c) (M_sp c) (M_ba c) (M_le c) (M_lf c) (M_mo c) (M_un c) (M_ch c) (M_lc c) (M_ac c) (M_bd c)) T NP NE (NM + 1) := by
  obtain ⟨h1, h2, h3, h4, h5, h6, h7, h8, h9, h10, h11, h12, h13⟩ := h
  refine ⟨?_, ⟨h2.1, h2.2.1, ?_⟩, h3, h4, h5, h6, h7, h8, h9, h10, fun a ha => ?_, fun a j ha hj1 hj2 => ?_, h13⟩
  · obtain ⟨r1, r2, r3, r4, r5⟩ := h1
    exact ⟨⟨r1.1, by rw [M_pt_mk]; exact r1.2⟩, ⟨r2.1, by rw [M_ev_mk]; exact r2.2⟩, ⟨by omega, by rw [M_mn_mk, r3.2, nI_1]⟩, r4, r5⟩
  · show A_mc ar + 1 = nI (NM + 1)
    rw [h2.2.2, nI_1]
  · have := h11 a ha
    rw [hnm a ha] at this
    exact this
  · exact h12 a j ha (by rw [hnm a ha]; exact hj1) hj2
set_option maxHeartbeats 4000000 in
/-- the loop over the parts, both sides -/
theorem PO_l {G : pw_G} {L : List Nat} {ar : AR} {pr er : Nat → Option Nat} {D : pw_D} {evf : Nat → ER} {NP NE NM : Nat} (hM : NM < 36) (hN6 : NP ≤ 6) (hNE : NE ≤ 40) : ∀ (n k : Nat) (F : Nat → va_E) (D1 : pw_D) (cf : CR) (tf : SR) (cb : CR) (tb : SR) (c : MR) (T : TR) (all : Int64), NP < n + k → k ≤ NP → LQ G L F ar pr er D1 evf c T NP NE NM (fun a => if a < k then NM + 1 else NM) → (dP D1 = dP D ∧ dU D1 = dU D ∧ dW D1 = dW D ∧ dQ D1 = dQ D) → (∀ a, k ≤ a → dT D1 a = dT D a ∧ dus D1 a = dus D a ∧ des D1 a = des D a ∧ dps D1 a = dps D a) → (m_X4_post_l G D evf NP (nI NM) n k F cf tf cb tb all).1 = (m_X5_post_l n c T all (nI k)).1 ∧ M_cd (m_X5_post_l n c T all (nI k)).2.1 = M_cd c ∧ ∃ D', LI G L (m_X4_post_l G D evf NP (nI NM) n k F cf tf cb tb all).2.2.2.2.2 (A_mk (A_pc ar) (A_ec ar) (A_mc ar + 1)) pr er D' evf (m_X5_post_l n c T all (nI k)).2.1 (m_X5_post_l n c T all (nI k)).2.2 NP NE (NM + 1) := by
  intro n
  induction n with
  | zero => intro k F D1 cf tf cb tb c T all h1 h2; exact absurd h1 (by omega)
  | succ n ih =>
    intro k F D1 cf tf cb tb c T all h1 h2 h hd1 hd2
    have hpt : M_pt c = nI NP := h.1.1.2
    have hmn : M_mn c = nI NM := h.1.2.2.1.2
    rw [m_X4_post_l_s, m_X5_post_l_s]
    by_cases g : NP ≤ k
    · rw [if_pos g, if_pos (show M_pt c ≤ nI k by rw [hpt]; exact nI_le g (by omega))]
      exact ⟨rfl, M_cd_mk .., D1, LQ_end h hM (fun a ha => if_pos (by omega))⟩
    · have hk : k < NP := by omega
      have hnk : ¬ M_pt c ≤ nI k := by rw [hpt]; exact nI_ge hk (by omega)
      rw [if_neg g, if_neg hnk]
      obtain ⟨e1, e2, e3, e4⟩ := hd2 k (Nat.le_refl _)
      have hpk : Int32.toNatClampNeg (nI k) = k := nI_clamp (by omega)
      have hix : Int32.toNatClampNeg (36 * nI k + nI NM) = 36 * k + NM := by
        rw [show (36 : Int32) = nI 36 from rfl, pk_mul, nI_add]
        exact nI_clamp (by omega)
      have hcM : Int32.toNatClampNeg (nI NM) = NM := nI_clamp (by omega)
      have hfi : T_fi T k = P_fi (dT D k) := by rw [← e1]; exact ((h.2.2.2.2.1 k hk).2.1.2.2.1).symm
      have hnm : (fun a => if a < k then NM + 1 else NM) k = NM := if_neg (by omega)
      have efun : va_up (fun a => if a < k then NM + 1 else NM) k (NM + 1) = (fun a => if a < k + 1 then NM + 1 else NM) := by
        funext a
        show (if a = k then NM + 1 else if a < k then NM + 1 else NM) = (if a < k + 1 then NM + 1 else NM)
        by_cases y : a = k
        · rw [if_pos y, if_pos (by omega)]
        · rw [if_neg y]
          by_cases y2 : a < k
          · rw [if_pos y2, if_pos (show a < k + 1 by omega)]
          · rw [if_neg y2, if_neg (show ¬ a < k + 1 by omega)]
      have h36 : ∀ b, b < NP → (fun a => if a < k then NM + 1 else NM) b ≤ 36 := fun b _ => by
        show (if b < k then NM + 1 else NM) ≤ 36
        by_cases y : b < k
        · rw [if_pos y]; omega
        · rw [if_neg y]; omega
      by_cases g2 : nI NM < P_fi (dT D k)
      · rw [if_pos g2]
        have eB : pB c T (nI k) = (0, c, T) := by
          unfold pB
          rw [hmn, hpk, hfi, if_pos g2]
        rw [eB]
        show _ = (m_X5_post_l n c (pT T (M_mn c) (nI k) 0) (all + 0) (nI k + 1)).1 ∧ M_cd (m_X5_post_l n c (pT T (M_mn c) (nI k) 0) (all + 0) (nI k + 1)).2.1 = _ ∧ ∃ D', LI G L _ _ pr er D' evf (m_X5_post_l n c (pT T (M_mn c) (nI k) 0) (all + 0) (nI k + 1)).2.1 (m_X5_post_l n c (pT T (M_mn c) (nI k) 0) (all + 0) (nI k + 1)).2.2 NP NE (NM + 1)
        unfold pT
        rw [hmn, hix, nI_1, Int64.add_zero]
        have hs := LQ_skip h hk hnm hM
        rw [efun] at hs
        exact ih (k + 1) F D1 cf tf cb tb c _ all (by omega) (by omega) hs hd1 (fun a ha => hd2 a (by omega))
      · rw [if_neg g2]
        obtain ⟨fm, hD⟩ := DRx (T := T) hNE hN6 h.2.2.2.2.1 h.2.2.2.2.2.2.1 h.2.2.2.2.2.2.2.1 h.2.2.2.2.2.2.2.2.1 hk
        have hDc : DR (M_ev c) T k fm (dT D1 k) (dus D1 k) (des D1 k) evf := by rw [h.1.2.1.2]; exact hD
        rw [e1, e2, e3] at hDc
        have hf : fm ≤ NM := by
          rw [hDc.1.2.2] at g2
          rcases Nat.lt_or_ge NM fm with y | y
          · exact absurd (nI_lt y (by have := hDc.1.2.1; omega)) g2
          · exact y
        have hnb := h.2.2.2.2.2.1 k hk cf tf cb tb
        rw [e1, e2, e3] at hnb
        have hRC : RC (P_me (dT D k)) (P_ra (dT D k)) (m_X4_follow (dT D k) (dus D k) (des D k) evf cf tf cb tb (nI NM)).1 (m_X5_reckon c T (nI k) (nI NM)).2.1 := by
          rcases RK hDc cf tf cb tb (U := NM) (by omega) hf with ⟨-, -, q3, -⟩ | ⟨-, q2⟩
          · exact q3
          · exact absurd q2 (NBU hDc cf tf cb tb hnb (by omega) hf)
        obtain ⟨kc, -, kmn, -, k5⟩ := re_f4 c T (nI k) (nI NM)
        have k6 := re_nc c T (nI k) (nI NM)
        have hac : M_ac (m_X5_reckon c T (nI k) (nI NM)).2.1 = C_ac (m_X4_follow (dT D k) (dus D k) (des D k) evf cf tf cb tb (nI NM)).1 := hRC.2.2.1.2.symm
        have htot : m_X5_totalOf (m_X5_reckon c T (nI k) (nI NM)).2.1 (m_X5_reckon c T (nI k) (nI NM)).2.2 (nI k) = P_pa (dT D k) := by
          rw [tot_eq (NM := NM) (by rw [kmn]; exact hmn) (by omega) (by omega), st_po k5, ← e1]
          have := (h.2.2.2.2.2.2.2.2.2.2.1 k hk).1
          rw [hnm] at this
          exact this.symm
        have eB : pB c T (nI k) = (C_ac (m_X4_follow (dT D k) (dus D k) (des D k) evf cf tf cb tb (nI NM)).1 - P_pa (dT D k), (m_X5_reckon c T (nI k) (nI NM)).2.1, (m_X5_reckon c T (nI k) (nI NM)).2.2) := by
          unfold pB
          rw [hmn, hpk, hfi, if_neg g2, hac, htot]
        rw [eB]
        dsimp only
        unfold pT pS
        rw [kmn, hmn, hix, nI_1, hcM, vpl_s]
        have hL := LQ_post (LQ_mv h k6 k5) hk hnm hM (C_ac (m_X4_follow (dT D k) (dus D k) (des D k) evf cf tf cb tb (nI NM)).1) h36
        rw [efun, e1, e4] at hL
        have hd : dP D1 k = dP D k ∧ dU D1 k = dU D k ∧ dW D1 k = dW D k ∧ dQ D1 k = dQ D k := ⟨congrFun hd1.1 k, congrFun hd1.2.1 k, congrFun hd1.2.2.1 k, congrFun hd1.2.2.2 k⟩
        rw [hd.1, hd.2.1, hd.2.2.1, hd.2.2.2] at hL
        have hp : pF G F (dP D k) (dU D k) (dW D k) (dQ D k) (dT D k) (dus D k) (des D k) (dps D k) evf cf tf cb tb (nI NM) = (va_up (va_up F (dQ D k) (.inl (G.2.2.1, 36, .inr (.inl (vp_updL (dps D k) NM (C_ac (m_X4_follow (dT D k) (dus D k) (des D k) evf cf tf cb tb (nI NM)).1 - P_pa (dT D k))))))) (dP D k) (cP (dU D k) (dW D k) (dQ D k) (P_mk (P_co (dT D k)) (P_rs (dT D k)) (P_fi (dT D k)) (P_li (dT D k)) (P_me (dT D k)) (P_ra (dT D k)) (P_ec (dT D k)) (C_ac (m_X4_follow (dT D k) (dus D k) (des D k) evf cf tf cb tb (nI NM)).1)))) := by
          unfold pF
          rw [hcM]
        rw [hp]
        have hr := ih (k + 1) _ _ (m_X4_follow (dT D k) (dus D k) (des D k) evf cf tf cb tb (nI NM)).1 (m_X4_follow (dT D k) (dus D k) (des D k) evf cf tf cb tb (nI NM)).2.1 (m_X4_follow (dT D k) (dus D k) (des D k) evf cf tf cb tb (nI NM)).2.2.1 (m_X4_follow (dT D k) (dus D k) (des D k) evf cf tf cb tb (nI NM)).2.2.2 _ _ (all + (C_ac (m_X4_follow (dT D k) (dus D k) (des D k) evf cf tf cb tb (nI NM)).1 - P_pa (dT D k))) (by omega) (by omega) hL hd1 (fun a ha => by
          obtain ⟨y1, y2, y3, y4⟩ := hd2 a (by omega)
          have ne : a ≠ k := by omega
          exact ⟨(dsT_n _ _ ne).trans y1, y2, y3, (dsQ_n _ _ ne).trans y4⟩)
        exact ⟨hr.1, hr.2.1.trans kc, hr.2.2⟩
/-- post -/
theorem ag_post {G : pw_G} {L : List Nat} {F : Nat → va_E} {ar : AR} {pr er : Nat → Option Nat} {D : pw_D} {evf : Nat → ER} {c : MR} {T : TR} {NP NE NM : Nat} (h : LI G L F ar pr er D evf c T NP NE NM) (cf : CR) (tf : SR) (cb : CR) (tb : SR) : (((m_X4_post G D evf NP ar F cf tf cb tb).1 = 0 ∧ M_cd (m_X5_post c T).2.1 = 0 ∧ (m_X4_post G D evf NP ar F cf tf cb tb).2.1 = (m_X5_post c T).1 ∧ ∃ D' NM', LI G L (m_X4_post G D evf NP ar F cf tf cb tb).2.2.2.2.2.2.2 (m_X4_post G D evf NP ar F cf tf cb tb).2.2.1 pr er D' evf (m_X5_post c T).2.1 (m_X5_post c T).2.2 NP NE NM') ∨ ((m_X4_post G D evf NP ar F cf tf cb tb).1 = 2 ∧ M_cd (m_X5_post c T).2.1 = 1 ∧ LI G L (m_X4_post G D evf NP ar F cf tf cb tb).2.2.2.2.2.2.2 (m_X4_post G D evf NP ar F cf tf cb tb).2.2.1 pr er D evf (m_X5_post c T).2.1 (m_X5_post c T).2.2 NP NE NM)) := by
  have hmn : M_mn c = nI NM := h.1.2.2.1.2
  have hM36 : NM ≤ 36 := h.1.2.2.1.1
  have n36 : (nI NM = 36) ↔ NM = 36 := by rw [show (36 : Int32) = nI 36 from rfl]; exact nI_eq (by omega) (by omega)
  unfold m_X4_post m_X5_post
  rw [hmn, h.2.1.2.2]
  by_cases g : NM = 36
  · rw [if_pos (n36.mpr g), if_neg (show ¬ nI NM < 36 by rw [g]; decide), ← hmn]
    exact Or.inr ⟨rfl, M_cd_mk .., LI_mv h rfl rfl⟩
  · have hlt : NM < 36 := by omega
    rw [if_neg (fun z => g (n36.mp z)), if_pos (show nI NM < 36 from nI_lt hlt (by decide)), ← hmn]
    have hq : LQ G L F ar pr er D evf (M_mk 0 (M_pt c) (M_mn c) (M_ev c) (M_co c) (M_al c) (M_re c) (M_lo c) (M_rs c) (M_li c) (M_he c) (M_go c) (M_sp c) (M_ba c) (M_le c) (M_lf c) (M_mo c) (M_un c) (M_ch c) (M_lc c) (M_ac c) (M_bd c)) T NP NE NM (fun a => if a < 0 then NM + 1 else NM) := LI_mv (c' := (M_mk 0 (M_pt c) (M_mn c) (M_ev c) (M_co c) (M_al c) (M_re c) (M_lo c) (M_rs c) (M_li c) (M_he c) (M_go c) (M_sp c) (M_ba c) (M_le c) (M_lf c) (M_mo c) (M_un c) (M_ch c) (M_lc c) (M_ac c) (M_bd c))) h rfl rfl
    obtain ⟨r1, r2, r3⟩ := PO_l (D := D) hlt h.1.1.1 h.1.2.1.1 7 0 F D cf tf cb tb (M_mk 0 (M_pt c) (M_mn c) (M_ev c) (M_co c) (M_al c) (M_re c) (M_lo c) (M_rs c) (M_li c) (M_he c) (M_go c) (M_sp c) (M_ba c) (M_le c) (M_lf c) (M_mo c) (M_un c) (M_ch c) (M_lc c) (M_ac c) (M_bd c)) T 0 (by have := h.1.1.1; omega) (by omega) hq ⟨rfl, rfl, rfl, rfl⟩ (fun _ _ => ⟨rfl, rfl, rfl, rfl⟩)
    rw [nI_0] at r1 r2 r3
    rw [hmn]
    obtain ⟨D', r4⟩ := r3
    rw [← hmn]
    rw [h.2.1.2.2] at r4
    rw [hmn] at r1 r2 r4 ⊢
    exact Or.inl ⟨rfl, r2.trans (M_cd_mk ..), r1, D', NM + 1, r4⟩

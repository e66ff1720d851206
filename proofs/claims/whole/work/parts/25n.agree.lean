theorem NBU {a fm : Nat} {T : TR} {ev : Int32} {pt : PR} {us : Nat → Int32} {es : Nat → Option Nat} {evf : Nat → ER} (hD : DR ev T a fm pt us es evf) (cf : CR) (tf : SR) (cb : CR) (tb : SR) (h : C_br (m_X4_follow pt us es evf cf tf cb tb (nI 35)).1 = 0) {U : Nat} (hU : U ≤ 35) (hf : fm ≤ U) : ¬ C_br (m_X4_follow pt us es evf cf tf cb tb (nI U)).1 = 1 := by
  obtain ⟨F, B, hFd, hBd⟩ := m_FB (us := us) (es := es) (evf := evf) (fm := fm) (m_X0_open cf tf pt) (m_X0_open cb tb pt)
  rw [FO hD.1.2.2 cf tf cb tb (Nat.le_refl _) (by omega), ← hFd] at h
  rw [FO hD.1.2.2 cf tf cb tb hU hf, ← hFd]
  intro g
  have hF : ∀ i, fm ≤ i → i < 36 → F (i + 1) = F_s us es evf i ((fun i => m_X0_bookOrNone (B i).1 (B i).2) i) (F i) := fun i h1 _ => by
    rw [hFd, hFd, FB_s _ _ _ _ _ _ h1]
    show F_s us es evf i _ _ = F_s us es evf i (m_X0_bookOrNone (B i).1 (B i).2) _
    rw [hBd]
  have := br_FF hF (k := U + 1) (by omega) g (35 - U) (by omega)
  rw [show U + 1 + (35 - U) = 35 + 1 by omega] at this
  have h' : C_br (F (35 + 1)).1 = 0 := h
  rw [h'] at this
  exact absurd this (by decide)
/-- what the two walks of a part come to, up to a month -/
theorem VK {G : pw_G} {L : List Nat} {F : Nat → va_E} {ar : AR} {pr er : Nat → Option Nat} {D : pw_D} {evf : Nat → ER} {c : MR} {T : TR} {NP NE NM : Nat} (h : LI G L F ar pr er D evf c T NP NE NM) {a U : Nat} (ha : a < NP) (hU : U < 36) {c1 : MR} (hc : M_nc c1 = M_nc c) (cf : CR) (tf : SR) (cb : CR) (tb : SR) : ∃ fm, P_fi (dT D a) = nI fm ∧ fm ≤ 35 ∧ (fm ≤ U → (m_X5_reckon c1 T (nI a) (nI U)).1 = 1 ∧ RC (P_me (dT D a)) (P_ra (dT D a)) (m_X4_follow (dT D a) (dus D a) (des D a) evf cf tf cb tb (nI U)).1 (m_X5_reckon c1 T (nI a) (nI U)).2.1) ∧ (U < fm → ∃ c2 T2, (m_X5_reckon c1 T (nI a) (nI U)).2.1 = m_X5_clear c2 T2) := by
  obtain ⟨fm, hD⟩ := LI_DR h ha
  have hev : M_ev c1 = nI NE := (congrArg (fun z => z.2.2) hc).trans h.1.2.1.2
  rw [← hev] at hD
  refine ⟨fm, hD.1.2.2, hD.1.2.1, fun hf => ?_, fun hf => ?_⟩
  · rcases RK hD cf tf cb tb (U := U) (by omega) hf with ⟨q1, q2, q3, -⟩ | ⟨q1, q2⟩
    · exact ⟨q1, q3⟩
    · exact absurd q2 (NBU hD cf tf cb tb (h.2.2.2.2.2.1 a ha cf tf cb tb) (by omega) hf)
  · unfold m_X5_reckon m_X5_reckon_0 m_X5_reckon_1
    obtain ⟨-, -, -, g4, g5⟩ := f0_X5_reckon_h c1 T (nI a) (nI U)
    generalize (f0_X5_reckon c1 T (nI a) (nI U)).1 = c2 at *
    generalize (f0_X5_reckon c1 T (nI a) (nI U)).2 = T2 at *
    have hD2 := DR_cg g5 hD
    have hfi : T_fi T2 a = nI fm := by rw [← hD2.2.1.2.2.1, hD2.1.2.2]
    have hpa : Int32.toNatClampNeg (nI a) = a := nI_clamp (by have := hD.1.1; omega)
    have eg : m_X5_go c2 T2 (nI a) (nI U) 0 = (36, m_X5_clear c2 T2, T2) := by
      unfold m_X5_go
      rw [hpa, hfi, go_1 (nI_lt hf (by have := hD.1.2.1; omega))]
    rw [eg]
    exact ⟨c2, T2, rfl⟩
theorem re_nc (c : MR) (T : TR) (p un : Int32) : M_nc (m_X5_reckon c T p un).2.1 = M_nc c := by
  obtain ⟨-, h2, h3, h4, -⟩ := re_f4 c T p un
  unfold M_nc
  rw [h2, h3, h4]
/-- the data of the part that a call names -/
def PAT (G : pw_G) (L : List Nat) (F : Nat → va_E) (ar : AR) (pr er : Nat → Option Nat) (D : pw_D) (evf : Nat → ER) (NP : Nat) (cf : CR) (tf : SR) (cb : CR) (tb : SR) (i : Int32) (a : Nat) : Prop := ∀ b, m_X4_partOf ar pr er cf tf cb tb i = some b → b = dP D a ∧ a < NP ∧ i = nI a ∧ pA G L F b (dU D a) (dW D a) (dQ D a) (dT D a) (dus D a) (des D a) (dps D a) evf ∧ ∃ fm, fm ≤ 35 ∧ P_fi (dT D a) = nI fm
theorem pat_0 {G : pw_G} {L : List Nat} {F : Nat → va_E} {ar : AR} {pr er : Nat → Option Nat} {D : pw_D} {evf : Nat → ER} {NP : Nat} {cf : CR} {tf : SR} {cb : CR} {tb : SR} {i : Int32} (h : m_X4_partOf ar pr er cf tf cb tb i = none) : PAT G L F ar pr er D evf NP cf tf cb tb i 0 := fun b hb => by rw [h] at hb; cases hb
theorem pat_1 {G : pw_G} {L : List Nat} {F : Nat → va_E} {ar : AR} {pr er : Nat → Option Nat} {D : pw_D} {evf : Nat → ER} {c : MR} {T : TR} {NP NE NM : Nat} (h : LI G L F ar pr er D evf c T NP NE NM) {cf : CR} {tf : SR} {cb : CR} {tb : SR} {i : Int32} {a : Nat} (ha : a < NP) (hi : i = nI a) (hp : m_X4_partOf ar pr er cf tf cb tb i = some (dP D a)) : PAT G L F ar pr er D evf NP cf tf cb tb i a := fun b hb => by
  rw [hp] at hb
  have : dP D a = b := Option.some.inj hb
  subst this
  exact ⟨rfl, ha, hi, (h.2.2.1 a ha).2, (h.2.2.2.2.1 a ha).1⟩
theorem wi_6 (w : Int32) : m_X4_isWithin (Int32.toInt64 w) 0 6 = if w < 0 then 0 else if 6 < w then 0 else 1 := by
  show (if Int32.toInt64 w < Int32.toInt64 0 then (0 : Int32) else if Int32.toInt64 6 < Int32.toInt64 w then 0 else 1) = _
  by_cases g : w < 0
  · rw [if_pos g, if_pos (l_lt.mpr g)]
  · rw [if_neg g, if_neg (fun z => g (l_lt.mp z))]
    by_cases g2 : 6 < w
    · rw [if_pos g2, if_pos (l_lt.mpr g2)]
    · rw [if_neg g2, if_neg (fun z => g2 (l_lt.mp z))]
theorem bk_clear (c2 : MR) (T2 T : TR) : m_X5_book (m_X5_clear c2 T2) T = 0 := by
  unfold m_X5_book m_X5_clear
  rw [M_co_mk, M_al_mk]
  decide
/-- months -/
theorem ag_months {G : pw_G} {L : List Nat} {F : Nat → va_E} {ar : AR} {pr er : Nat → Option Nat} {D : pw_D} {evf : Nat → ER} {c : MR} {T : TR} {NP NE NM : Nat} (h : LI G L F ar pr er D evf c T NP NE NM) (cf : CR) (tf : SR) (cb : CR) (tb : SR) : m_X4_months ar pr er cf tf cb tb = (m_X5_months c T).1 ∧ M_nc (m_X5_months c T).2 = M_nc c := by
  refine ⟨?_, rfl⟩
  unfold m_X4_months m_X5_months
  rw [h.2.1.2.2]
  exact h.1.2.2.1.2.symm
theorem ag_parts {G : pw_G} {L : List Nat} {F : Nat → va_E} {ar : AR} {pr er : Nat → Option Nat} {D : pw_D} {evf : Nat → ER} {c : MR} {T : TR} {NP NE NM : Nat} (h : LI G L F ar pr er D evf c T NP NE NM) (cf : CR) (tf : SR) (cb : CR) (tb : SR) : m_X4_parts ar pr er cf tf cb tb = (m_X5_parts c T).1 ∧ M_nc (m_X5_parts c T).2 = M_nc c := by
  refine ⟨?_, rfl⟩
  unfold m_X4_parts m_X5_parts
  rw [h.2.1.1]
  exact h.1.1.2.symm

set_option maxHeartbeats 2000000 in
theorem ag_posted {G : pw_G} {L : List Nat} {F : Nat → va_E} {ar : AR} {pr er : Nat → Option Nat} {D : pw_D} {evf : Nat → ER} {c : MR} {T : TR} {NP NE NM : Nat} (h : LI G L F ar pr er D evf c T NP NE NM) (cf : CR) (tf : SR) (cb : CR) (tb : SR) (i mm : Int32) : ∃ a, PAT G L F ar pr er D evf NP cf tf cb tb i a ∧ ((m_X4_posted ar pr er cf tf cb tb (dT D a) (dus D a) (des D a) evf (dps D a) i mm).1 = 0 ∨ (m_X4_posted ar pr er cf tf cb tb (dT D a) (dus D a) (des D a) evf (dps D a) i mm).1 = 1) ∧ M_cd (m_X5_posted c T i mm).2 = (m_X4_posted ar pr er cf tf cb tb (dT D a) (dus D a) (des D a) evf (dps D a) i mm).1 ∧ ((m_X4_posted ar pr er cf tf cb tb (dT D a) (dus D a) (des D a) evf (dps D a) i mm).1 = 0 → (m_X4_posted ar pr er cf tf cb tb (dT D a) (dus D a) (des D a) evf (dps D a) i mm).2 = (m_X5_posted c T i mm).1) ∧ M_nc (m_X5_posted c T i mm).2 = M_nc c := by
  rcases (LI_part h cf tf cb tb i).symm with ⟨hp, hq⟩ | ⟨a, ha, hi, hp, hq⟩
  · refine ⟨0, pat_0 hp, ?_⟩
    unfold m_X4_posted m_X4_posted_0 m_X5_posted m_X5_posted_0 m_X5_posted_1 f0_X5_posted
    rw [hp, hq, if_pos rfl]
    show (((1 : Int32) = 0 ∨ (1 : Int32) = 1) ∧ _)
    rw [if_neg (show ¬ M_cd (M_mk 1 (M_pt c) (M_mn c) (M_ev c) (M_co c) (M_al c) (M_re c) (M_lo c) (M_rs c) (M_li c) (M_he c) (M_go c) (M_sp c) (M_ba c) (M_le c) (M_lf c) (M_mo c) (M_un c) (M_ch c) (M_lc c) (M_ac c) (M_bd c)) ≤ 0 by rw [M_cd_mk]; decide)]
    exact ⟨Or.inr rfl, M_cd_mk .., fun z => absurd (show (1 : Int32) = 0 from z) (by decide), rfl⟩
  have hq1 : ¬ m_X5_isPart c T i = 0 := by rw [hq]; decide
  refine ⟨a, pat_1 h ha hi hp, ?_⟩
  by_cases g1 : m_X5_isMonth mm = 0
  · unfold m_X4_posted m_X4_posted_0 m_X5_posted m_X5_posted_0 m_X5_posted_1 f0_X5_posted
    rw [hp, if_neg hq1, if_pos g1]
    rw [month_eq, if_pos g1, if_neg (show ¬ M_cd (M_mk 1 (M_pt c) (M_mn c) (M_ev c) (M_co c) (M_al c) (M_re c) (M_lo c) (M_rs c) (M_li c) (M_he c) (M_go c) (M_sp c) (M_ba c) (M_le c) (M_lf c) (M_mo c) (M_un c) (M_ch c) (M_lc c) (M_ac c) (M_bd c)) ≤ 0 by rw [M_cd_mk]; decide)]
    exact ⟨Or.inr rfl, M_cd_mk .., fun z => absurd (show (1 : Int32) = 0 from z) (by decide), rfl⟩
  obtain ⟨U, hU, hm⟩ := isMonth_in g1
  have hc1 : M_nc (M_mk 0 (M_pt c) (M_mn c) (M_ev c) (M_co c) (M_al c) (M_re c) (M_lo c) (M_rs c) (M_li c) (M_he c) (M_go c) (M_sp c) (M_ba c) (M_le c) (M_lf c) (M_mo c) (M_un c) (M_ch c) (M_lc c) (M_ac c) (M_bd c)) = M_nc c := rfl
  have hcd : M_cd (M_mk 0 (M_pt c) (M_mn c) (M_ev c) (M_co c) (M_al c) (M_re c) (M_lo c) (M_rs c) (M_li c) (M_he c) (M_go c) (M_sp c) (M_ba c) (M_le c) (M_lf c) (M_mo c) (M_un c) (M_ch c) (M_lc c) (M_ac c) (M_bd c)) ≤ 0 := by rw [M_cd_mk]; decide
  unfold m_X4_posted m_X4_posted_0 m_X5_posted m_X5_posted_0 m_X5_posted_1 f0_X5_posted
  rw [hp, if_neg hq1, if_neg g1, if_pos hcd]
  rw [month_eq, if_neg g1]
  refine ⟨Or.inl rfl, M_cd_mk .., fun _ => ?_, rfl⟩
  have hix : Int32.toNatClampNeg (36 * i + mm) = 36 * a + U := by
    rw [hi, hm, show (36 : Int32) = nI 36 from rfl, pk_mul, nI_add]
    exact nI_clamp (by have := h.1.1.1; omega)
  rw [hix, hm, nI_clamp (by omega)]
  exact (h.2.2.2.2.2.2.2.2.2.2.1 a ha).2 U hU
set_option maxHeartbeats 2000000 in
theorem ag_total {G : pw_G} {L : List Nat} {F : Nat → va_E} {ar : AR} {pr er : Nat → Option Nat} {D : pw_D} {evf : Nat → ER} {c : MR} {T : TR} {NP NE NM : Nat} (h : LI G L F ar pr er D evf c T NP NE NM) (cf : CR) (tf : SR) (cb : CR) (tb : SR) (i : Int32) : ∃ a, PAT G L F ar pr er D evf NP cf tf cb tb i a ∧ ((m_X4_total ar pr er cf tf cb tb (dT D a) (dus D a) (des D a) evf i).1 = 0 ∨ (m_X4_total ar pr er cf tf cb tb (dT D a) (dus D a) (des D a) evf i).1 = 1) ∧ M_cd (m_X5_total c T i).2 = (m_X4_total ar pr er cf tf cb tb (dT D a) (dus D a) (des D a) evf i).1 ∧ ((m_X4_total ar pr er cf tf cb tb (dT D a) (dus D a) (des D a) evf i).1 = 0 → (m_X4_total ar pr er cf tf cb tb (dT D a) (dus D a) (des D a) evf i).2 = (m_X5_total c T i).1) ∧ M_nc (m_X5_total c T i).2 = M_nc c := by
  rcases (LI_part h cf tf cb tb i).symm with ⟨hp, hq⟩ | ⟨a, ha, hi, hp, hq⟩
  · refine ⟨0, pat_0 hp, ?_⟩
    unfold m_X4_total m_X4_total_0 m_X5_total m_X5_total_0 m_X5_total_1 f0_X5_total
    rw [hp, hq, if_pos rfl]
    show (((1 : Int32) = 0 ∨ (1 : Int32) = 1) ∧ _)
    rw [if_neg (show ¬ M_cd (M_mk 1 (M_pt c) (M_mn c) (M_ev c) (M_co c) (M_al c) (M_re c) (M_lo c) (M_rs c) (M_li c) (M_he c) (M_go c) (M_sp c) (M_ba c) (M_le c) (M_lf c) (M_mo c) (M_un c) (M_ch c) (M_lc c) (M_ac c) (M_bd c)) ≤ 0 by rw [M_cd_mk]; decide)]
    exact ⟨Or.inr rfl, M_cd_mk .., fun z => absurd (show (1 : Int32) = 0 from z) (by decide), rfl⟩
  have hq1 : ¬ m_X5_isPart c T i = 0 := by rw [hq]; decide
  refine ⟨a, pat_1 h ha hi hp, ?_⟩
  have hc1 : M_nc (M_mk 0 (M_pt c) (M_mn c) (M_ev c) (M_co c) (M_al c) (M_re c) (M_lo c) (M_rs c) (M_li c) (M_he c) (M_go c) (M_sp c) (M_ba c) (M_le c) (M_lf c) (M_mo c) (M_un c) (M_ch c) (M_lc c) (M_ac c) (M_bd c)) = M_nc c := rfl
  have hcd : M_cd (M_mk 0 (M_pt c) (M_mn c) (M_ev c) (M_co c) (M_al c) (M_re c) (M_lo c) (M_rs c) (M_li c) (M_he c) (M_go c) (M_sp c) (M_ba c) (M_le c) (M_lf c) (M_mo c) (M_un c) (M_ch c) (M_lc c) (M_ac c) (M_bd c)) ≤ 0 := by rw [M_cd_mk]; decide
  unfold m_X4_total m_X4_total_0 m_X5_total m_X5_total_0 m_X5_total_1 f0_X5_total
  rw [hp, if_neg hq1, if_pos hcd]
  refine ⟨Or.inl rfl, M_cd_mk .., fun _ => ?_, rfl⟩
  show P_pa (dT D a) = m_X5_totalOf (M_mk 0 (M_pt c) (M_mn c) (M_ev c) (M_co c) (M_al c) (M_re c) (M_lo c) (M_rs c) (M_li c) (M_he c) (M_go c) (M_sp c) (M_ba c) (M_le c) (M_lf c) (M_mo c) (M_un c) (M_ch c) (M_lc c) (M_ac c) (M_bd c)) T i
  rw [hi, tot_eq (NM := NM) (by rw [M_mn_mk]; exact h.1.2.2.1.2) h.1.2.2.1.1 (by have := h.1.1.1; omega)]
  exact (h.2.2.2.2.2.2.2.2.2.2.1 a ha).1
set_option maxHeartbeats 2000000 in
theorem ag_charge {G : pw_G} {L : List Nat} {F : Nat → va_E} {ar : AR} {pr er : Nat → Option Nat} {D : pw_D} {evf : Nat → ER} {c : MR} {T : TR} {NP NE NM : Nat} (h : LI G L F ar pr er D evf c T NP NE NM) (cf : CR) (tf : SR) (cb : CR) (tb : SR) (i mm : Int32) : ∃ a, PAT G L F ar pr er D evf NP cf tf cb tb i a ∧ ((m_X4_charge ar pr er cf tf cb tb (dT D a) (dus D a) (des D a) evf i mm).1 = 0 ∨ (m_X4_charge ar pr er cf tf cb tb (dT D a) (dus D a) (des D a) evf i mm).1 = 1) ∧ M_cd (m_X5_charge c T i mm).2.1 = (m_X4_charge ar pr er cf tf cb tb (dT D a) (dus D a) (des D a) evf i mm).1 ∧ ((m_X4_charge ar pr er cf tf cb tb (dT D a) (dus D a) (des D a) evf i mm).1 = 0 → (m_X4_charge ar pr er cf tf cb tb (dT D a) (dus D a) (des D a) evf i mm).2.1 = (m_X5_charge c T i mm).1) ∧ M_nc (m_X5_charge c T i mm).2.1 = M_nc c ∧ T_st (m_X5_charge c T i mm).2.2 = T_st T := by
  rcases (LI_part h cf tf cb tb i).symm with ⟨hp, hq⟩ | ⟨a, ha, hi, hp, hq⟩
  · refine ⟨0, pat_0 hp, ?_⟩
    unfold m_X4_charge m_X4_charge_0 m_X5_charge m_X5_charge_0 m_X5_charge_1 f0_X5_charge
    rw [hp, hq, if_pos rfl]
    show (((1 : Int32) = 0 ∨ (1 : Int32) = 1) ∧ _)
    rw [if_neg (show ¬ M_cd (M_mk 1 (M_pt c) (M_mn c) (M_ev c) (M_co c) (M_al c) (M_re c) (M_lo c) (M_rs c) (M_li c) (M_he c) (M_go c) (M_sp c) (M_ba c) (M_le c) (M_lf c) (M_mo c) (M_un c) (M_ch c) (M_lc c) (M_ac c) (M_bd c)) ≤ 0 by rw [M_cd_mk]; decide)]
    exact ⟨Or.inr rfl, M_cd_mk .., fun z => absurd (show (1 : Int32) = 0 from z) (by decide), rfl, rfl⟩
  have hq1 : ¬ m_X5_isPart c T i = 0 := by rw [hq]; decide
  refine ⟨a, pat_1 h ha hi hp, ?_⟩
  by_cases g1 : m_X5_isMonth mm = 0
  · unfold m_X4_charge m_X4_charge_0 m_X5_charge m_X5_charge_0 m_X5_charge_1 f0_X5_charge
    rw [hp, if_neg hq1, if_pos g1]
    rw [month_eq, if_pos g1, if_neg (show ¬ M_cd (M_mk 1 (M_pt c) (M_mn c) (M_ev c) (M_co c) (M_al c) (M_re c) (M_lo c) (M_rs c) (M_li c) (M_he c) (M_go c) (M_sp c) (M_ba c) (M_le c) (M_lf c) (M_mo c) (M_un c) (M_ch c) (M_lc c) (M_ac c) (M_bd c)) ≤ 0 by rw [M_cd_mk]; decide)]
    exact ⟨Or.inr rfl, M_cd_mk .., fun z => absurd (show (1 : Int32) = 0 from z) (by decide), rfl, rfl⟩
  obtain ⟨U, hU, hm⟩ := isMonth_in g1
  have hc1 : M_nc (M_mk 0 (M_pt c) (M_mn c) (M_ev c) (M_co c) (M_al c) (M_re c) (M_lo c) (M_rs c) (M_li c) (M_he c) (M_go c) (M_sp c) (M_ba c) (M_le c) (M_lf c) (M_mo c) (M_un c) (M_ch c) (M_lc c) (M_ac c) (M_bd c)) = M_nc c := rfl
  have hcd : M_cd (M_mk 0 (M_pt c) (M_mn c) (M_ev c) (M_co c) (M_al c) (M_re c) (M_lo c) (M_rs c) (M_li c) (M_he c) (M_go c) (M_sp c) (M_ba c) (M_le c) (M_lf c) (M_mo c) (M_un c) (M_ch c) (M_lc c) (M_ac c) (M_bd c)) ≤ 0 := by rw [M_cd_mk]; decide
  obtain ⟨fm, p1, p2, p3, p4⟩ := VK h ha hU hc1 cf tf cb tb
  obtain ⟨k1, -, -, -, k5⟩ := re_f4 (M_mk 0 (M_pt c) (M_mn c) (M_ev c) (M_co c) (M_al c) (M_re c) (M_lo c) (M_rs c) (M_li c) (M_he c) (M_go c) (M_sp c) (M_ba c) (M_le c) (M_lf c) (M_mo c) (M_un c) (M_ch c) (M_lc c) (M_ac c) (M_bd c)) T i mm
  have k6 := re_nc (M_mk 0 (M_pt c) (M_mn c) (M_ev c) (M_co c) (M_al c) (M_re c) (M_lo c) (M_rs c) (M_li c) (M_he c) (M_go c) (M_sp c) (M_ba c) (M_le c) (M_lf c) (M_mo c) (M_un c) (M_ch c) (M_lc c) (M_ac c) (M_bd c)) T i mm
  rw [← hi, ← hm] at p3 p4
  unfold m_X4_charge m_X4_charge_0 m_X5_charge m_X5_charge_0 m_X5_charge_1 f0_X5_charge
  rw [hp, if_neg hq1, if_neg g1, if_pos hcd]
  rw [month_eq, if_neg g1]
  by_cases g2 : P_fi (dT D a) ≤ mm
  · rw [if_pos g2]
    rw [p1, hm, nI_leI (by omega) (by omega)] at g2
    have p5 := (p3 g2).2
    exact ⟨Or.inl rfl, k1.trans (M_cd_mk ..), fun _ => p5.2.2.1.1, k6.trans hc1, k5⟩
  · rw [if_neg g2]
    rw [p1, hm, nI_leI (by omega) (by omega)] at g2
    obtain ⟨c2, T2, p5⟩ := p4 (by omega)
    refine ⟨Or.inl rfl, k1.trans (M_cd_mk ..), fun _ => ?_, k6.trans hc1, k5⟩
    rw [p5]
    rfl
set_option maxHeartbeats 2000000 in
theorem ag_value {G : pw_G} {L : List Nat} {F : Nat → va_E} {ar : AR} {pr er : Nat → Option Nat} {D : pw_D} {evf : Nat → ER} {c : MR} {T : TR} {NP NE NM : Nat} (h : LI G L F ar pr er D evf c T NP NE NM) (cf : CR) (tf : SR) (cb : CR) (tb : SR) (i mm wh : Int32) : ∃ a, PAT G L F ar pr er D evf NP cf tf cb tb i a ∧ ((m_X4_value ar pr er cf tf cb tb (dT D a) (dus D a) (des D a) evf i mm wh).1 = 0 ∨ (m_X4_value ar pr er cf tf cb tb (dT D a) (dus D a) (des D a) evf i mm wh).1 = 1) ∧ M_cd (m_X5_value c T i mm wh).2.1 = (m_X4_value ar pr er cf tf cb tb (dT D a) (dus D a) (des D a) evf i mm wh).1 ∧ ((m_X4_value ar pr er cf tf cb tb (dT D a) (dus D a) (des D a) evf i mm wh).1 = 0 → (m_X4_value ar pr er cf tf cb tb (dT D a) (dus D a) (des D a) evf i mm wh).2.1 = (m_X5_value c T i mm wh).1) ∧ M_nc (m_X5_value c T i mm wh).2.1 = M_nc c ∧ T_st (m_X5_value c T i mm wh).2.2 = T_st T := by
  rcases (LI_part h cf tf cb tb i).symm with ⟨hp, hq⟩ | ⟨a, ha, hi, hp, hq⟩
  · refine ⟨0, pat_0 hp, ?_⟩
    unfold m_X4_value m_X4_value_0 m_X5_value m_X5_value_0 m_X5_value_1 f0_X5_value
    rw [hp, hq, if_pos rfl]
    show (((1 : Int32) = 0 ∨ (1 : Int32) = 1) ∧ _)
    rw [if_neg (show ¬ M_cd (M_mk 1 (M_pt c) (M_mn c) (M_ev c) (M_co c) (M_al c) (M_re c) (M_lo c) (M_rs c) (M_li c) (M_he c) (M_go c) (M_sp c) (M_ba c) (M_le c) (M_lf c) (M_mo c) (M_un c) (M_ch c) (M_lc c) (M_ac c) (M_bd c)) ≤ 0 by rw [M_cd_mk]; decide)]
    exact ⟨Or.inr rfl, M_cd_mk .., fun z => absurd (show (1 : Int32) = 0 from z) (by decide), rfl, rfl⟩
  have hq1 : ¬ m_X5_isPart c T i = 0 := by rw [hq]; decide
  refine ⟨a, pat_1 h ha hi hp, ?_⟩
  by_cases g1 : m_X5_isMonth mm = 0
  · unfold m_X4_value m_X4_value_0 m_X5_value m_X5_value_0 m_X5_value_1 f0_X5_value
    rw [hp, if_neg hq1, if_pos g1]
    rw [month_eq, if_pos g1, if_neg (show ¬ M_cd (M_mk 1 (M_pt c) (M_mn c) (M_ev c) (M_co c) (M_al c) (M_re c) (M_lo c) (M_rs c) (M_li c) (M_he c) (M_go c) (M_sp c) (M_ba c) (M_le c) (M_lf c) (M_mo c) (M_un c) (M_ch c) (M_lc c) (M_ac c) (M_bd c)) ≤ 0 by rw [M_cd_mk]; decide)]
    exact ⟨Or.inr rfl, M_cd_mk .., fun z => absurd (show (1 : Int32) = 0 from z) (by decide), rfl, rfl⟩
  obtain ⟨U, hU, hm⟩ := isMonth_in g1
  have hc1 : M_nc (M_mk 0 (M_pt c) (M_mn c) (M_ev c) (M_co c) (M_al c) (M_re c) (M_lo c) (M_rs c) (M_li c) (M_he c) (M_go c) (M_sp c) (M_ba c) (M_le c) (M_lf c) (M_mo c) (M_un c) (M_ch c) (M_lc c) (M_ac c) (M_bd c)) = M_nc c := rfl
  have hcd : M_cd (M_mk 0 (M_pt c) (M_mn c) (M_ev c) (M_co c) (M_al c) (M_re c) (M_lo c) (M_rs c) (M_li c) (M_he c) (M_go c) (M_sp c) (M_ba c) (M_le c) (M_lf c) (M_mo c) (M_un c) (M_ch c) (M_lc c) (M_ac c) (M_bd c)) ≤ 0 := by rw [M_cd_mk]; decide
  by_cases g3 : m_X4_isWithin (Int32.toInt64 wh) 0 6 = 0
  · unfold m_X4_value m_X4_value_0 m_X5_value m_X5_value_0 m_X5_value_1 f0_X5_value
    rw [hp, if_neg hq1, if_neg g1]
    rw [month_eq, if_neg g1, if_pos g3]
    rw [wi_6] at g3
    have e1 : (if wh < 0 then (M_mk 1 (M_pt c) (M_mn c) (M_ev c) (M_co c) (M_al c) (M_re c) (M_lo c) (M_rs c) (M_li c) (M_he c) (M_go c) (M_sp c) (M_ba c) (M_le c) (M_lf c) (M_mo c) (M_un c) (M_ch c) (M_lc c) (M_ac c) (M_bd c)) else if 6 < wh then (M_mk 1 (M_pt c) (M_mn c) (M_ev c) (M_co c) (M_al c) (M_re c) (M_lo c) (M_rs c) (M_li c) (M_he c) (M_go c) (M_sp c) (M_ba c) (M_le c) (M_lf c) (M_mo c) (M_un c) (M_ch c) (M_lc c) (M_ac c) (M_bd c)) else (M_mk 0 (M_pt c) (M_mn c) (M_ev c) (M_co c) (M_al c) (M_re c) (M_lo c) (M_rs c) (M_li c) (M_he c) (M_go c) (M_sp c) (M_ba c) (M_le c) (M_lf c) (M_mo c) (M_un c) (M_ch c) (M_lc c) (M_ac c) (M_bd c))) = (M_mk 1 (M_pt c) (M_mn c) (M_ev c) (M_co c) (M_al c) (M_re c) (M_lo c) (M_rs c) (M_li c) (M_he c) (M_go c) (M_sp c) (M_ba c) (M_le c) (M_lf c) (M_mo c) (M_un c) (M_ch c) (M_lc c) (M_ac c) (M_bd c)) := by
      by_cases y : wh < 0
      · rw [if_pos y]
      · rw [if_neg y] at g3 ⊢
        by_cases y2 : 6 < wh
        · rw [if_pos y2]
        · rw [if_neg y2] at g3
          exact absurd g3 (by decide)
    rw [e1, if_neg (show ¬ M_cd (M_mk 1 (M_pt c) (M_mn c) (M_ev c) (M_co c) (M_al c) (M_re c) (M_lo c) (M_rs c) (M_li c) (M_he c) (M_go c) (M_sp c) (M_ba c) (M_le c) (M_lf c) (M_mo c) (M_un c) (M_ch c) (M_lc c) (M_ac c) (M_bd c)) ≤ 0 by rw [M_cd_mk]; decide)]
    exact ⟨Or.inr rfl, M_cd_mk .., fun z => absurd (show (1 : Int32) = 0 from z) (by decide), rfl, rfl⟩
  obtain ⟨fm, p1, p2, p3, p4⟩ := VK h ha hU hc1 cf tf cb tb
  obtain ⟨k1, -, -, -, k5⟩ := re_f4 (M_mk 0 (M_pt c) (M_mn c) (M_ev c) (M_co c) (M_al c) (M_re c) (M_lo c) (M_rs c) (M_li c) (M_he c) (M_go c) (M_sp c) (M_ba c) (M_le c) (M_lf c) (M_mo c) (M_un c) (M_ch c) (M_lc c) (M_ac c) (M_bd c)) T i mm
  have k6 := re_nc (M_mk 0 (M_pt c) (M_mn c) (M_ev c) (M_co c) (M_al c) (M_re c) (M_lo c) (M_rs c) (M_li c) (M_he c) (M_go c) (M_sp c) (M_ba c) (M_le c) (M_lf c) (M_mo c) (M_un c) (M_ch c) (M_lc c) (M_ac c) (M_bd c)) T i mm
  rw [← hi, ← hm] at p3 p4
  have e1 : f0_X5_value c T i mm wh = (M_mk 0 (M_pt c) (M_mn c) (M_ev c) (M_co c) (M_al c) (M_re c) (M_lo c) (M_rs c) (M_li c) (M_he c) (M_go c) (M_sp c) (M_ba c) (M_le c) (M_lf c) (M_mo c) (M_un c) (M_ch c) (M_lc c) (M_ac c) (M_bd c)) := by
    unfold f0_X5_value
    rw [if_neg hq1, if_neg g1]
    rw [wi_6] at g3
    by_cases y : wh < 0
    · rw [if_pos y] at g3; exact absurd rfl g3
    · rw [if_neg y] at g3 ⊢
      by_cases y2 : 6 < wh
      · rw [if_pos y2] at g3; exact absurd rfl g3
      · rw [if_neg y2]
  unfold m_X4_value m_X4_value_0 m_X5_value m_X5_value_0 m_X5_value_1
  rw [hp, e1, if_pos hcd]
  rw [month_eq, if_neg g1, if_neg g3]
  by_cases g2 : P_fi (dT D a) ≤ mm
  · rw [if_pos g2]
    rw [p1, hm, nI_leI (by omega) (by omega)] at g2
    have p5 := (p3 g2).2
    by_cases w0 : wh = 0
    · rw [if_pos w0, if_pos w0]
      exact ⟨Or.inl rfl, k1.trans (M_cd_mk ..), fun _ => p5.1.1, k6.trans hc1, k5⟩
    rw [if_neg w0, if_neg w0]
    by_cases w1 : wh = 1
    · rw [if_pos w1, if_pos w1]
      exact ⟨Or.inl rfl, k1.trans (M_cd_mk ..), fun _ => p5.1.2.1, k6.trans hc1, k5⟩
    rw [if_neg w1, if_neg w1]
    by_cases w2 : wh = 2
    · rw [if_pos w2, if_pos w2]
      exact ⟨Or.inl rfl, k1.trans (M_cd_mk ..), fun _ => (bk_RC (t := (m_X4_follow (dT D a) (dus D a) (des D a) evf cf tf cb tb mm).2.1) (T := (m_X5_reckon (M_mk 0 (M_pt c) (M_mn c) (M_ev c) (M_co c) (M_al c) (M_re c) (M_lo c) (M_rs c) (M_li c) (M_he c) (M_go c) (M_sp c) (M_ba c) (M_le c) (M_lf c) (M_mo c) (M_un c) (M_ch c) (M_lc c) (M_ac c) (M_bd c)) T i mm).2.2) p5).symm, k6.trans hc1, k5⟩
    rw [if_neg w2, if_neg w2]
    by_cases w3 : wh = 3
    · rw [if_pos w3, if_pos w3]
      exact ⟨Or.inl rfl, k1.trans (M_cd_mk ..), fun _ => p5.1.2.2.1, k6.trans hc1, k5⟩
    rw [if_neg w3, if_neg w3]
    by_cases w4 : wh = 4
    · rw [if_pos w4, if_pos w4]
      exact ⟨Or.inl rfl, k1.trans (M_cd_mk ..), fun _ => p5.1.2.2.2.1, k6.trans hc1, k5⟩
    rw [if_neg w4, if_neg w4]
    by_cases w5 : wh = 5
    · rw [if_pos w5, if_pos w5]
      exact ⟨Or.inl rfl, k1.trans (M_cd_mk ..), fun _ => p5.1.2.2.2.2, k6.trans hc1, k5⟩
    rw [if_neg w5, if_neg w5]
    exact ⟨Or.inl rfl, k1.trans (M_cd_mk ..), fun _ => congrArg Int32.toInt64 p5.2.1.1, k6.trans hc1, k5⟩
  · rw [if_neg g2]
    rw [p1, hm, nI_leI (by omega) (by omega)] at g2
    obtain ⟨c2, T2, p5⟩ := p4 (by omega)
    rw [p5] at k1 k6
    by_cases w0 : wh = 0
    · rw [if_pos w0, p5]
      exact ⟨Or.inl rfl, k1, fun _ => rfl, k6, k5⟩
    rw [if_neg w0]
    by_cases w1 : wh = 1
    · rw [if_pos w1, p5]
      exact ⟨Or.inl rfl, k1, fun _ => rfl, k6, k5⟩
    rw [if_neg w1]
    by_cases w2 : wh = 2
    · rw [if_pos w2, p5]
      exact ⟨Or.inl rfl, k1, fun _ => (bk_clear c2 T2 T).symm, k6, k5⟩
    rw [if_neg w2]
    by_cases w3 : wh = 3
    · rw [if_pos w3, p5]
      exact ⟨Or.inl rfl, k1, fun _ => rfl, k6, k5⟩
    rw [if_neg w3]
    by_cases w4 : wh = 4
    · rw [if_pos w4, p5]
      exact ⟨Or.inl rfl, k1, fun _ => rfl, k6, k5⟩
    rw [if_neg w4]
    by_cases w5 : wh = 5
    · rw [if_pos w5, p5]
      exact ⟨Or.inl rfl, k1, fun _ => rfl, k6, k5⟩
    rw [if_neg w5]
    rw [p5]
    exact ⟨Or.inl rfl, k1, fun _ => rfl, k6, k5⟩

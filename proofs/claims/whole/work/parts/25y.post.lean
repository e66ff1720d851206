/-- the invariant while a month is being posted: nm says up to which month a part is posted -/
def LQ (G : pw_G) (L : List Nat) (F : Nat → va_E) (ar : AR) (pr er : Nat → Option Nat) (D : pw_D) (evf : Nat → ER) (c : MR) (T : TR) (NP NE NM : Nat) (nm : Nat → Nat) : Prop :=
  RI c T NP NE NM ∧ (A_pc ar = nI NP ∧ A_ec ar = nI NE ∧ A_mc ar = nI NM) ∧ (∀ a, a < NP → pr a = some (dP D a) ∧ pD G L F D evf a) ∧ LDI D NP ∧
  (∀ a, a < NP → PRM T a (dT D a) (dus D a)) ∧
  (∀ a, a < NP → ∀ cf tf cb tb, C_br (m_X4_follow (dT D a) (dus D a) (des D a) evf cf tf cb tb (nI 35)).1 = 0) ∧
  (∀ i, i < NE → ERW L F er D evf T NP i) ∧
  (∀ a j, a < NP → j < 36 → ∀ e, des D a j = some e → ∃ i, i < NE ∧ er i = some e ∧ T_of T i = nI (a + 1) ∧ T_wh T i = nI j) ∧
  (∀ i i', i < NE → i' < NE → ∀ e, er i = some e → er i' = some e → i = i') ∧
  (∀ a, a < NP → P_ec (dT D a) = nI (cntN (T_of T) a NE) ∧ cntN (T_of T) a NE ≤ 8) ∧
  (∀ a, a < NP → P_pa (dT D a) = totN (T_po T) a (nm a) ∧ ∀ j, j < 36 → dps D a j = T_po T (36 * a + j)) ∧
  (∀ a j, a < NP → nm a ≤ j → j < 36 → T_po T (36 * a + j) = 0) ∧
  (∀ a j, NP ≤ a → a < 6 → j < 36 → T_us T (36 * a + j) = 0 ∧ T_po T (36 * a + j) = 0)
theorem LQ_mv {G : pw_G} {L : List Nat} {F : Nat → va_E} {ar : AR} {pr er : Nat → Option Nat} {D : pw_D} {evf : Nat → ER} {c : MR} {T : TR} {NP NE NM : Nat} {nm : Nat → Nat} {c' : MR} {T' : TR} (h : LQ G L F ar pr er D evf c T NP NE NM nm) (hc : M_nc c' = M_nc c) (hT : T_st T' = T_st T) : LQ G L F ar pr er D evf c' T' NP NE NM nm := by
  obtain ⟨h1, h2, h3, h4, h5, h6, h7, h8, h9, h10, h11, h12, h13⟩ := h
  refine ⟨RI_st (RI_nc h1 hc) hT, h2, h3, h4, ?_, h6, ?_, ?_, h9, ?_, ?_, ?_, ?_⟩
  · unfold PRM
    rw [st_cs hT, st_rs hT, st_fi hT, st_li9 hT, st_me hT, st_ra hT, st_us hT]
    exact h5
  · unfold ERW
    rw [st_ki hT, st_am hT, st_nu hT, st_of hT, st_wh hT]
    exact h7
  · rw [st_of hT, st_wh hT]
    exact h8
  · rw [st_of hT]
    exact h10
  · rw [st_po hT]
    exact h11
  · rw [st_po hT]
    exact h12
  · rw [st_us hT, st_po hT]
    exact h13
theorem tot_lo (f : Nat → Int64) (a : Nat) {i : Nat} (x : Int64) : ∀ n, (∀ k, k < n → ¬ 36 * a + k = i) → totN (vp_updL f i x) a n = totN f a n := by
  intro n
  induction n with
  | zero => intro _; rfl
  | succ n ih =>
    intro h
    show totN (vp_updL f i x) a n + vp_updL f i x (36 * a + n) = totN f a n + f (36 * a + n)
    rw [vpl_n (h n (by omega)), ih (fun k hk => h k (by omega))]
theorem vpl_sm {f : Nat → Int64} {i : Nat} {x : Int64} (h : f i = x) : vp_updL f i x = f := by
  funext k
  by_cases e : k = i
  · rw [e, vpl_s, h]
  · rw [vpl_n e]
def dsQ (D : pw_D) (a : Nat) (ps' : Nat → Int64) : pw_D := (D.1, D.2.1, D.2.2.1, D.2.2.2.1, D.2.2.2.2.1, D.2.2.2.2.2.1, D.2.2.2.2.2.2.1, va_up D.2.2.2.2.2.2.2 a ps')
theorem dsQ_s (D : pw_D) (a : Nat) (ps' : Nat → Int64) : dps (dsQ D a ps') a = ps' := va_up_self ..
theorem dsQ_n (D : pw_D) {a b : Nat} (ps' : Nat → Int64) (h : b ≠ a) : dps (dsQ D a ps') b = dps D b := va_up_ne _ _ h
/-- a part whose first month lies ahead: nothing is posted -/
theorem LQ_skip {G : pw_G} {L : List Nat} {F : Nat → va_E} {ar : AR} {pr er : Nat → Option Nat} {D : pw_D} {evf : Nat → ER} {c : MR} {T : TR} {NP NE NM : Nat} {nm : Nat → Nat} (h : LQ G L F ar pr er D evf c T NP NE NM nm) {k : Nat} (hk : k < NP) (hm : nm k = NM) (hM : NM < 36) : LQ G L F ar pr er D evf c (T_s_po T (vp_updL (T_po T) (36 * k + NM) 0)) NP NE NM (va_up nm k (NM + 1)) := by
  have hz : T_po T (36 * k + NM) = 0 := h.2.2.2.2.2.2.2.2.2.2.2.1 k NM hk (by omega) hM
  have e : vp_updL (T_po T) (36 * k + NM) 0 = T_po T := vpl_sm hz
  have hT : T_st (T_s_po T (vp_updL (T_po T) (36 * k + NM) 0)) = T_st T := by
    unfold T_st
    rw [e, T_cs_s_po, T_rs_s_po, T_fi_s_po, T_li_s_po, T_me_s_po, T_ra_s_po, T_us_s_po, T_po_s_po, T_of_s_po, T_wh_s_po, T_ki_s_po, T_am_s_po, T_nu_s_po]
  have hq := LQ_mv (c' := c) h rfl hT
  obtain ⟨h1, h2, h3, h4, h5, h6, h7, h8, h9, h10, h11, h12, h13⟩ := hq
  refine ⟨h1, h2, h3, h4, h5, h6, h7, h8, h9, h10, fun a ha => ?_, fun a j ha hj1 hj2 => ?_, h13⟩
  · obtain ⟨x1, x2⟩ := h11 a ha
    refine ⟨?_, x2⟩
    by_cases y : a = k
    · subst y
      rw [va_up_self]
      rw [x1, hm]
      show _ = totN _ a NM + _
      rw [h12 a NM ha (by omega) hM]
      exact (Int64.add_zero _).symm
    · rw [va_up_ne _ _ y]
      exact x1
  · by_cases y : a = k
    · subst y
      rw [va_up_self] at hj1
      exact h12 a j ha (by omega) hj2
    · rw [va_up_ne _ _ y] at hj1
      exact h12 a j ha hj1 hj2
set_option maxHeartbeats 2000000 in
/-- a part's posting -/
theorem LQ_post {G : pw_G} {L : List Nat} {F : Nat → va_E} {ar : AR} {pr er : Nat → Option Nat} {D : pw_D} {evf : Nat → ER} {c : MR} {T : TR} {NP NE NM : Nat} {nm : Nat → Nat} (h : LQ G L F ar pr er D evf c T NP NE NM nm) {k : Nat} (hk : k < NP) (hm : nm k = NM) (hM : NM < 36) (A : Int64) (h12n : ∀ b, b < NP → nm b ≤ 36) : LQ G L (va_up (va_up F (dQ D k) (.inl (G.2.2.1, 36, .inr (.inl (vp_updL (dps D k) NM (A - P_pa (dT D k))))))) (dP D k) (cP (dU D k) (dW D k) (dQ D k) (P_mk (P_co (dT D k)) (P_rs (dT D k)) (P_fi (dT D k)) (P_li (dT D k)) (P_me (dT D k)) (P_ra (dT D k)) (P_ec (dT D k)) A))) ar pr er (dsT (dsQ D k (vp_updL (dps D k) NM (A - P_pa (dT D k)))) k (P_mk (P_co (dT D k)) (P_rs (dT D k)) (P_fi (dT D k)) (P_li (dT D k)) (P_me (dT D k)) (P_ra (dT D k)) (P_ec (dT D k)) A)) evf c (T_s_po T (vp_updL (T_po T) (36 * k + NM) (A - P_pa (dT D k)))) NP NE NM (va_up nm k (NM + 1)) := by
  have hN6 : NP ≤ 6 := h.1.1.1
  obtain ⟨h1, h2, h3, h4, h5, h6, h7, h8, h9, h10, h11, h12, h13⟩ := h
  have K := (h3 k hk).2
  have q9 := K.2.2.2.1.2
  have p9 : (va_up F (dQ D k) (.inl (G.2.2.1, 36, .inr (.inl (vp_updL (dps D k) NM (A - P_pa (dT D k))))))) (dP D k) = cP (dU D k) (dW D k) (dQ D k) (dT D k) := by
    rw [va_up_ne _ _ (up_ne K.1.2 q9 (by simp))]
    exact K.1.2
  refine ⟨?_, h2, ?_, h4, ?_, ?_, ?_, ?_, h9, ?_, ?_, ?_, ?_⟩
  · unfold RI at h1 ⊢
    rw [T_fi_s_po, T_li_s_po, T_ki_s_po, T_nu_s_po, T_of_s_po]
    exact h1
  · intro b hb
    refine ⟨(h3 b hb).1, ?_⟩
    show pA G L (va_up (va_up F (dQ D k) (.inl (G.2.2.1, 36, .inr (.inl (vp_updL (dps D k) NM (A - P_pa (dT D k))))))) (dP D k) (cP (dU D k) (dW D k) (dQ D k) (P_mk (P_co (dT D k)) (P_rs (dT D k)) (P_fi (dT D k)) (P_li (dT D k)) (P_me (dT D k)) (P_ra (dT D k)) (P_ec (dT D k)) A))) (dP D b) (dU D b) (dW D b) (dQ D b) (dT (dsT (dsQ D k (vp_updL (dps D k) NM (A - P_pa (dT D k)))) k (P_mk (P_co (dT D k)) (P_rs (dT D k)) (P_fi (dT D k)) (P_li (dT D k)) (P_me (dT D k)) (P_ra (dT D k)) (P_ec (dT D k)) A)) b) (dus D b) (des D b) (dps (dsQ D k (vp_updL (dps D k) NM (A - P_pa (dT D k)))) b) evf
    by_cases e : b = k
    · subst e
      rw [dsT_s, dsQ_s]
      exact pA_pt (pA_ps (h3 b hb).2 _) _
    · rw [dsT_n _ _ e, dsQ_n _ _ e]
      obtain ⟨⟨a1, a2⟩, ⟨b1, b2⟩, ⟨c1, c2⟩, ⟨d1, d2⟩, hev⟩ := (h3 b hb).2
      obtain ⟨l1, l2, l3, l4⟩ := h4 b k hb hk e
      refine ⟨⟨a1, ?_⟩, ⟨b1, ?_⟩, ⟨c1, ?_⟩, ⟨d1, ?_⟩, fun i hi x hx => pE_p (pE_w (hev i hi x hx) q9) p9⟩
      · rw [va_up_ne _ _ l1, va_up_ne _ _ (up_ne a2 q9 (by simp))]; exact a2
      · rw [va_up_ne _ _ (up_ne b2 K.1.2 (by simp)), va_up_ne _ _ (up_ne b2 q9 (by simp))]; exact b2
      · rw [va_up_ne _ _ (up_ne c2 K.1.2 (by simp)), va_up_ne _ _ (up_ne c2 q9 (by simp))]; exact c2
      · rw [va_up_ne _ _ (up_ne d2 K.1.2 (by simp)), va_up_ne _ _ l4]; exact d2
  · intro b hb
    have p := h5 b hb
    have p' : PRM (T_s_po T (vp_updL (T_po T) (36 * k + NM) (A - P_pa (dT D k)))) b (dT D b) (dus D b) := by
      unfold PRM at p ⊢
      rw [T_cs_s_po, T_rs_s_po, T_fi_s_po, T_li_s_po, T_me_s_po, T_ra_s_po, T_us_s_po]
      exact p
    show PRM (T_s_po T (vp_updL (T_po T) (36 * k + NM) (A - P_pa (dT D k)))) b (dT (dsT (dsQ D k (vp_updL (dps D k) NM (A - P_pa (dT D k)))) k (P_mk (P_co (dT D k)) (P_rs (dT D k)) (P_fi (dT D k)) (P_li (dT D k)) (P_me (dT D k)) (P_ra (dT D k)) (P_ec (dT D k)) A)) b) (dus D b)
    by_cases e : b = k
    · subst e
      rw [dsT_s]
      exact prm_pt _ _ p'
    · rw [dsT_n _ _ e]
      exact p'
  · intro b hb cf tf cb tb
    show C_br (m_X4_follow (dT (dsT (dsQ D k (vp_updL (dps D k) NM (A - P_pa (dT D k)))) k (P_mk (P_co (dT D k)) (P_rs (dT D k)) (P_fi (dT D k)) (P_li (dT D k)) (P_me (dT D k)) (P_ra (dT D k)) (P_ec (dT D k)) A)) b) (dus D b) (des D b) evf cf tf cb tb (nI 35)).1 = 0
    by_cases e : b = k
    · subst e
      rw [dsT_s, fol_pt]
      exact h6 b hb cf tf cb tb
    · rw [dsT_n _ _ e]
      exact h6 b hb cf tf cb tb
  · intro i hi
    obtain ⟨v, g⟩ := h7 i hi
    unfold ERW
    rw [T_ki_s_po, T_am_s_po, T_nu_s_po, T_of_s_po, T_wh_s_po]
    refine ⟨v, ?_⟩
    rcases g with g | ⟨e, a', j', g1, g2, g3⟩
    · exact Or.inl g
    · exact Or.inr ⟨e, a', j', g1, pE_p (pE_w g2 q9) p9, g3⟩
  · rw [T_of_s_po, T_wh_s_po]
    exact h8
  · intro b hb
    rw [T_of_s_po]
    show P_ec (dT (dsT (dsQ D k (vp_updL (dps D k) NM (A - P_pa (dT D k)))) k (P_mk (P_co (dT D k)) (P_rs (dT D k)) (P_fi (dT D k)) (P_li (dT D k)) (P_me (dT D k)) (P_ra (dT D k)) (P_ec (dT D k)) A)) b) = _ ∧ _
    by_cases e : b = k
    · subst e
      rw [dsT_s, P_ec_mk]
      exact h10 b hb
    · rw [dsT_n _ _ e]
      exact h10 b hb
  · intro b hb
    rw [T_po_s_po]
    obtain ⟨x1, x2⟩ := h11 b hb
    show P_pa (dT (dsT (dsQ D k (vp_updL (dps D k) NM (A - P_pa (dT D k)))) k (P_mk (P_co (dT D k)) (P_rs (dT D k)) (P_fi (dT D k)) (P_li (dT D k)) (P_me (dT D k)) (P_ra (dT D k)) (P_ec (dT D k)) A)) b) = _ ∧ ∀ j, j < 36 → dps (dsQ D k (vp_updL (dps D k) NM (A - P_pa (dT D k)))) b j = _
    by_cases e : b = k
    · subst e
      rw [dsT_s, dsQ_s, P_pa_mk, va_up_self]
      refine ⟨?_, fun j hj => ?_⟩
      · show A = totN _ b NM + vp_updL _ _ _ (36 * b + NM)
        rw [vpl_s, tot_lo _ _ _ NM (fun i hi z => by omega), ← hm, ← x1, ← r_2, Int64.add_comm, Int64.add_sub_cancel]
      · by_cases y : j = NM
        · subst y
          rw [vpl_s, vpl_s]
        · rw [vpl_n y, vpl_n (by omega)]
          exact x2 j hj
    · rw [dsT_n _ _ e, dsQ_n _ _ e, va_up_ne nm _ e]
      refine ⟨?_, fun j hj => ?_⟩
      · by_cases y : nm b ≤ 36
        · rw [tot_lo _ _ _ (nm b) (fun i hi z => by omega)]
          exact x1
        · exact absurd (h12n b hb) y
      · rw [vpl_n (by omega)]
        exact x2 j hj
  · intro b j hb hj1 hj2
    rw [T_po_s_po]
    by_cases e : b = k
    · subst e
      rw [va_up_self] at hj1
      rw [vpl_n (by omega)]
      exact h12 b j hb (by omega) hj2
    · rw [va_up_ne _ _ e] at hj1
      rw [vpl_n (by omega)]
      exact h12 b j hb hj1 hj2
  · intro b j hb1 hb2 hj
    rw [T_us_s_po, T_po_s_po, vpl_n (by omega)]
    exact h13 b j hb1 hb2 hj

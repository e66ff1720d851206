set_option maxHeartbeats 2000000 in
theorem LI_ev {G : pw_G} {L : List Nat} {F : Nat → va_E} {ar : AR} {pr er : Nat → Option Nat} {D : pw_D} {evf : Nat → ER} {c : MR} {T : TR} {NP NE NM : Nat} (h : LI G L F ar pr er D evf c T NP NE NM) (hNE : NE < 40) {a j b : Nat} (ha : a < NP) (hj : j < 36) {ki : Int32} {v : Int64} {n : Int32} (hv : EV ki v n) (hb : b ∉ L) (hno : des D a j = none) (hcnt : cntN (T_of T) a NE < 8) {c5 : MR} (hc1 : M_pt c5 = M_pt c) (hc2 : M_mn c5 = M_mn c) (hc3 : M_ev c5 = nI (NE + 1)) (hnb : ∀ cf tf cb tb, C_br (m_X4_follow (dT D a) (dus D a) (va_up (des D a) j (some b)) (va_up evf b (E_mk (nI a) (nI j) ki v n)) cf tf cb tb (nI 35)).1 = 0) : LI G (L ++ [b]) (va_up (va_up (va_up F b (cE (E_mk (nI a) (nI j) ki v n))) (dW D a) (.inl (G.2.2.2.1, 36, .inr (.inr (.inr (.inr (va_up (des D a) j (some b)))))))) (dP D a) (cP (dU D a) (dW D a) (dQ D a) (P_mk (P_co (dT D a)) (P_rs (dT D a)) (P_fi (dT D a)) (P_li (dT D a)) (P_me (dT D a)) (P_ra (dT D a)) ((P_ec (dT D a)) + 1) (P_pa (dT D a))))) (A_mk (A_pc ar) (A_ec ar + 1) (A_mc ar)) pr (va_up er NE (some b)) (dsT (dsE D a (va_up (des D a) j (some b))) a (P_mk (P_co (dT D a)) (P_rs (dT D a)) (P_fi (dT D a)) (P_li (dT D a)) (P_me (dT D a)) (P_ra (dT D a)) ((P_ec (dT D a)) + 1) (P_pa (dT D a)))) (va_up evf b (E_mk (nI a) (nI j) ki v n)) c5 (tE T NE (nI (a + 1)) (nI j) ki v n) NP (NE + 1) NM := by
  obtain ⟨⟨s1, s2, s3, s4, s5, s6, s7, s8⟩, s9, s10, s11, s12, s13⟩ := tE_f T NE (nI (a + 1)) (nI j) ki v n
  have h0 := h
  have hN6 : NP ≤ 6 := h.1.1.1
  obtain ⟨h1, h2, h3, h4, h5, h6, h7, h8, h9, h10, h11, h12, h13⟩ := h
  refine ⟨?_, ?_, ?_, h4, ev_5 h0 hNE ha hj hv hb hno hcnt, ?_, ev_7 h0 hNE ha hj hv hb hno hcnt, ev_8 h0 hNE ha hj hv hb hno hcnt, ev_9 h0 hNE ha hj hv hb hno hcnt, ?_, ?_, ?_, ?_⟩
  · obtain ⟨r1, r2, r3, r4, r5⟩ := h1
    refine ⟨⟨r1.1, hc1.trans r1.2⟩, ⟨by omega, hc3⟩, ⟨r3.1, hc2.trans r3.2⟩, by rw [s3, s4]; exact r4, fun k hk => ?_⟩
    rw [s11, s13, s9]
    by_cases e : k = NE
    · subst e
      rw [pk_us, pk_us, pk_us]
      exact ⟨hv.2.2.1, Or.inr ⟨a, ha, rfl⟩⟩
    · rw [pk_un e, pk_un e, pk_un e]
      exact r5 k (by omega)
  · refine ⟨h2.1, ?_, h2.2.2⟩
    show A_ec ar + 1 = nI (NE + 1)
    rw [h2.2.1, nI_1]
  · intro a' ha'
    refine ⟨(h3 a' ha').1, ?_⟩
    show pA G (L ++ [b]) (va_up (va_up (va_up F b (cE (E_mk (nI a) (nI j) ki v n))) (dW D a) (.inl (G.2.2.2.1, 36, .inr (.inr (.inr (.inr (va_up (des D a) j (some b)))))))) (dP D a) (cP (dU D a) (dW D a) (dQ D a) (P_mk (P_co (dT D a)) (P_rs (dT D a)) (P_fi (dT D a)) (P_li (dT D a)) (P_me (dT D a)) (P_ra (dT D a)) ((P_ec (dT D a)) + 1) (P_pa (dT D a))))) (dP D a') (dU D a') (dW D a') (dQ D a') (dT (dsT (dsE D a (va_up (des D a) j (some b))) a (P_mk (P_co (dT D a)) (P_rs (dT D a)) (P_fi (dT D a)) (P_li (dT D a)) (P_me (dT D a)) (P_ra (dT D a)) ((P_ec (dT D a)) + 1) (P_pa (dT D a)))) a') (dus D a') (des (dsE D a (va_up (des D a) j (some b))) a') (dps D a') (va_up evf b (E_mk (nI a) (nI j) ki v n))
    by_cases e : a' = a
    · subst e
      rw [dsT_s, dsE_s]
      have N := pA_new (e := cE (E_mk (nI a') (nI j) ki v n)) (ev := (E_mk (nI a') (nI j) ki v n)) hb (h3 a' ha').2
      refine pA_pt (pA_es N _ (es_some N.2.2.2.2 ⟨List.mem_append_right _ (List.mem_singleton.mpr rfl), ?_⟩)) _
      rw [va_up_self, va_up_self]
    · rw [dsT_n _ _ e, dsE_n _ _ e]
      obtain ⟨⟨a1, a2⟩, ⟨b1, b2⟩, ⟨c1, c2⟩, ⟨d1, d2⟩, hev⟩ := (h3 a' ha').2
      have A := (h3 a ha).2
      obtain ⟨l1, l2, l3, l4⟩ := h4 a' a ha' ha e
      have mem : ∀ x, x ∈ L → x ∈ L ++ [b] := fun x hx => List.mem_append_left _ hx
      exact ⟨⟨mem _ a1, ev_F h0 hNE ha hj hv hb hno hcnt a1 a2 (up_ne a2 A.2.2.1.2 (by simp)) l1⟩, ⟨mem _ b1, ev_F h0 hNE ha hj hv hb hno hcnt b1 b2 (up_ne b2 A.2.2.1.2 (by simp)) (up_ne b2 A.1.2 (by simp))⟩, ⟨mem _ c1, ev_F h0 hNE ha hj hv hb hno hcnt c1 c2 l3 (up_ne c2 A.1.2 (by simp))⟩, ⟨mem _ d1, ev_F h0 hNE ha hj hv hb hno hcnt d1 d2 (up_ne d2 A.2.2.1.2 (by simp)) (up_ne d2 A.1.2 (by simp))⟩, fun k hk x hx => ev_E h0 hNE ha hj hv hb hno hcnt (hev k hk x hx)⟩
  · intro a' ha' cf tf cb tb
    show C_br (m_X4_follow (dT (dsT (dsE D a (va_up (des D a) j (some b))) a (P_mk (P_co (dT D a)) (P_rs (dT D a)) (P_fi (dT D a)) (P_li (dT D a)) (P_me (dT D a)) (P_ra (dT D a)) ((P_ec (dT D a)) + 1) (P_pa (dT D a)))) a') (dus D a') (des (dsE D a (va_up (des D a) j (some b))) a') (va_up evf b (E_mk (nI a) (nI j) ki v n)) cf tf cb tb (nI 35)).1 = 0
    by_cases e : a' = a
    · subst e
      rw [dsT_s, dsE_s, fol_pt]
      exact hnb cf tf cb tb
    · rw [dsT_n _ _ e, dsE_n _ _ e]
      obtain ⟨fm, g1, g2⟩ := (h5 a' ha').1
      show C_br (m_X4_follow (dT D a') (dus D a') (des D a') (va_up evf b (E_mk (nI a) (nI j) ki v n)) cf tf cb tb (nI 35)).1 = 0
      rw [fol_ev (evf := evf) (evf2 := (va_up evf b (E_mk (nI a) (nI j) ki v n))) g2 g1 (fun k hk x hx => va_up_ne _ _ (ne_in (((h3 a' ha').2.2.2.2.2 k hk x hx).1) hb))]
      exact h6 a' ha' cf tf cb tb
  · intro a' ha'
    rw [s9]
    show P_ec (dT (dsT (dsE D a (va_up (des D a) j (some b))) a (P_mk (P_co (dT D a)) (P_rs (dT D a)) (P_fi (dT D a)) (P_li (dT D a)) (P_me (dT D a)) (P_ra (dT D a)) ((P_ec (dT D a)) + 1) (P_pa (dT D a)))) a') = nI (if upd (T_of T) NE (nI (a + 1)) NE = nI (a' + 1) then cntN (upd (T_of T) NE (nI (a + 1))) a' NE + 1 else cntN (upd (T_of T) NE (nI (a + 1))) a' NE) ∧ (if upd (T_of T) NE (nI (a + 1)) NE = nI (a' + 1) then cntN (upd (T_of T) NE (nI (a + 1))) a' NE + 1 else cntN (upd (T_of T) NE (nI (a + 1))) a' NE) ≤ 8
    rw [pk_us, cnt_hi _ _ _ NE (Nat.le_refl _)]
    obtain ⟨k1, k2⟩ := h10 a' ha'
    by_cases e : a' = a
    · subst e
      rw [dsT_s, P_ec_mk, if_pos rfl, k1, nI_1]
      exact ⟨rfl, by omega⟩
    · rw [dsT_n _ _ e, if_neg (fun z => by have := (nI_eq (by omega) (by omega)).mp z; omega)]
      exact ⟨k1, k2⟩
  · intro a' ha'
    rw [s8]
    have q := h11 a' ha'
    show P_pa (dT (dsT (dsE D a (va_up (des D a) j (some b))) a (P_mk (P_co (dT D a)) (P_rs (dT D a)) (P_fi (dT D a)) (P_li (dT D a)) (P_me (dT D a)) (P_ra (dT D a)) ((P_ec (dT D a)) + 1) (P_pa (dT D a)))) a') = _ ∧ ∀ k, k < 36 → dps D a' k = _
    by_cases e : a' = a
    · subst e
      rw [dsT_s, P_pa_mk]
      exact q
    · rw [dsT_n _ _ e]
      exact q
  · rw [s8]
    exact h12
  · rw [s7, s8]
    exact h13

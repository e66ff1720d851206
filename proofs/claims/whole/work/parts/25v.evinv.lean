/-- the table with one more row of an event -/
def tE (T : TR) (NE : Nat) (p1 mm ki : Int32) (v : Int64) (n : Int32) : TR := (T_s_nu (T_s_am (T_s_ki (T_s_wh (T_s_of T (upd (T_of T) NE p1)) (upd (T_wh T) NE mm)) (upd (T_ki T) NE ki)) (vp_updL (T_am T) NE v)) (upd (T_nu T) NE n))
theorem tE_f (T : TR) (NE : Nat) (p1 mm ki : Int32) (v : Int64) (n : Int32) : (T_cs (tE T NE p1 mm ki v n) = T_cs T ∧ T_rs (tE T NE p1 mm ki v n) = T_rs T ∧ T_fi (tE T NE p1 mm ki v n) = T_fi T ∧ T_li (tE T NE p1 mm ki v n) = T_li T ∧ T_me (tE T NE p1 mm ki v n) = T_me T ∧ T_ra (tE T NE p1 mm ki v n) = T_ra T ∧ T_us (tE T NE p1 mm ki v n) = T_us T ∧ T_po (tE T NE p1 mm ki v n) = T_po T) ∧ T_of (tE T NE p1 mm ki v n) = upd (T_of T) NE p1 ∧ T_wh (tE T NE p1 mm ki v n) = upd (T_wh T) NE mm ∧ T_ki (tE T NE p1 mm ki v n) = upd (T_ki T) NE ki ∧ T_am (tE T NE p1 mm ki v n) = vp_updL (T_am T) NE v ∧ T_nu (tE T NE p1 mm ki v n) = upd (T_nu T) NE n := by
  unfold tE
  simp only [T_cs_s_of, T_rs_s_of, T_fi_s_of, T_li_s_of, T_me_s_of, T_ra_s_of, T_us_s_of, T_po_s_of, T_of_s_of, T_wh_s_of, T_ki_s_of, T_am_s_of, T_nu_s_of, T_cs_s_wh, T_rs_s_wh, T_fi_s_wh, T_li_s_wh, T_me_s_wh, T_ra_s_wh, T_us_s_wh, T_po_s_wh, T_of_s_wh, T_wh_s_wh, T_ki_s_wh, T_am_s_wh, T_nu_s_wh, T_cs_s_ki, T_rs_s_ki, T_fi_s_ki, T_li_s_ki, T_me_s_ki, T_ra_s_ki, T_us_s_ki, T_po_s_ki, T_of_s_ki, T_wh_s_ki, T_ki_s_ki, T_am_s_ki, T_nu_s_ki, T_cs_s_am, T_rs_s_am, T_fi_s_am, T_li_s_am, T_me_s_am, T_ra_s_am, T_us_s_am, T_po_s_am, T_of_s_am, T_wh_s_am, T_ki_s_am, T_am_s_am, T_nu_s_am, T_cs_s_nu, T_rs_s_nu, T_fi_s_nu, T_li_s_nu, T_me_s_nu, T_ra_s_nu, T_us_s_nu, T_po_s_nu, T_of_s_nu, T_wh_s_nu, T_ki_s_nu, T_am_s_nu, T_nu_s_nu]
  exact ⟨⟨trivial, trivial, trivial, trivial, trivial, trivial, trivial, trivial⟩, trivial, trivial, trivial, trivial, trivial⟩
/-- rows at or above the count don't matter; a bigger pool doesn't either -/
theorem LI_junk {G : pw_G} {L : List Nat} {F : Nat → va_E} {ar : AR} {pr er : Nat → Option Nat} {D : pw_D} {evf : Nat → ER} {c : MR} {T : TR} {NP NE NM : Nat} (h : LI G L F ar pr er D evf c T NP NE NM) (p1 mm ki : Int32) (v : Int64) (n : Int32) {b : Nat} {e0 : va_E} (hb : b ∉ L) : LI G (L ++ [b]) (va_up F b e0) ar pr er D evf c (tE T NE p1 mm ki v n) NP NE NM := by
  obtain ⟨⟨s1, s2, s3, s4, s5, s6, s7, s8⟩, s9, s10, s11, s12, s13⟩ := tE_f T NE p1 mm ki v n
  obtain ⟨h1, h2, h3, h4, h5, h6, h7, h8, h9, h10, h11, h12, h13⟩ := h
  have inL : ∀ x, x ∈ L → x ∈ L ++ [b] := fun x hx => List.mem_append_left _ hx
  have old : ∀ x, x ∈ L → va_up F b e0 x = F x := fun x hx => va_up_ne _ _ (fun z => hb (z ▸ hx))
  refine ⟨?_, h2, ?_, h4, ?_, h6, ?_, ?_, h9, ?_, ?_, ?_, ?_⟩
  · obtain ⟨r1, r2, r3, r4, r5⟩ := h1
    refine ⟨r1, r2, r3, by rw [s3, s4]; exact r4, fun k hk => ?_⟩
    rw [s11, s13, s9, pk_un (by omega), pk_un (by omega), pk_un (by omega)]
    exact r5 k hk
  · intro a ha
    obtain ⟨p1, ⟨a1, a2⟩, ⟨b1, b2⟩, ⟨c1, c2⟩, ⟨d1, d2⟩, he⟩ := h3 a ha
    exact ⟨p1, ⟨inL _ a1, by rw [old _ a1]; exact a2⟩, ⟨inL _ b1, by rw [old _ b1]; exact b2⟩, ⟨inL _ c1, by rw [old _ c1]; exact c2⟩, ⟨inL _ d1, by rw [old _ d1]; exact d2⟩, fun i hi x hx => ⟨inL _ (he i hi x hx).1, by rw [old _ (he i hi x hx).1]; exact (he i hi x hx).2⟩⟩
  · unfold PRM
    rw [s1, s2, s3, s4, s5, s6, s7]
    exact h5
  · intro k hk
    obtain ⟨x1, x2⟩ := h7 k hk
    unfold ERW
    rw [s11, s12, s13, s9, s10, pk_un (by omega), vpl_n (by omega), pk_un (by omega), pk_un (by omega), pk_un (by omega)]
    refine ⟨x1, ?_⟩
    rcases x2 with x2 | ⟨e, a', j', g1, g2, g3⟩
    · exact Or.inl x2
    · exact Or.inr ⟨e, a', j', g1, ⟨inL _ g2.1, by rw [old _ g2.1]; exact g2.2⟩, g3⟩
  · intro a k ha hk x hx
    obtain ⟨i, i1, i2, i3, i4⟩ := h8 a k ha hk x hx
    rw [s9, s10]
    exact ⟨i, i1, i2, by rw [pk_un (by omega)]; exact i3, by rw [pk_un (by omega)]; exact i4⟩
  · intro a ha
    rw [s9, cnt_hi _ _ _ NE (Nat.le_refl _)]
    exact h10 a ha
  · rw [s8]
    exact h11
  · rw [s8]
    exact h12
  · rw [s7, s8]
    exact h13
theorem ev_des {G : pw_G} {L : List Nat} {F : Nat → va_E} {ar : AR} {pr er : Nat → Option Nat} {D : pw_D} {evf : Nat → ER} {c : MR} {T : TR} {NP NE NM : Nat} (h : LI G L F ar pr er D evf c T NP NE NM) (hNE : NE < 40) {a j b : Nat} (ha : a < NP) (hj : j < 36) {ki : Int32} {v : Int64} {n : Int32} (hv : EV ki v n) (hb : b ∉ L) (hno : des D a j = none) (hcnt : cntN (T_of T) a NE < 8) {a' k x : Nat} (g : des (dsT (dsE D a (va_up (des D a) j (some b))) a (P_mk (P_co (dT D a)) (P_rs (dT D a)) (P_fi (dT D a)) (P_li (dT D a)) (P_me (dT D a)) (P_ra (dT D a)) ((P_ec (dT D a)) + 1) (P_pa (dT D a)))) a' k = some x) : (a' = a ∧ k = j ∧ x = b) ∨ (¬ (a' = a ∧ k = j) ∧ des D a' k = some x) := by
  have g' : des (dsE D a (va_up (des D a) j (some b))) a' k = some x := g
  by_cases e : a' = a
  · subst e
    rw [dsE_s] at g'
    by_cases e2 : k = j
    · rw [e2, va_up_self] at g'
      exact Or.inl ⟨rfl, e2, (Option.some.inj g').symm⟩
    · rw [va_up_ne _ _ e2] at g'
      exact Or.inr ⟨fun z => e2 z.2, g'⟩
  · rw [dsE_n _ _ e] at g'
    exact Or.inr ⟨fun z => e z.1, g'⟩
theorem ne_in {L : List Nat} {x b : Nat} (h1 : x ∈ L) (h2 : ¬ b ∈ L) : x ≠ b := fun e => h2 (e ▸ h1)
theorem ev_F {G : pw_G} {L : List Nat} {F : Nat → va_E} {ar : AR} {pr er : Nat → Option Nat} {D : pw_D} {evf : Nat → ER} {c : MR} {T : TR} {NP NE NM : Nat} (h : LI G L F ar pr er D evf c T NP NE NM) (hNE : NE < 40) {a j b : Nat} (ha : a < NP) (hj : j < 36) {ki : Int32} {v : Int64} {n : Int32} (hv : EV ki v n) (hb : b ∉ L) (hno : des D a j = none) (hcnt : cntN (T_of T) a NE < 8) {x : Nat} {y : va_E} (hx : x ∈ L) (hy : F x = y) (h1 : x ≠ dW D a) (h2 : x ≠ dP D a) : (va_up (va_up (va_up F b (cE (E_mk (nI a) (nI j) ki v n))) (dW D a) (.inl (G.2.2.2.1, 36, .inr (.inr (.inr (.inr (va_up (des D a) j (some b)))))))) (dP D a) (cP (dU D a) (dW D a) (dQ D a) (P_mk (P_co (dT D a)) (P_rs (dT D a)) (P_fi (dT D a)) (P_li (dT D a)) (P_me (dT D a)) (P_ra (dT D a)) ((P_ec (dT D a)) + 1) (P_pa (dT D a))))) x = y := by
  rw [va_up_ne _ _ h2, va_up_ne _ _ h1, va_up_ne _ _ (ne_in (hx) hb)]
  exact hy
theorem ev_E {G : pw_G} {L : List Nat} {F : Nat → va_E} {ar : AR} {pr er : Nat → Option Nat} {D : pw_D} {evf : Nat → ER} {c : MR} {T : TR} {NP NE NM : Nat} (h : LI G L F ar pr er D evf c T NP NE NM) (hNE : NE < 40) {a j b : Nat} (ha : a < NP) (hj : j < 36) {ki : Int32} {v : Int64} {n : Int32} (hv : EV ki v n) (hb : b ∉ L) (hno : des D a j = none) (hcnt : cntN (T_of T) a NE < 8) {x : Nat} (hx : x ∈ L ∧ F x = cE (evf x)) : x ∈ L ++ [b] ∧ (va_up (va_up (va_up F b (cE (E_mk (nI a) (nI j) ki v n))) (dW D a) (.inl (G.2.2.2.1, 36, .inr (.inr (.inr (.inr (va_up (des D a) j (some b)))))))) (dP D a) (cP (dU D a) (dW D a) (dQ D a) (P_mk (P_co (dT D a)) (P_rs (dT D a)) (P_fi (dT D a)) (P_li (dT D a)) (P_me (dT D a)) (P_ra (dT D a)) ((P_ec (dT D a)) + 1) (P_pa (dT D a))))) x = cE ((va_up evf b (E_mk (nI a) (nI j) ki v n)) x) := by
  have A := (h.2.2.1 a ha).2
  refine ⟨List.mem_append_left _ hx.1, ?_⟩
  rw [va_up_ne evf _ (ne_in (hx.1) hb)]
  exact ev_F h hNE ha hj hv hb hno hcnt hx.1 hx.2 (up_ne hx.2 A.2.2.1.2 (by simp)) (up_ne hx.2 A.1.2 (by simp))
theorem ev_b {G : pw_G} {L : List Nat} {F : Nat → va_E} {ar : AR} {pr er : Nat → Option Nat} {D : pw_D} {evf : Nat → ER} {c : MR} {T : TR} {NP NE NM : Nat} (h : LI G L F ar pr er D evf c T NP NE NM) (hNE : NE < 40) {a j b : Nat} (ha : a < NP) (hj : j < 36) {ki : Int32} {v : Int64} {n : Int32} (hv : EV ki v n) (hb : b ∉ L) (hno : des D a j = none) (hcnt : cntN (T_of T) a NE < 8) : b ∈ L ++ [b] ∧ (va_up (va_up (va_up F b (cE (E_mk (nI a) (nI j) ki v n))) (dW D a) (.inl (G.2.2.2.1, 36, .inr (.inr (.inr (.inr (va_up (des D a) j (some b)))))))) (dP D a) (cP (dU D a) (dW D a) (dQ D a) (P_mk (P_co (dT D a)) (P_rs (dT D a)) (P_fi (dT D a)) (P_li (dT D a)) (P_me (dT D a)) (P_ra (dT D a)) ((P_ec (dT D a)) + 1) (P_pa (dT D a))))) b = cE ((va_up evf b (E_mk (nI a) (nI j) ki v n)) b) := by
  have A := (h.2.2.1 a ha).2
  refine ⟨List.mem_append_right _ (List.mem_singleton.mpr rfl), ?_⟩
  rw [va_up_self evf, va_up_ne _ _ (ne_in A.1.1 hb).symm, va_up_ne _ _ (ne_in A.2.2.1.1 hb).symm, va_up_self]
theorem ev_5 {G : pw_G} {L : List Nat} {F : Nat → va_E} {ar : AR} {pr er : Nat → Option Nat} {D : pw_D} {evf : Nat → ER} {c : MR} {T : TR} {NP NE NM : Nat} (h : LI G L F ar pr er D evf c T NP NE NM) (hNE : NE < 40) {a j b : Nat} (ha : a < NP) (hj : j < 36) {ki : Int32} {v : Int64} {n : Int32} (hv : EV ki v n) (hb : b ∉ L) (hno : des D a j = none) (hcnt : cntN (T_of T) a NE < 8) : ∀ a', a' < NP → PRM (tE T NE (nI (a + 1)) (nI j) ki v n) a' (dT (dsT (dsE D a (va_up (des D a) j (some b))) a (P_mk (P_co (dT D a)) (P_rs (dT D a)) (P_fi (dT D a)) (P_li (dT D a)) (P_me (dT D a)) (P_ra (dT D a)) ((P_ec (dT D a)) + 1) (P_pa (dT D a)))) a') (dus (dsT (dsE D a (va_up (des D a) j (some b))) a (P_mk (P_co (dT D a)) (P_rs (dT D a)) (P_fi (dT D a)) (P_li (dT D a)) (P_me (dT D a)) (P_ra (dT D a)) ((P_ec (dT D a)) + 1) (P_pa (dT D a)))) a') := by
  intro a' ha'
  obtain ⟨⟨s1, s2, s3, s4, s5, s6, s7, s8⟩, -⟩ := tE_f T NE (nI (a + 1)) (nI j) ki v n
  have p := h.2.2.2.2.1 a' ha'
  have p' : PRM (tE T NE (nI (a + 1)) (nI j) ki v n) a' (dT D a') (dus D a') := by
    unfold PRM at p ⊢
    rw [s1, s2, s3, s4, s5, s6, s7]
    exact p
  show PRM (tE T NE (nI (a + 1)) (nI j) ki v n) a' (dT (dsT (dsE D a (va_up (des D a) j (some b))) a (P_mk (P_co (dT D a)) (P_rs (dT D a)) (P_fi (dT D a)) (P_li (dT D a)) (P_me (dT D a)) (P_ra (dT D a)) ((P_ec (dT D a)) + 1) (P_pa (dT D a)))) a') (dus D a')
  by_cases e : a' = a
  · subst e
    rw [dsT_s]
    exact prm_pt _ _ p'
  · rw [dsT_n _ _ e]
    exact p'
theorem ev_7 {G : pw_G} {L : List Nat} {F : Nat → va_E} {ar : AR} {pr er : Nat → Option Nat} {D : pw_D} {evf : Nat → ER} {c : MR} {T : TR} {NP NE NM : Nat} (h : LI G L F ar pr er D evf c T NP NE NM) (hNE : NE < 40) {a j b : Nat} (ha : a < NP) (hj : j < 36) {ki : Int32} {v : Int64} {n : Int32} (hv : EV ki v n) (hb : b ∉ L) (hno : des D a j = none) (hcnt : cntN (T_of T) a NE < 8) : ∀ k, k < NE + 1 → ERW (L ++ [b]) (va_up (va_up (va_up F b (cE (E_mk (nI a) (nI j) ki v n))) (dW D a) (.inl (G.2.2.2.1, 36, .inr (.inr (.inr (.inr (va_up (des D a) j (some b)))))))) (dP D a) (cP (dU D a) (dW D a) (dQ D a) (P_mk (P_co (dT D a)) (P_rs (dT D a)) (P_fi (dT D a)) (P_li (dT D a)) (P_me (dT D a)) (P_ra (dT D a)) ((P_ec (dT D a)) + 1) (P_pa (dT D a))))) (va_up er NE (some b)) (dsT (dsE D a (va_up (des D a) j (some b))) a (P_mk (P_co (dT D a)) (P_rs (dT D a)) (P_fi (dT D a)) (P_li (dT D a)) (P_me (dT D a)) (P_ra (dT D a)) ((P_ec (dT D a)) + 1) (P_pa (dT D a)))) (va_up evf b (E_mk (nI a) (nI j) ki v n)) (tE T NE (nI (a + 1)) (nI j) ki v n) NP k := by
  intro k hk
  obtain ⟨-, s9, s10, s11, s12, s13⟩ := tE_f T NE (nI (a + 1)) (nI j) ki v n
  unfold ERW
  rw [s9, s10, s11, s12, s13]
  by_cases e : k = NE
  · subst e
    rw [pk_us, vpl_s, pk_us, pk_us, pk_us, va_up_self er]
    refine ⟨hv, Or.inr ⟨b, a, j, rfl, ev_b h hNE ha hj hv hb hno hcnt, ha, hj, rfl, rfl, ?_, va_up_self ..⟩⟩
    show des (dsE D a (va_up (des D a) j (some b))) a j = some b
    rw [dsE_s, va_up_self]
  · rw [pk_un e, vpl_n e, pk_un e, pk_un e, pk_un e, va_up_ne er _ e]
    obtain ⟨x1, x2⟩ := h.2.2.2.2.2.2.1 k (by omega)
    refine ⟨x1, ?_⟩
    rcases x2 with x2 | ⟨x, a', j', g1, g2, g3, g4, g5, g6, g7, g8⟩
    · exact Or.inl x2
    · refine Or.inr ⟨x, a', j', g1, ev_E h hNE ha hj hv hb hno hcnt g2, g3, g4, g5, g6, ?_, ?_⟩
      · show des (dsE D a (va_up (des D a) j (some b))) a' j' = some x
        by_cases e1 : a' = a
        · subst e1
          rw [dsE_s]
          by_cases e2 : j' = j
          · rw [e2, hno] at g7
            cases g7
          · rw [va_up_ne _ _ e2]
            exact g7
        · rw [dsE_n _ _ e1]
          exact g7
      · rw [va_up_ne evf _ (ne_in (g2.1) hb)]
        exact g8
theorem ev_8 {G : pw_G} {L : List Nat} {F : Nat → va_E} {ar : AR} {pr er : Nat → Option Nat} {D : pw_D} {evf : Nat → ER} {c : MR} {T : TR} {NP NE NM : Nat} (h : LI G L F ar pr er D evf c T NP NE NM) (hNE : NE < 40) {a j b : Nat} (ha : a < NP) (hj : j < 36) {ki : Int32} {v : Int64} {n : Int32} (hv : EV ki v n) (hb : b ∉ L) (hno : des D a j = none) (hcnt : cntN (T_of T) a NE < 8) : ∀ a' k, a' < NP → k < 36 → ∀ x, des (dsT (dsE D a (va_up (des D a) j (some b))) a (P_mk (P_co (dT D a)) (P_rs (dT D a)) (P_fi (dT D a)) (P_li (dT D a)) (P_me (dT D a)) (P_ra (dT D a)) ((P_ec (dT D a)) + 1) (P_pa (dT D a)))) a' k = some x → ∃ i, i < NE + 1 ∧ (va_up er NE (some b)) i = some x ∧ T_of (tE T NE (nI (a + 1)) (nI j) ki v n) i = nI (a' + 1) ∧ T_wh (tE T NE (nI (a + 1)) (nI j) ki v n) i = nI k := by
  intro a' k ha' hk x hx
  obtain ⟨-, s9, s10, -⟩ := tE_f T NE (nI (a + 1)) (nI j) ki v n
  rw [s9, s10]
  rcases ev_des h hNE ha hj hv hb hno hcnt hx with ⟨e1, e2, e3⟩ | ⟨-, g⟩
  · subst e1 e2 e3
    exact ⟨NE, by omega, va_up_self .., pk_us, pk_us⟩
  · obtain ⟨i, i1, i2, i3, i4⟩ := h.2.2.2.2.2.2.2.1 a' k ha' hk x g
    exact ⟨i, by omega, by rw [va_up_ne _ _ (by omega)]; exact i2, by rw [pk_un (by omega)]; exact i3, by rw [pk_un (by omega)]; exact i4⟩
theorem ev_9 {G : pw_G} {L : List Nat} {F : Nat → va_E} {ar : AR} {pr er : Nat → Option Nat} {D : pw_D} {evf : Nat → ER} {c : MR} {T : TR} {NP NE NM : Nat} (h : LI G L F ar pr er D evf c T NP NE NM) (hNE : NE < 40) {a j b : Nat} (ha : a < NP) (hj : j < 36) {ki : Int32} {v : Int64} {n : Int32} (hv : EV ki v n) (hb : b ∉ L) (hno : des D a j = none) (hcnt : cntN (T_of T) a NE < 8) : ∀ k k', k < NE + 1 → k' < NE + 1 → ∀ x, (va_up er NE (some b)) k = some x → (va_up er NE (some b)) k' = some x → k = k' := by
  intro k k' hk hk' x g1 g2
  have inL : ∀ y, y < NE → er y = some x → x ∈ L := fun y hy g => by
    obtain ⟨-, q | ⟨x', a', j', q1, q2, -⟩⟩ := h.2.2.2.2.2.2.1 y hy
    · rw [q.1] at g
      cases g
    · rw [q1] at g
      have e := Option.some.inj g
      subst e
      exact q2.1
  by_cases e : k = NE
  · by_cases e' : k' = NE
    · rw [e, e']
    · rw [e, va_up_self] at g1
      rw [va_up_ne _ _ e'] at g2
      have := Option.some.inj g1
      subst this
      exact absurd (inL k' (by omega) g2) hb
  · rw [va_up_ne _ _ e] at g1
    by_cases e' : k' = NE
    · rw [e', va_up_self] at g2
      have := Option.some.inj g2
      subst this
      exact absurd (inL k (by omega) g1) hb
    · rw [va_up_ne _ _ e'] at g2
      exact h.2.2.2.2.2.2.2.2.1 k k' (by omega) (by omega) x g1 g2

def dsE (D : pw_D) (a : Nat) (es' : Nat → Option Nat) : pw_D := (D.1, D.2.1, D.2.2.1, D.2.2.2.1, D.2.2.2.2.1, D.2.2.2.2.2.1, va_up D.2.2.2.2.2.2.1 a es', D.2.2.2.2.2.2.2)
theorem dsE_s (D : pw_D) (a : Nat) (es' : Nat → Option Nat) : des (dsE D a es') a = es' := va_up_self ..
theorem dsE_n (D : pw_D) {a b : Nat} (es' : Nat → Option Nat) (h : b ≠ a) : des (dsE D a es') b = des D b := va_up_ne _ _ h
def dsT (D : pw_D) (a : Nat) (pt' : PR) : pw_D := (D.1, D.2.1, D.2.2.1, D.2.2.2.1, va_up D.2.2.2.2.1 a pt', D.2.2.2.2.2.1, D.2.2.2.2.2.2.1, D.2.2.2.2.2.2.2)
theorem dsT_s (D : pw_D) (a : Nat) (pt' : PR) : dT (dsT D a pt') a = pt' := va_up_self ..
theorem dsT_n (D : pw_D) {a b : Nat} (pt' : PR) (h : b ≠ a) : dT (dsT D a pt') b = dT D b := va_up_ne _ _ h
theorem fol_pt (pt : PR) (x : Int32) (y : Int64) {us : Nat → Int32} {es : Nat → Option Nat} {evf : Nat → ER} (cf : CR) (tf : SR) (cb : CR) (tb : SR) (last : Int32) : m_X4_follow (P_mk (P_co pt) (P_rs pt) (P_fi pt) (P_li pt) (P_me pt) (P_ra pt) x y) us es evf cf tf cb tb last = m_X4_follow pt us es evf cf tf cb tb last := by
  unfold m_X4_follow m_X0_open
  rw [P_me_mk, P_ra_mk, P_co_mk, P_rs_mk, P_li_mk, P_fi_mk]
theorem prm_pt {T : TR} {a : Nat} {pt : PR} {us : Nat → Int32} (x : Int32) (y : Int64) (h : PRM T a pt us) : PRM T a (P_mk (P_co pt) (P_rs pt) (P_fi pt) (P_li pt) (P_me pt) (P_ra pt) x y) us := by
  unfold PRM at h ⊢
  rw [P_me_mk, P_ra_mk, P_co_mk, P_rs_mk, P_li_mk, P_fi_mk]
  exact h
theorem cnt_hi (f : Nat → Int32) (a : Nat) {i : Nat} (v : Int32) : ∀ n, n ≤ i → cntN (upd f i v) a n = cntN f a n := by
  intro n
  induction n with
  | zero => intro _; rfl
  | succ n ih =>
    intro h
    show (if upd f i v n = nI (a + 1) then cntN (upd f i v) a n + 1 else cntN (upd f i v) a n) = (if f n = nI (a + 1) then cntN f a n + 1 else cntN f a n)
    rw [pk_un (by omega), ih (by omega)]
theorem cnt_lo (f : Nat → Int32) (a : Nat) {i : Nat} (v : Int32) (h1 : ¬ f i = nI (a + 1)) (h2 : ¬ v = nI (a + 1)) : ∀ n, cntN (upd f i v) a n = cntN f a n := by
  intro n
  induction n with
  | zero => rfl
  | succ n ih =>
    show (if upd f i v n = nI (a + 1) then cntN (upd f i v) a n + 1 else cntN (upd f i v) a n) = (if f n = nI (a + 1) then cntN f a n + 1 else cntN f a n)
    by_cases e : n = i
    · subst e
      rw [pk_us, if_neg h2, if_neg h1, ih]
    · rw [pk_un e, ih]
theorem cnt_dn (f : Nat → Int32) (a : Nat) {i : Nat} (v : Int32) (h1 : f i = nI (a + 1)) (h2 : ¬ v = nI (a + 1)) : ∀ n, i < n → cntN (upd f i v) a n + 1 = cntN f a n := by
  intro n
  induction n with
  | zero => intro h; exact absurd h (by omega)
  | succ n ih =>
    intro h
    show (if upd f i v n = nI (a + 1) then cntN (upd f i v) a n + 1 else cntN (upd f i v) a n) + 1 = (if f n = nI (a + 1) then cntN f a n + 1 else cntN f a n)
    by_cases e : n = i
    · subst e
      rw [pk_us, if_neg h2, if_pos h1, cnt_hi f a v n (Nat.le_refl _)]
    · rw [pk_un e]
      have := ih (by omega)
      by_cases g : f n = nI (a + 1)
      · rw [if_pos g, if_pos g]; omega
      · rw [if_neg g, if_neg g]; omega
theorem st_back2 {T X : TR} {i : Nat} {v : Int32} (hX : T_st X = T_st (T_s_of T (upd (T_of T) i v))) : T_st (T_s_of X (upd (T_of X) i (T_of T i))) = T_st T := by
  have e : upd (T_of X) i (T_of T i) = T_of T := by rw [st_of hX, T_of_s_of, upd_tw, upd_sm rfl]
  unfold T_st
  rw [e, T_cs_s_of, T_rs_s_of, T_fi_s_of, T_li_s_of, T_me_s_of, T_ra_s_of, T_us_s_of, T_po_s_of, T_of_s_of, T_wh_s_of, T_ki_s_of, T_am_s_of, T_nu_s_of, st_cs hX, st_rs hX, st_fi hX, st_li9 hX, st_me hX, st_ra hX, st_us hX, st_po hX, st_wh hX, st_ki hX, st_am hX, st_nu hX, T_cs_s_of, T_rs_s_of, T_fi_s_of, T_li_s_of, T_me_s_of, T_ra_s_of, T_us_s_of, T_po_s_of, T_wh_s_of, T_ki_s_of, T_am_s_of, T_nu_s_of]
theorem st_keep2 {T X : TR} {i : Nat} {v : Int32} (hX : T_st X = T_st (T_s_of T (upd (T_of T) i v))) : T_st (T_s_of X (upd (T_of X) i v)) = T_st (T_s_of T (upd (T_of T) i v)) := by
  have e : upd (T_of X) i v = upd (T_of T) i v := by rw [st_of hX, T_of_s_of, upd_tw]
  unfold T_st
  rw [e, T_cs_s_of, T_rs_s_of, T_fi_s_of, T_li_s_of, T_me_s_of, T_ra_s_of, T_us_s_of, T_po_s_of, T_of_s_of, T_wh_s_of, T_ki_s_of, T_am_s_of, T_nu_s_of, st_cs hX, st_rs hX, st_fi hX, st_li9 hX, st_me hX, st_ra hX, st_us hX, st_po hX, st_wh hX, st_ki hX, st_am hX, st_nu hX, T_cs_s_of, T_rs_s_of, T_fi_s_of, T_li_s_of, T_me_s_of, T_ra_s_of, T_us_s_of, T_po_s_of, T_of_s_of, T_wh_s_of, T_ki_s_of, T_am_s_of, T_nu_s_of]
theorem sk_5 {G : pw_G} {L : List Nat} {F : Nat → va_E} {ar : AR} {pr er : Nat → Option Nat} {D : pw_D} {evf : Nat → ER} {c : MR} {T : TR} {NP NE NM : Nat} (h : LI G L F ar pr er D evf c T NP NE NM) {i ad a j : Nat} (hi : i < NE) (he : er i = some ad) (ha : a < NP) (hj : j < 36) (hof : T_of T i = nI (a + 1)) (hwh : T_wh T i = nI j) (hes : des D a j = some ad) : ∀ b, b < NP → PRM (T_s_of T (upd (T_of T) i 0)) b (dT (dsT (dsE D a (va_up (des D a) j none)) a (P_mk (P_co (dT D a)) (P_rs (dT D a)) (P_fi (dT D a)) (P_li (dT D a)) (P_me (dT D a)) (P_ra (dT D a)) ((P_ec (dT D a)) - 1) (P_pa (dT D a)))) b) (dus (dsT (dsE D a (va_up (des D a) j none)) a (P_mk (P_co (dT D a)) (P_rs (dT D a)) (P_fi (dT D a)) (P_li (dT D a)) (P_me (dT D a)) (P_ra (dT D a)) ((P_ec (dT D a)) - 1) (P_pa (dT D a)))) b) := by
  intro b hb
  have p := h.2.2.2.2.1 b hb
  have p' : PRM (T_s_of T (upd (T_of T) i 0)) b (dT D b) (dus D b) := by
    unfold PRM at p ⊢
    rw [T_cs_s_of, T_rs_s_of, T_fi_s_of, T_li_s_of, T_me_s_of, T_ra_s_of, T_us_s_of]
    exact p
  show PRM (T_s_of T (upd (T_of T) i 0)) b (dT (dsT (dsE D a (va_up (des D a) j none)) a (P_mk (P_co (dT D a)) (P_rs (dT D a)) (P_fi (dT D a)) (P_li (dT D a)) (P_me (dT D a)) (P_ra (dT D a)) ((P_ec (dT D a)) - 1) (P_pa (dT D a)))) b) (dus D b)
  by_cases e : b = a
  · subst e
    rw [dsT_s]
    exact prm_pt _ _ p'
  · rw [dsT_n _ _ e]
    exact p'
theorem sk_des {G : pw_G} {L : List Nat} {F : Nat → va_E} {ar : AR} {pr er : Nat → Option Nat} {D : pw_D} {evf : Nat → ER} {c : MR} {T : TR} {NP NE NM : Nat} (h : LI G L F ar pr er D evf c T NP NE NM) {i ad a j : Nat} (hi : i < NE) (he : er i = some ad) (ha : a < NP) (hj : j < 36) (hof : T_of T i = nI (a + 1)) (hwh : T_wh T i = nI j) (hes : des D a j = some ad) {b k : Nat} {x : Nat} (g : des (dsT (dsE D a (va_up (des D a) j none)) a (P_mk (P_co (dT D a)) (P_rs (dT D a)) (P_fi (dT D a)) (P_li (dT D a)) (P_me (dT D a)) (P_ra (dT D a)) ((P_ec (dT D a)) - 1) (P_pa (dT D a)))) b k = some x) : des D b k = some x ∧ ¬ (b = a ∧ k = j) := by
  have g' : des (dsE D a (va_up (des D a) j none)) b k = some x := g
  by_cases e : b = a
  · subst e
    rw [dsE_s] at g'
    by_cases e2 : k = j
    · rw [e2, va_up_self] at g'
      cases g'
    · rw [va_up_ne _ _ e2] at g'
      exact ⟨g', fun z => e2 z.2⟩
  · rw [dsE_n _ _ e] at g'
    exact ⟨g', fun z => e z.1⟩
theorem sk_7 {G : pw_G} {L : List Nat} {F : Nat → va_E} {ar : AR} {pr er : Nat → Option Nat} {D : pw_D} {evf : Nat → ER} {c : MR} {T : TR} {NP NE NM : Nat} (h : LI G L F ar pr er D evf c T NP NE NM) {i ad a j : Nat} (hi : i < NE) (he : er i = some ad) (ha : a < NP) (hj : j < 36) (hof : T_of T i = nI (a + 1)) (hwh : T_wh T i = nI j) (hes : des D a j = some ad) : ∀ k, k < NE → ERW L (va_up (va_up F (dW D a) (.inl (G.2.2.2.1, 36, .inr (.inr (.inr (.inr (va_up (des D a) j none))))))) (dP D a) (cP (dU D a) (dW D a) (dQ D a) (P_mk (P_co (dT D a)) (P_rs (dT D a)) (P_fi (dT D a)) (P_li (dT D a)) (P_me (dT D a)) (P_ra (dT D a)) ((P_ec (dT D a)) - 1) (P_pa (dT D a))))) (va_up er i none) (dsT (dsE D a (va_up (des D a) j none)) a (P_mk (P_co (dT D a)) (P_rs (dT D a)) (P_fi (dT D a)) (P_li (dT D a)) (P_me (dT D a)) (P_ra (dT D a)) ((P_ec (dT D a)) - 1) (P_pa (dT D a)))) evf (T_s_of T (upd (T_of T) i 0)) NP k := by
  intro k hk
  obtain ⟨v, g⟩ := h.2.2.2.2.2.2.1 k hk
  unfold ERW
  rw [T_ki_s_of, T_am_s_of, T_nu_s_of, T_of_s_of, T_wh_s_of]
  refine ⟨v, ?_⟩
  by_cases e : k = i
  · subst e
    exact Or.inl ⟨va_up_self .., pk_us⟩
  · rw [va_up_ne _ _ e, pk_un e]
    rcases g with g | ⟨x, a', j', g1, g2, g3, g4, g5, g6, g7, g8⟩
    · exact Or.inl g
    · refine Or.inr ⟨x, a', j', g1, pE_p (pE_w g2 (h.2.2.1 a ha).2.2.2.1.2) (pt := dT D a) (u := dU D a) (w := dW D a) (q := dQ D a) ?_, g3, g4, g5, g6, ?_, g8⟩
      · rw [va_up_ne _ _ (up_ne (h.2.2.1 a ha).2.1.2 (h.2.2.1 a ha).2.2.2.1.2 (by simp))]
        exact (h.2.2.1 a ha).2.1.2
      · show des (dsE D a (va_up (des D a) j none)) a' j' = some x
        by_cases e1 : a' = a
        · subst e1
          rw [dsE_s]
          by_cases e2 : j' = j
          · subst e2
            rw [hes] at g7
            have e9 : ad = x := Option.some.inj g7
            subst e9
            exact absurd (h.2.2.2.2.2.2.2.2.1 k i hk hi ad g1 he) e
          · rw [va_up_ne _ _ e2]
            exact g7
        · rw [dsE_n _ _ e1]
          exact g7
theorem sk_8 {G : pw_G} {L : List Nat} {F : Nat → va_E} {ar : AR} {pr er : Nat → Option Nat} {D : pw_D} {evf : Nat → ER} {c : MR} {T : TR} {NP NE NM : Nat} (h : LI G L F ar pr er D evf c T NP NE NM) {i ad a j : Nat} (hi : i < NE) (he : er i = some ad) (ha : a < NP) (hj : j < 36) (hof : T_of T i = nI (a + 1)) (hwh : T_wh T i = nI j) (hes : des D a j = some ad) : ∀ b k, b < NP → k < 36 → ∀ x, des (dsT (dsE D a (va_up (des D a) j none)) a (P_mk (P_co (dT D a)) (P_rs (dT D a)) (P_fi (dT D a)) (P_li (dT D a)) (P_me (dT D a)) (P_ra (dT D a)) ((P_ec (dT D a)) - 1) (P_pa (dT D a)))) b k = some x → ∃ n, n < NE ∧ (va_up er i none) n = some x ∧ T_of (T_s_of T (upd (T_of T) i 0)) n = nI (b + 1) ∧ T_wh (T_s_of T (upd (T_of T) i 0)) n = nI k := by
  intro b k hb hk x hx
  have hN6 : NP ≤ 6 := h.1.1.1
  obtain ⟨g1, g2⟩ := sk_des h hi he ha hj hof hwh hes hx
  obtain ⟨n, n1, n2, n3, n4⟩ := h.2.2.2.2.2.2.2.1 b k hb hk x g1
  have hne : n ≠ i := fun z => by
    subst z
    rw [hof] at n3
    rw [hwh] at n4
    have e1 := (nI_eq (by omega) (by omega)).mp n3
    have e2 := (nI_eq (by omega) (by omega)).mp n4
    exact g2 ⟨by omega, e2.symm⟩
  refine ⟨n, n1, ?_, ?_, ?_⟩
  · rw [va_up_ne _ _ hne]; exact n2
  · rw [T_of_s_of, pk_un hne]; exact n3
  · rw [T_wh_s_of]; exact n4
theorem sk_9 {G : pw_G} {L : List Nat} {F : Nat → va_E} {ar : AR} {pr er : Nat → Option Nat} {D : pw_D} {evf : Nat → ER} {c : MR} {T : TR} {NP NE NM : Nat} (h : LI G L F ar pr er D evf c T NP NE NM) (i : Nat) : ∀ k k', k < NE → k' < NE → ∀ x, (va_up er i none) k = some x → (va_up er i none) k' = some x → k = k' := by
  intro k k' hk hk' x g1 g2
  have key : ∀ y, (va_up er i none) y = some x → er y = some x := fun y g => by
    by_cases e : y = i
    · rw [e, va_up_self] at g
      cases g
    · rw [va_up_ne _ _ e] at g
      exact g
  exact h.2.2.2.2.2.2.2.2.1 k k' hk hk' x (key k g1) (key k' g2)
set_option maxHeartbeats 2000000 in
theorem LI_sk {G : pw_G} {L : List Nat} {F : Nat → va_E} {ar : AR} {pr er : Nat → Option Nat} {D : pw_D} {evf : Nat → ER} {c : MR} {T : TR} {NP NE NM : Nat} (h : LI G L F ar pr er D evf c T NP NE NM) {i ad a j : Nat} (hi : i < NE) (he : er i = some ad) (ha : a < NP) (hj : j < 36) (hof : T_of T i = nI (a + 1)) (hwh : T_wh T i = nI j) (hes : des D a j = some ad) (hnb : ∀ cf tf cb tb, C_br (m_X4_follow (dT D a) (dus D a) (va_up (des D a) j none) evf cf tf cb tb (nI 35)).1 = 0) : LI G L (va_up (va_up F (dW D a) (.inl (G.2.2.2.1, 36, .inr (.inr (.inr (.inr (va_up (des D a) j none))))))) (dP D a) (cP (dU D a) (dW D a) (dQ D a) (P_mk (P_co (dT D a)) (P_rs (dT D a)) (P_fi (dT D a)) (P_li (dT D a)) (P_me (dT D a)) (P_ra (dT D a)) ((P_ec (dT D a)) - 1) (P_pa (dT D a))))) ar pr (va_up er i none) (dsT (dsE D a (va_up (des D a) j none)) a (P_mk (P_co (dT D a)) (P_rs (dT D a)) (P_fi (dT D a)) (P_li (dT D a)) (P_me (dT D a)) (P_ra (dT D a)) ((P_ec (dT D a)) - 1) (P_pa (dT D a)))) evf c (T_s_of T (upd (T_of T) i 0)) NP NE NM := by
  have h0 := h
  have hN6 : NP ≤ 6 := h.1.1.1
  obtain ⟨h1, h2, h3, h4, h5, h6, h7, h8, h9, h10, h11, h12, h13⟩ := h
  refine ⟨?_, h2, ?_, h4, sk_5 h0 hi he ha hj hof hwh hes, ?_, sk_7 h0 hi he ha hj hof hwh hes, sk_8 h0 hi he ha hj hof hwh hes, sk_9 h0 i, ?_, ?_, ?_, ?_⟩
  · obtain ⟨r1, r2, r3, r4, r5⟩ := h1
    refine ⟨r1, r2, r3, ?_, fun k hk => ?_⟩
    · rw [T_fi_s_of, T_li_s_of]
      exact r4
    · rw [T_ki_s_of, T_nu_s_of, T_of_s_of]
      refine ⟨(r5 k hk).1, ?_⟩
      by_cases e : k = i
      · subst e
        rw [pk_us]
        exact Or.inl rfl
      · rw [pk_un e]
        exact (r5 k hk).2
  · intro b hb
    refine ⟨(h3 b hb).1, ?_⟩
    show pA G L (va_up (va_up F (dW D a) (.inl (G.2.2.2.1, 36, .inr (.inr (.inr (.inr (va_up (des D a) j none))))))) (dP D a) (cP (dU D a) (dW D a) (dQ D a) (P_mk (P_co (dT D a)) (P_rs (dT D a)) (P_fi (dT D a)) (P_li (dT D a)) (P_me (dT D a)) (P_ra (dT D a)) ((P_ec (dT D a)) - 1) (P_pa (dT D a))))) (dP D b) (dU D b) (dW D b) (dQ D b) (dT (dsT (dsE D a (va_up (des D a) j none)) a (P_mk (P_co (dT D a)) (P_rs (dT D a)) (P_fi (dT D a)) (P_li (dT D a)) (P_me (dT D a)) (P_ra (dT D a)) ((P_ec (dT D a)) - 1) (P_pa (dT D a)))) b) (dus D b) (des (dsE D a (va_up (des D a) j none)) b) (dps D b) evf
    by_cases e : b = a
    · subst e
      rw [dsT_s, dsE_s]
      exact pA_pt (pA_es (h3 b hb).2 _ (es_none (h3 b hb).2.2.2.2.2)) _
    · rw [dsT_n _ _ e, dsE_n _ _ e]
      have A := (h3 a ha).2
      obtain ⟨⟨a1, a2⟩, ⟨b1, b2⟩, ⟨c1, c2⟩, ⟨d1, d2⟩, hev⟩ := (h3 b hb).2
      have w9 := A.2.2.1.2
      have p9 : (va_up F (dW D a) (.inl (G.2.2.2.1, 36, .inr (.inr (.inr (.inr (va_up (des D a) j none))))))) (dP D a) = cP (dU D a) (dW D a) (dQ D a) (dT D a) := by
        rw [va_up_ne _ _ (up_ne A.1.2 w9 (by simp))]
        exact A.1.2
      obtain ⟨l1, l2, l3, l4⟩ := h4 b a hb ha e
      refine ⟨⟨a1, ?_⟩, ⟨b1, ?_⟩, ⟨c1, ?_⟩, ⟨d1, ?_⟩, fun k hk x hx => pE_p (pE_w (hev k hk x hx) w9) p9⟩
      · rw [va_up_ne _ _ l1, va_up_ne _ _ (up_ne a2 w9 (by simp))]; exact a2
      · rw [va_up_ne _ _ (up_ne b2 A.1.2 (by simp)), va_up_ne _ _ (up_ne b2 w9 (by simp))]; exact b2
      · rw [va_up_ne _ _ (up_ne c2 A.1.2 (by simp)), va_up_ne _ _ l3]; exact c2
      · rw [va_up_ne _ _ (up_ne d2 A.1.2 (by simp)), va_up_ne _ _ (up_ne d2 w9 (by simp))]; exact d2
  · intro b hb cf tf cb tb
    show C_br (m_X4_follow (dT (dsT (dsE D a (va_up (des D a) j none)) a (P_mk (P_co (dT D a)) (P_rs (dT D a)) (P_fi (dT D a)) (P_li (dT D a)) (P_me (dT D a)) (P_ra (dT D a)) ((P_ec (dT D a)) - 1) (P_pa (dT D a)))) b) (dus D b) (des (dsE D a (va_up (des D a) j none)) b) evf cf tf cb tb (nI 35)).1 = 0
    by_cases e : b = a
    · subst e
      rw [dsT_s, dsE_s, fol_pt]
      exact hnb cf tf cb tb
    · rw [dsT_n _ _ e, dsE_n _ _ e]
      exact h6 b hb cf tf cb tb
  · intro b hb
    rw [T_of_s_of]
    have z9 : ¬ (0 : Int32) = nI (b + 1) := fun z => nI_ne0 (by omega) (by omega) z.symm
    by_cases e : b = a
    · subst e
      rw [dsT_s, P_ec_mk]
      have g := cnt_dn (T_of T) b 0 hof z9 NE hi
      obtain ⟨k1, k2⟩ := h10 b hb
      refine ⟨?_, by omega⟩
      rw [k1, ← g, nI_pred]
    · rw [dsT_n _ _ e, cnt_lo (T_of T) b 0 (by rw [hof]; intro z; have := (nI_eq (by omega) (by omega)).mp z; omega) z9]
      exact h10 b hb
  · intro b hb
    rw [T_po_s_of]
    have q := h11 b hb
    show P_pa (dT (dsT (dsE D a (va_up (des D a) j none)) a (P_mk (P_co (dT D a)) (P_rs (dT D a)) (P_fi (dT D a)) (P_li (dT D a)) (P_me (dT D a)) (P_ra (dT D a)) ((P_ec (dT D a)) - 1) (P_pa (dT D a)))) b) = _ ∧ ∀ k, k < 36 → dps D b k = _
    by_cases e : b = a
    · subst e
      rw [dsT_s, P_pa_mk]
      exact q
    · rw [dsT_n _ _ e]
      exact q
  · rw [T_po_s_of]
    exact h12
  · rw [T_us_s_of, T_po_s_of]
    exact h13

set_option maxRecDepth 100000 in
set_option maxHeartbeats 2000000 in
theorem ld_charge {Z : pw_Z} {Q : State → Prop} {L : List Nat} {F : Nat → va_E} {k n b N : Nat} {xs : Nat → Int32} (C : pw_CL Z) (hE1 : pw_E (zA Z) (zs Z) (zH Z)) (hst : (zl Z).stackTraces = false) (hX : pw_SC Z b N xs) (hN : N ≤ 4608) {x m oc i : Nat} {rf rm : Nat → Nat} {ar : AR} {pr er : Nat → Option Nat} {D : pw_D} {evf : Nat → ER} {cf : CR} {tf : SR} {cb : CR} {tb : SR} {c : MR} {T : TR} {f : Nat → Int64} {NP NE NM : Nat} (hi : i + 9 ≤ N) (hk : k + 4 ≤ 601024) (hn : n + 119 ≤ 7293034) (h : LI (zG Z) L F ar pr er D evf c T NP NE NM) (kk : lw_NX Z Q x m oc rf rm b i (k + 4) (n + 119)) : PW Z ((aX (zG Z) x rf ar pr er cf tf cb tb) ++ ((mX (zG Z) m rm c T) ++ [(oc, .inl ((zG Z).2.2.1, 1, .inr (.inl f)))])) L F k n Q 653 [(0, .ref b), (1, .ref x), (2, .ref m), (3, .ref oc), (4, .int (nI i))] [] := by
  obtain ⟨a, hp, hR, hcd, hre, hc, hT⟩ := ag_charge h cf tf cb tb (xs (i + 1)) (xs (i + 2))
  refine lc_charge_a C hE1 hX hN hi (by omega) (by omega) (w_L_charge (zl Z) (zG Z) L F x rf ar pr er cf tf cb tb oc f _ _ (c_X4_charge (zl Z) hst (zG Z) L F x rf (dU D a) (dW D a) (dQ D a) (dps D a) ar pr er cf tf cb tb (dT D a) (dus D a) (des D a) evf _ _ (LI_pc h).1 (fun b9 hb => ⟨(hp b9 hb).2.2.2.1, (hp b9 hb).2.2.2.2⟩)) (fun v X' L' F' q => ⟨_, q.1.2⟩) (fun E X' L' F' q => q.1.elim And.right (fun z => absurd z.1 (by rcases hR with e | e <;> rw [e] <;> decide)))) owL_no (fun v X' L' F' ho => ?_)
  obtain ⟨f', K, e1, e2, e3, e4, q0, q1, q2⟩ := owL_d ho
  rw [e1, e2, e3, e4]
  refine lc_charge_b C hX hN hi (by omega) (by omega) (c_X5_charge (zl Z) (zG Z) L F m rm NP NE NM c T _ _ h.1) (hcd.trans ?_) (fun q => ?_) ?_
  · rcases hR with e | e
    · exact e.trans (q0 e).1.symm
    · exact e.trans (q1 e).symm
  · rcases hR with e | e
    · exact (q0 e).2.trans (hre e)
    · exact absurd ((q1 e).symm.trans q) (by decide)
  · exact pw_widen (by omega) (by omega) (kk _ _ _ _ _ _ _ _ _ _ _ _ _ _ _ _ _ (LI_mv h hc hT))
set_option maxRecDepth 100000 in
set_option maxHeartbeats 2000000 in
theorem ld_without {Z : pw_Z} {Q : State → Prop} {L : List Nat} {F : Nat → va_E} {k n b N : Nat} {xs : Nat → Int32} (C : pw_CL Z) (hE1 : pw_E (zA Z) (zs Z) (zH Z)) (hst : (zl Z).stackTraces = false) (hX : pw_SC Z b N xs) (hN : N ≤ 4608) {x m oc i : Nat} {rf rm : Nat → Nat} {ar : AR} {pr er : Nat → Option Nat} {D : pw_D} {evf : Nat → ER} {cf : CR} {tf : SR} {cb : CR} {tb : SR} {c : MR} {T : TR} {f : Nat → Int64} {NP NE NM : Nat} (hi : i + 9 ≤ N) (hk : k + 4 ≤ 601024) (hn : n + 119 ≤ 7293034) (h : LI (zG Z) L F ar pr er D evf c T NP NE NM) (kk : lw_NX Z Q x m oc rf rm b i (k + 4) (n + 119)) : PW Z ((aX (zG Z) x rf ar pr er cf tf cb tb) ++ ((mX (zG Z) m rm c T) ++ [(oc, .inl ((zG Z).2.2.1, 1, .inr (.inl f)))])) L F k n Q 720 [(0, .ref b), (1, .ref x), (2, .ref m), (3, .ref oc), (4, .int (nI i))] [] := by
  obtain ⟨a, hp, hR, hcd, hre, hc, hT⟩ := ag_without h cf tf cb tb (xs (i + 1)) (xs (i + 2))
  refine lc_without_a C hE1 hX hN hi (by omega) (by omega) (w_L_without (zl Z) (zG Z) L F x rf ar pr er cf tf cb tb oc f _ _ (c_X4_without (zl Z) hst (zG Z) L F x rf (dU D a) (dW D a) (dQ D a) (dps D a) ar pr er cf tf cb tb (dT D a) (dus D a) (des D a) evf _ _ (LI_pc h).1 (fun b9 hb => ⟨(hp b9 hb).2.2.2.1, (hp b9 hb).2.2.2.2⟩)) (fun v X' L' F' q => ⟨_, q.1.2⟩) (fun E X' L' F' q => q.1.elim And.right (fun z => absurd z.1 (by rcases hR with e | e <;> rw [e] <;> decide)))) owL_no (fun v X' L' F' ho => ?_)
  obtain ⟨f', K, e1, e2, e3, e4, q0, q1, q2⟩ := owL_d ho
  rw [e1, e2, e3, e4]
  refine lc_without_b C hX hN hi (by omega) (by omega) (c_X5_without (zl Z) (zG Z) L F m rm NP NE NM c T _ _ h.1) (hcd.trans ?_) (fun q => ?_) ?_
  · rcases hR with e | e
    · exact e.trans (q0 e).1.symm
    · exact e.trans (q1 e).symm
  · rcases hR with e | e
    · exact (q0 e).2.trans (hre e)
    · exact absurd ((q1 e).symm.trans q) (by decide)
  · exact pw_widen (by omega) (by omega) (kk _ _ _ _ _ _ _ _ _ _ _ _ _ _ _ _ _ (LI_mv h hc hT))
set_option maxRecDepth 100000 in
set_option maxHeartbeats 2000000 in
theorem ld_post {Z : pw_Z} {Q : State → Prop} {L : List Nat} {F : Nat → va_E} {k n b N : Nat} {xs : Nat → Int32} (C : pw_CL Z) (hE1 : pw_E (zA Z) (zs Z) (zH Z)) (hst : (zl Z).stackTraces = false) (hX : pw_SC Z b N xs) (hN : N ≤ 4608) {x m oc i : Nat} {rf rm : Nat → Nat} {ar : AR} {pr er : Nat → Option Nat} {D : pw_D} {evf : Nat → ER} {cf : CR} {tf : SR} {cb : CR} {tb : SR} {c : MR} {T : TR} {f : Nat → Int64} {NP NE NM : Nat} (hi : i + 9 ≤ N) (hk : k + 4 ≤ 601024) (hn : n + 119 ≤ 7293034) (h : LI (zG Z) L F ar pr er D evf c T NP NE NM) (kk : lw_NX Z Q x m oc rf rm b i (k + 4) (n + 119)) : PW Z ((aX (zG Z) x rf ar pr er cf tf cb tb) ++ ((mX (zG Z) m rm c T) ++ [(oc, .inl ((zG Z).2.2.1, 1, .inr (.inl f)))])) L F k n Q 787 [(0, .ref b), (1, .ref x), (2, .ref m), (3, .ref oc), (4, .int (nI i))] [] := by
  have hR := ag_post h cf tf cb tb
  have hne1 : ¬ (m_X4_post (zG Z) D evf NP ar F cf tf cb tb).1 = 1 := fun e1 => by
    rcases hR with ⟨e, -⟩ | ⟨e, -⟩
    · exact absurd (e1.symm.trans e) (by decide)
    · exact absurd (e1.symm.trans e) (by decide)
  obtain ⟨hri, ⟨ha1, ha2, ha3⟩, hrow, hdi, hprm, hrest⟩ := id h
  refine lc_post_a C hE1 hX hN hi (by omega) (by omega) (w_L_post (zl Z) (zG Z) L F x rf ar pr er cf tf cb tb oc f (c_X4_post (zl Z) hst (zG Z) L F x rf ar pr er cf tf cb tb D evf NP hri.1.1 ha1 (fun a ha => (hrow a ha).1) (fun a ha => (hprm a ha).1) (fun a b9 ha hb9 e => Decidable.byContradiction (fun z => (hdi a b9 ha hb9 z).1 e)) (fun a b9 ha hb9 e => Decidable.byContradiction (fun z => (hdi a b9 ha hb9 z).2.2.2 e)) (LI_pc h).2.2.2.2 (fun a ha => (hrow a ha).2)) (fun v X' L' F' q => ⟨_, q.1.2⟩) (fun E X' L' F' q => q.1.elim (fun z => absurd z.1 hne1) And.right)) owL_no (fun v X' L' F' ho => ?_)
  obtain ⟨f', K, e1, e2, e3, e4, q0, q1, q2⟩ := owL_d ho
  rw [e1, e2, e3, e4]
  rcases hR with ⟨g, hcd, hre, D', NM', hL⟩ | ⟨g, hcd, hL⟩
  · refine lc_post_b C hX hN hi (by omega) (by omega) (c_X5_post (zl Z) (zG Z) L _ m rm NP NE NM c T h.1) (hcd.trans (q0 g).1.symm) (fun _ => (q0 g).2.trans hre) ?_
    exact pw_widen (by omega) (by omega) (kk _ _ _ _ _ _ _ _ _ _ _ _ _ _ _ _ _ hL)
  · refine lc_post_b C hX hN hi (by omega) (by omega) (c_X5_post (zl Z) (zG Z) L _ m rm NP NE NM c T h.1) (hcd.trans (q2 g).symm) (fun q => absurd ((q2 g).symm.trans q) (by decide)) ?_
    exact pw_widen (by omega) (by omega) (kk _ _ _ _ _ _ _ _ _ _ _ _ _ _ _ _ _ hL)
set_option maxRecDepth 100000 in
set_option maxHeartbeats 2000000 in
theorem ld_posted {Z : pw_Z} {Q : State → Prop} {L : List Nat} {F : Nat → va_E} {k n b N : Nat} {xs : Nat → Int32} (C : pw_CL Z) (hE1 : pw_E (zA Z) (zs Z) (zH Z)) (hst : (zl Z).stackTraces = false) (hX : pw_SC Z b N xs) (hN : N ≤ 4608) {x m oc i : Nat} {rf rm : Nat → Nat} {ar : AR} {pr er : Nat → Option Nat} {D : pw_D} {evf : Nat → ER} {cf : CR} {tf : SR} {cb : CR} {tb : SR} {c : MR} {T : TR} {f : Nat → Int64} {NP NE NM : Nat} (hi : i + 9 ≤ N) (hk : k + 4 ≤ 601024) (hn : n + 119 ≤ 7293034) (h : LI (zG Z) L F ar pr er D evf c T NP NE NM) (kk : lw_NX Z Q x m oc rf rm b i (k + 4) (n + 119)) : PW Z ((aX (zG Z) x rf ar pr er cf tf cb tb) ++ ((mX (zG Z) m rm c T) ++ [(oc, .inl ((zG Z).2.2.1, 1, .inr (.inl f)))])) L F k n Q 843 [(0, .ref b), (1, .ref x), (2, .ref m), (3, .ref oc), (4, .int (nI i))] [] := by
  obtain ⟨a, hp, hR, hcd, hre, hc⟩ := ag_posted h cf tf cb tb (xs (i + 1)) (xs (i + 2))
  refine lc_posted_a C hE1 hX hN hi (by omega) (by omega) (w_L_posted (zl Z) (zG Z) L F x rf ar pr er cf tf cb tb oc f _ _ (c_X4_posted (zl Z) hst (zG Z) L F x rf (dU D a) (dW D a) (dQ D a) ar pr er cf tf cb tb (dT D a) (dus D a) (des D a) evf (dps D a) _ _ (LI_pc h).1 (fun b9 hb => ⟨(hp b9 hb).2.2.2.1, (hp b9 hb).2.2.2.2⟩)) (fun v X' L' F' q => ⟨_, q.1.2⟩) (fun E X' L' F' q => q.1.elim And.right (fun z => absurd z.1 (by rcases hR with e | e <;> rw [e] <;> decide)))) owL_no (fun v X' L' F' ho => ?_)
  obtain ⟨f', K, e1, e2, e3, e4, q0, q1, q2⟩ := owL_d ho
  rw [e1, e2, e3, e4]
  refine lc_posted_b C hX hN hi (by omega) (by omega) (c_X5_posted (zl Z) (zG Z) L F m rm NP NE NM c T _ _ h.1) (hcd.trans ?_) (fun q => ?_) ?_
  · rcases hR with e | e
    · exact e.trans (q0 e).1.symm
    · exact e.trans (q1 e).symm
  · rcases hR with e | e
    · exact (q0 e).2.trans (hre e)
    · exact absurd ((q1 e).symm.trans q) (by decide)
  · exact pw_widen (by omega) (by omega) (kk _ _ _ _ _ _ _ _ _ _ _ _ _ _ _ _ _ (LI_mv h hc rfl))
set_option maxRecDepth 100000 in
set_option maxHeartbeats 2000000 in
theorem ld_total {Z : pw_Z} {Q : State → Prop} {L : List Nat} {F : Nat → va_E} {k n b N : Nat} {xs : Nat → Int32} (C : pw_CL Z) (hE1 : pw_E (zA Z) (zs Z) (zH Z)) (hst : (zl Z).stackTraces = false) (hX : pw_SC Z b N xs) (hN : N ≤ 4608) {x m oc i : Nat} {rf rm : Nat → Nat} {ar : AR} {pr er : Nat → Option Nat} {D : pw_D} {evf : Nat → ER} {cf : CR} {tf : SR} {cb : CR} {tb : SR} {c : MR} {T : TR} {f : Nat → Int64} {NP NE NM : Nat} (hi : i + 9 ≤ N) (hk : k + 4 ≤ 601024) (hn : n + 119 ≤ 7293034) (h : LI (zG Z) L F ar pr er D evf c T NP NE NM) (kk : lw_NX Z Q x m oc rf rm b i (k + 4) (n + 119)) : PW Z ((aX (zG Z) x rf ar pr er cf tf cb tb) ++ ((mX (zG Z) m rm c T) ++ [(oc, .inl ((zG Z).2.2.1, 1, .inr (.inl f)))])) L F k n Q 910 [(0, .ref b), (1, .ref x), (2, .ref m), (3, .ref oc), (4, .int (nI i))] [] := by
  obtain ⟨a, hp, hR, hcd, hre, hc⟩ := ag_total h cf tf cb tb (xs (i + 1))
  refine lc_total_a C hE1 hX hN hi (by omega) (by omega) (w_L_total (zl Z) (zG Z) L F x rf ar pr er cf tf cb tb oc f _ (c_X4_total (zl Z) hst (zG Z) L F x rf (dU D a) (dW D a) (dQ D a) (dps D a) ar pr er cf tf cb tb (dT D a) (dus D a) (des D a) evf _ (LI_pc h).1 (fun b9 hb => ⟨(hp b9 hb).2.2.2.1, (hp b9 hb).2.2.2.2⟩)) (fun v X' L' F' q => ⟨_, q.1.2⟩) (fun E X' L' F' q => q.1.elim And.right (fun z => absurd z.1 (by rcases hR with e | e <;> rw [e] <;> decide)))) owL_no (fun v X' L' F' ho => ?_)
  obtain ⟨f', K, e1, e2, e3, e4, q0, q1, q2⟩ := owL_d ho
  rw [e1, e2, e3, e4]
  refine lc_total_b C hX hN hi (by omega) (by omega) (c_X5_total (zl Z) (zG Z) L F m rm NP NE NM c T _ h.1) (hcd.trans ?_) (fun q => ?_) ?_
  · rcases hR with e | e
    · exact e.trans (q0 e).1.symm
    · exact e.trans (q1 e).symm
  · rcases hR with e | e
    · exact (q0 e).2.trans (hre e)
    · exact absurd ((q1 e).symm.trans q) (by decide)
  · exact pw_widen (by omega) (by omega) (kk _ _ _ _ _ _ _ _ _ _ _ _ _ _ _ _ _ (LI_mv h hc rfl))
set_option maxRecDepth 100000 in
set_option maxHeartbeats 2000000 in
theorem ld_strike {Z : pw_Z} {Q : State → Prop} {L : List Nat} {F : Nat → va_E} {k n b N : Nat} {xs : Nat → Int32} (C : pw_CL Z) (hE1 : pw_E (zA Z) (zs Z) (zH Z)) (hst : (zl Z).stackTraces = false) (hX : pw_SC Z b N xs) (hN : N ≤ 4608) {x m oc i : Nat} {rf rm : Nat → Nat} {ar : AR} {pr er : Nat → Option Nat} {D : pw_D} {evf : Nat → ER} {cf : CR} {tf : SR} {cb : CR} {tb : SR} {c : MR} {T : TR} {f : Nat → Int64} {NP NE NM : Nat} (hi : i + 9 ≤ N) (hk : k + 4 ≤ 601024) (hn : n + 119 ≤ 7293034) (h : LI (zG Z) L F ar pr er D evf c T NP NE NM) (kk : lw_NX Z Q x m oc rf rm b i (k + 4) (n + 119)) : PW Z ((aX (zG Z) x rf ar pr er cf tf cb tb) ++ ((mX (zG Z) m rm c T) ++ [(oc, .inl ((zG Z).2.2.1, 1, .inr (.inl f)))])) L F k n Q 512 [(0, .ref b), (1, .ref x), (2, .ref m), (3, .ref oc), (4, .int (nI i))] [] := by
  obtain ⟨a, hee, hpe, -, hre, D', hL⟩ := ag_strike h cf tf cb tb (xs (i + 1))
  refine lc_strike C hX hN hi (by omega) (by omega) (c_X4_strike (zl Z) (zG Z) L F x rf (dps D a) ar pr er cf tf cb tb (dU D a) (dW D a) (dQ D a) (dT D a) (dus D a) (des D a) evf _ (LI_pc h).1 (LI_pc h).2.1 hee hpe) (c2 := (m_X5_strike c T (xs (i + 1))).2.1) (T2 := (m_X5_strike c T (xs (i + 1))).2.2) ?_ ?_
  · rw [hre]
    exact c_X5_strike (zl Z) (zG Z) L _ m rm NP NE NM c T _ h.1
  · exact pw_widen (by omega) (by omega) (kk _ _ _ _ _ _ _ _ _ _ _ _ _ _ _ _ _ hL)
set_option maxRecDepth 100000 in
set_option maxHeartbeats 2000000 in
theorem ld_told {Z : pw_Z} {Q : State → Prop} {L : List Nat} {F : Nat → va_E} {k n b N : Nat} {xs : Nat → Int32} (C : pw_CL Z) (hE1 : pw_E (zA Z) (zs Z) (zH Z)) (hst : (zl Z).stackTraces = false) (hX : pw_SC Z b N xs) (hN : N ≤ 4608) {x m oc i : Nat} {rf rm : Nat → Nat} {ar : AR} {pr er : Nat → Option Nat} {D : pw_D} {evf : Nat → ER} {cf : CR} {tf : SR} {cb : CR} {tb : SR} {c : MR} {T : TR} {f : Nat → Int64} {NP NE NM : Nat} (hi : i + 9 ≤ N) (hk : k + 4 ≤ 601024) (hn : n + 119 ≤ 7293034) (h : LI (zG Z) L F ar pr er D evf c T NP NE NM) (kk : lw_NX Z Q x m oc rf rm b i (k + 4) (n + 119)) : PW Z ((aX (zG Z) x rf ar pr er cf tf cb tb) ++ ((mX (zG Z) m rm c T) ++ [(oc, .inl ((zG Z).2.2.1, 1, .inr (.inl f)))])) L F k n Q 537 [(0, .ref b), (1, .ref x), (2, .ref m), (3, .ref oc), (4, .int (nI i))] [] := by
  obtain ⟨hee, hre, hc⟩ := ag_told h cf tf cb tb (xs (i + 1)) (xs (i + 2))
  refine lc_told C hX hN hi (by omega) (by omega) (c_X4_told (zl Z) (zG Z) L F x rf ar pr er cf tf cb tb evf _ _ (LI_pc h).2.1 hee) (c2 := (m_X5_told c T (xs (i + 1)) (xs (i + 2))).2) (T2 := T) ?_ ?_
  · rw [hre]
    exact c_X5_told (zl Z) (zG Z) L F m rm NP NE NM c T _ _ h.1
  · exact pw_widen (by omega) (by omega) (kk _ _ _ _ _ _ _ _ _ _ _ _ _ _ _ _ _ (LI_mv h hc rfl))
set_option maxRecDepth 100000 in
set_option maxHeartbeats 2000000 in
theorem ld_months {Z : pw_Z} {Q : State → Prop} {L : List Nat} {F : Nat → va_E} {k n b N : Nat} {xs : Nat → Int32} (C : pw_CL Z) (hE1 : pw_E (zA Z) (zs Z) (zH Z)) (hst : (zl Z).stackTraces = false) (hX : pw_SC Z b N xs) (hN : N ≤ 4608) {x m oc i : Nat} {rf rm : Nat → Nat} {ar : AR} {pr er : Nat → Option Nat} {D : pw_D} {evf : Nat → ER} {cf : CR} {tf : SR} {cb : CR} {tb : SR} {c : MR} {T : TR} {f : Nat → Int64} {NP NE NM : Nat} (hi : i + 9 ≤ N) (hk : k + 4 ≤ 601024) (hn : n + 119 ≤ 7293034) (h : LI (zG Z) L F ar pr er D evf c T NP NE NM) (kk : lw_NX Z Q x m oc rf rm b i (k + 4) (n + 119)) : PW Z ((aX (zG Z) x rf ar pr er cf tf cb tb) ++ ((mX (zG Z) m rm c T) ++ [(oc, .inl ((zG Z).2.2.1, 1, .inr (.inl f)))])) L F k n Q 830 [(0, .ref b), (1, .ref x), (2, .ref m), (3, .ref oc), (4, .int (nI i))] [] := by
  obtain ⟨hre, hc⟩ := ag_months h cf tf cb tb
  refine lc_months C hX hN hi (by omega) (by omega) (c_X4_months (zl Z) (zG Z) L F x rf ar pr er cf tf cb tb) (c2 := (m_X5_months c T).2) (T2 := T) ?_ ?_
  · rw [hre]
    exact c_X5_months (zl Z) (zG Z) L F m rm c T
  · exact pw_widen (by omega) (by omega) (kk _ _ _ _ _ _ _ _ _ _ _ _ _ _ _ _ _ (LI_mv h hc rfl))
set_option maxRecDepth 100000 in
set_option maxHeartbeats 2000000 in
theorem ld_parts {Z : pw_Z} {Q : State → Prop} {L : List Nat} {F : Nat → va_E} {k n b N : Nat} {xs : Nat → Int32} (C : pw_CL Z) (hE1 : pw_E (zA Z) (zs Z) (zH Z)) (hst : (zl Z).stackTraces = false) (hX : pw_SC Z b N xs) (hN : N ≤ 4608) {x m oc i : Nat} {rf rm : Nat → Nat} {ar : AR} {pr er : Nat → Option Nat} {D : pw_D} {evf : Nat → ER} {cf : CR} {tf : SR} {cb : CR} {tb : SR} {c : MR} {T : TR} {f : Nat → Int64} {NP NE NM : Nat} (hi : i + 9 ≤ N) (hk : k + 4 ≤ 601024) (hn : n + 119 ≤ 7293034) (h : LI (zG Z) L F ar pr er D evf c T NP NE NM) (kk : lw_NX Z Q x m oc rf rm b i (k + 4) (n + 119)) : PW Z ((aX (zG Z) x rf ar pr er cf tf cb tb) ++ ((mX (zG Z) m rm c T) ++ [(oc, .inl ((zG Z).2.2.1, 1, .inr (.inl f)))])) L F k n Q 965 [(0, .ref b), (1, .ref x), (2, .ref m), (3, .ref oc), (4, .int (nI i))] [] := by
  obtain ⟨hre, hc⟩ := ag_parts h cf tf cb tb
  refine lc_parts C hX hN hi (by omega) (by omega) (c_X4_parts (zl Z) (zG Z) L F x rf ar pr er cf tf cb tb) (c2 := (m_X5_parts c T).2) (T2 := T) ?_ ?_
  · rw [hre]
    exact c_X5_parts (zl Z) (zG Z) L F m rm c T
  · exact pw_widen (by omega) (by omega) (kk _ _ _ _ _ _ _ _ _ _ _ _ _ _ _ _ _ (LI_mv h hc rfl))

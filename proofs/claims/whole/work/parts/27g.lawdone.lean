/-! the law: each case under the loop's invariant -/
def lw_NX (Z : pw_Z) (Q : State → Prop) (x m oc : Nat) (rf rm : Nat → Nat) (b i k n : Nat) : Prop := ∀ (L : List Nat) (F : Nat → va_E) (ar : AR) (pr er : Nat → Option Nat) (D : pw_D) (evf : Nat → ER) (cf : CR) (tf : SR) (cb : CR) (tb : SR) (c : MR) (T : TR) (f : Nat → Int64) (NP NE NM : Nat), LI (zG Z) L F ar pr er D evf c T NP NE NM → PW Z ((aX (zG Z) x rf ar pr er cf tf cb tb) ++ ((mX (zG Z) m rm c T) ++ [(oc, .inl ((zG Z).2.2.1, 1, .inr (.inl f)))])) L F k n Q 978 [(0, .ref b), (1, .ref x), (2, .ref m), (3, .ref oc), (4, .int (nI i))] []
theorem LI_pc {G : pw_G} {L : List Nat} {F : Nat → va_E} {ar : AR} {pr er : Nat → Option Nat} {D : pw_D} {evf : Nat → ER} {c : MR} {T : TR} {NP NE NM : Nat} (h : LI G L F ar pr er D evf c T NP NE NM) : (A_pc ar).toInt ≤ 6 ∧ (A_ec ar).toInt ≤ 40 ∧ (A_pc ar < 6 → vp_in (A_pc ar) 6) ∧ (A_ec ar < 40 → vp_in (A_ec ar) 40) ∧ (A_mc ar < 36 → vp_in (A_mc ar) 36 ∧ (A_mc ar).toInt ≤ 35) := by
  obtain ⟨⟨⟨a1, -⟩, ⟨a2, -⟩, ⟨a3, -⟩, -⟩, ⟨b1, b2, b3⟩, -⟩ := h
  rw [b1, b2, b3, nI_toInt (by omega), nI_toInt (by omega), nI_toInt (by omega)]
  refine ⟨by omega, by omega, fun q => ?_, fun q => ?_, fun q => ?_⟩
  · have := (nI_ltI (b := 6) (by omega) (by omega)).mp q
    exact vp_nI this (by omega)
  · have := (nI_ltI (b := 40) (by omega) (by omega)).mp q
    exact vp_nI this (by omega)
  · have := (nI_ltI (b := 36) (by omega) (by omega)).mp q
    exact ⟨vp_nI this (by omega), by omega⟩
set_option maxRecDepth 100000 in
set_option maxHeartbeats 2000000 in
theorem ld_part {Z : pw_Z} {Q : State → Prop} {L : List Nat} {F : Nat → va_E} {k n b N : Nat} {xs : Nat → Int32} (C : pw_CL Z) (hE1 : pw_E (zA Z) (zs Z) (zH Z)) (hst : (zl Z).stackTraces = false) (hX : pw_SC Z b N xs) (hN : N ≤ 4608) {x m oc i : Nat} {rf rm : Nat → Nat} {ar : AR} {pr er : Nat → Option Nat} {D : pw_D} {evf : Nat → ER} {cf : CR} {tf : SR} {cb : CR} {tb : SR} {c : MR} {T : TR} {f : Nat → Int64} {NP NE NM : Nat} (hi : i + 9 ≤ N) (hk : k + 4 ≤ 601024) (hn : n + 119 ≤ 7293034) (h : LI (zG Z) L F ar pr er D evf c T NP NE NM) (kk : lw_NX Z Q x m oc rf rm b i (k + 4) (n + 119)) : PW Z ((aX (zG Z) x rf ar pr er cf tf cb tb) ++ ((mX (zG Z) m rm c T) ++ [(oc, .inl ((zG Z).2.2.1, 1, .inr (.inl f)))])) L F k n Q 108 [(0, .ref b), (1, .ref x), (2, .ref m), (3, .ref oc), (4, .int (nI i))] [] := by
  obtain ⟨hcd, hR⟩ := ag_part h cf tf cb tb (sJ (xs (i + 1)) (xs (i + 2))) (sJ (xs (i + 3)) (xs (i + 4))) (xs (i + 5)) (xs (i + 6)) (xs (i + 7)) (xs (i + 8))
  refine lc_part_a C hE1 hX hN hi (by omega) (by omega) (w_L_part (zl Z) (zG Z) L F x rf ar pr er cf tf cb tb oc f _ _ _ _ _ _ (c_X4_part (zl Z) hst (zG Z) L F x rf ar pr er cf tf cb tb _ _ _ _ _ _ (LI_pc h).2.2.1) (fun v X' L' F' q => ?_) (fun E X' L' F' q => ?_)) owI_no (fun v X' L' F' ho => ?_)
  · rcases q with ⟨-, e, -⟩ | ⟨-, e, -⟩ | ⟨-, b9, u9, w9, q9, -, -, -, e⟩
    · cases e
    · cases e
    · exact ⟨_, Sum.inl.inj e⟩
  · rcases q with ⟨-, e, -⟩ | ⟨-, e, -⟩ | ⟨-, b9, u9, w9, q9, -, -, -, e⟩
    · exact Or.inl (Sum.inr.inj e)
    · exact Or.inr (Sum.inr.inj e)
    · cases e
  obtain ⟨X1, f', e2, ho⟩ := owI_m ho
  have hM := fun (L' : List Nat) (F' : Nat → va_E) => c_X5_part (zl Z) (zG Z) L' F' m rm NP c T (sJ (xs (i + 1)) (xs (i + 2))) (sJ (xs (i + 3)) (xs (i + 4))) (xs (i + 5)) (xs (i + 6)) (xs (i + 7)) (xs (i + 8)) h.1.1
  rcases ho with ⟨g, e1, e5, e3, e4⟩ | ⟨g, e1, e5, e3, e4⟩ | ⟨g, ho⟩
  · rw [e1, e2, e5, e3, e4]
    refine lc_part_b C hX hN hi (by omega) (by omega) (hM _ _) (hcd.trans g) (fun q => absurd q (by decide)) ?_
    rcases hR with ⟨-, hL⟩ | ⟨g2, -⟩
    · exact pw_widen (by omega) (by omega) (kk _ _ _ _ _ _ _ _ _ _ _ _ _ _ _ _ _ hL)
    · exact absurd (g.symm.trans g2) (by decide)
  · rw [e1, e2, e5, e3, e4]
    refine lc_part_b C hX hN hi (by omega) (by omega) (hM _ _) (hcd.trans g) (fun q => absurd q (by decide)) ?_
    rcases hR with ⟨-, hL⟩ | ⟨g2, -⟩
    · exact pw_widen (by omega) (by omega) (kk _ _ _ _ _ _ _ _ _ _ _ _ _ _ _ _ _ hL)
    · exact absurd (g.symm.trans g2) (by decide)
  · rcases hR with ⟨g2 | g2, -⟩ | ⟨-, hNP, hre, hL⟩
    · exact absurd (g.symm.trans g2) (by decide)
    · exact absurd (g.symm.trans g2) (by decide)
    · rcases ho with ⟨z, ⟨b9, u9, w9, q9, hb9, hn9, e5, e6⟩, e1, hf⟩ | ⟨⟨b9, u9, w9, q9, hb9, hn9, e5, e6⟩, e1⟩ | ⟨⟨b9, u9, w9, q9, hb9, hn9, e5, e6⟩, e1⟩
      · have hz : A_pc ar + 1 - 1 = z := by
          have := Option.some.inj (Sum.inl.inj e6)
          injection this with this
          exact this.symm
        obtain ⟨D', hL⟩ := hL b9 u9 w9 q9 L' F' hb9 hn9
        rw [e1, e2, e5]
        refine lc_part_b C hX hN hi (by omega) (by omega) (hM _ _) (hcd.trans g) (fun _ => hf.trans (congrArg Int32.toInt64 (hz.symm.trans hre))) ?_
        exact pw_widen (by omega) (by omega) (kk _ _ _ _ _ _ _ _ _ _ _ _ _ _ _ _ _ hL)
      · cases e6
      · cases e6
set_option maxRecDepth 100000 in
set_option maxHeartbeats 2000000 in
theorem ld_units {Z : pw_Z} {Q : State → Prop} {L : List Nat} {F : Nat → va_E} {k n b N : Nat} {xs : Nat → Int32} (C : pw_CL Z) (hE1 : pw_E (zA Z) (zs Z) (zH Z)) (hst : (zl Z).stackTraces = false) (hX : pw_SC Z b N xs) (hN : N ≤ 4608) {x m oc i : Nat} {rf rm : Nat → Nat} {ar : AR} {pr er : Nat → Option Nat} {D : pw_D} {evf : Nat → ER} {cf : CR} {tf : SR} {cb : CR} {tb : SR} {c : MR} {T : TR} {f : Nat → Int64} {NP NE NM : Nat} (hi : i + 9 ≤ N) (hk : k + 4 ≤ 601024) (hn : n + 119 ≤ 7293034) (h : LI (zG Z) L F ar pr er D evf c T NP NE NM) (kk : lw_NX Z Q x m oc rf rm b i (k + 4) (n + 119)) : PW Z ((aX (zG Z) x rf ar pr er cf tf cb tb) ++ ((mX (zG Z) m rm c T) ++ [(oc, .inl ((zG Z).2.2.1, 1, .inr (.inl f)))])) L F k n Q 294 [(0, .ref b), (1, .ref x), (2, .ref m), (3, .ref oc), (4, .int (nI i))] [] := by
  obtain ⟨a, hp, hR, hcd, hre, D', hL⟩ := ag_units h cf tf cb tb (xs (i + 1)) (xs (i + 2)) (xs (i + 3))
  refine lc_units_a C hE1 hX hN hi (by omega) (by omega) (w_L_units (zl Z) (zG Z) L F x rf ar pr er cf tf cb tb oc f _ _ _ (c_X4_units (zl Z) hst (zG Z) L F x rf (dW D a) (dQ D a) (dps D a) ar pr er cf tf cb tb (dU D a) (dT D a) (dus D a) (des D a) evf _ _ _ (LI_pc h).1 (fun b9 hb => ⟨(hp b9 hb).2.2.2.1, (hp b9 hb).2.2.2.2⟩)) (fun v X' L' F' q => ⟨_, q.1.2⟩) (fun E X' L' F' q => q.1.imp And.right And.right)) owI_no (fun v X' L' F' ho => ?_)
  obtain ⟨f', e1, e2, e3, e4, hf⟩ := owI_d ho
  rw [e1, e2, e3, e4]
  refine lc_units_b C hX hN hi (by omega) (by omega) (c_X5_units (zl Z) (zG Z) L _ m rm NP NE NM c T _ _ _ h.1) hcd (fun q => (hf q).trans (congrArg Int32.toInt64 (hre q))) ?_
  exact pw_widen (by omega) (by omega) (kk _ _ _ _ _ _ _ _ _ _ _ _ _ _ _ _ _ hL)
set_option maxRecDepth 100000 in
set_option maxHeartbeats 2000000 in
theorem ld_event {Z : pw_Z} {Q : State → Prop} {L : List Nat} {F : Nat → va_E} {k n b N : Nat} {xs : Nat → Int32} (C : pw_CL Z) (hE1 : pw_E (zA Z) (zs Z) (zH Z)) (hst : (zl Z).stackTraces = false) (hX : pw_SC Z b N xs) (hN : N ≤ 4608) {x m oc i : Nat} {rf rm : Nat → Nat} {ar : AR} {pr er : Nat → Option Nat} {D : pw_D} {evf : Nat → ER} {cf : CR} {tf : SR} {cb : CR} {tb : SR} {c : MR} {T : TR} {f : Nat → Int64} {NP NE NM : Nat} (hi : i + 9 ≤ N) (hk : k + 4 ≤ 601024) (hn : n + 119 ≤ 7293034) (h : LI (zG Z) L F ar pr er D evf c T NP NE NM) (kk : lw_NX Z Q x m oc rf rm b i (k + 4) (n + 119)) : PW Z ((aX (zG Z) x rf ar pr er cf tf cb tb) ++ ((mX (zG Z) m rm c T) ++ [(oc, .inl ((zG Z).2.2.1, 1, .inr (.inl f)))])) L F k n Q 374 [(0, .ref b), (1, .ref x), (2, .ref m), (3, .ref oc), (4, .int (nI i))] [] := by
  obtain ⟨a, hp, hR⟩ := ag_event h cf tf cb tb (xs (i + 1)) (xs (i + 2)) (xs (i + 3)) (sJ (xs (i + 4)) (xs (i + 5))) (xs (i + 6))
  refine lc_event_a C hE1 hX hN hi (by omega) (by omega) (w_L_event (zl Z) (zG Z) L F x rf ar pr er cf tf cb tb oc f _ _ _ _ _ (c_X4_event (zl Z) hst (zG Z) L F x rf ar pr er cf tf cb tb (dP D a) (dU D a) (dW D a) (dQ D a) (dps D a) (dT D a) (dus D a) (des D a) evf _ _ _ _ _ (LI_pc h).1 (LI_pc h).2.2.2.1 (fun b9 hb => ⟨(hp b9 hb).1, (hp b9 hb).2.2.2.1, (hp b9 hb).2.2.2.2⟩)) (fun v X' L' F' q => ?_) (fun E X' L' F' q => ?_)) owI_no (fun v X' L' F' ho => ?_)
  · rcases q with ⟨-, e, -⟩ | ⟨-, e, -⟩ | ⟨-, b9, -, q⟩
    · cases e
    · cases e
    · exact ⟨_, q.1.2⟩
  · rcases q with ⟨-, e, -⟩ | ⟨-, e, -⟩ | ⟨-, b9, -, q⟩
    · exact Or.inl (Sum.inr.inj e)
    · exact Or.inr (Sum.inr.inj e)
    · exact q.1.imp And.right And.right
  obtain ⟨X1, f', e2, ho⟩ := owI_m ho
  have hM := fun (L' : List Nat) (F' : Nat → va_E) => c_X5_event (zl Z) (zG Z) L' F' m rm NP NE NM c T (xs (i + 1)) (xs (i + 2)) (xs (i + 3)) (sJ (xs (i + 4)) (xs (i + 5))) (xs (i + 6)) h.1
  rcases ho with ⟨g, e1, e5, e3, e4⟩ | ⟨g, e1, e5, e3, e4⟩ | ⟨g, ho⟩
  · rw [e1, e2, e5, e3, e4]
    rcases hR with ⟨-, hcd, hL⟩ | ⟨g2, -⟩
    · refine lc_event_b C hX hN hi (by omega) (by omega) (hM _ _) (hcd.trans g) (fun q => absurd q (by decide)) ?_
      exact pw_widen (by omega) (by omega) (kk _ _ _ _ _ _ _ _ _ _ _ _ _ _ _ _ _ hL)
    · exact absurd (g.symm.trans g2) (by decide)
  · rw [e1, e2, e5, e3, e4]
    rcases hR with ⟨-, hcd, hL⟩ | ⟨g2, -⟩
    · refine lc_event_b C hX hN hi (by omega) (by omega) (hM _ _) (hcd.trans g) (fun q => absurd q (by decide)) ?_
      exact pw_widen (by omega) (by omega) (kk _ _ _ _ _ _ _ _ _ _ _ _ _ _ _ _ _ hL)
    · exact absurd (g.symm.trans g2) (by decide)
  · rcases hR with ⟨g2 | g2, -⟩ | ⟨-, hR⟩
    · exact absurd (g.symm.trans g2) (by decide)
    · exact absurd (g.symm.trans g2) (by decide)
    · rcases ho with ⟨z, ⟨b9, hb9, ⟨r1, r2⟩, e5, e3, e4⟩, e1, hf⟩ | ⟨⟨b9, hb9, r1, e5, e3, e4⟩, e1⟩ | ⟨⟨b9, hb9, r1, e5, e3, e4⟩, e1⟩
      · obtain ⟨-, hcd, hre, D', evf', NE', hL⟩ := hR b9 hb9
        rw [e1, e2, e5, e3, e4]
        refine lc_event_b C hX hN hi (by omega) (by omega) (hM _ _) (hcd.trans r1) (fun _ => hf.trans (congrArg Int32.toInt64 (Eq.trans ?_ (hre r1)))) ?_
        · have := Option.some.inj r2
          injection this
        · exact pw_widen (by omega) (by omega) (kk _ _ _ _ _ _ _ _ _ _ _ _ _ _ _ _ _ hL)
      · obtain ⟨hq, -⟩ := hR b9 hb9
        rcases r1 with ⟨r1, -⟩ | ⟨-, r1⟩
        · rcases hq with hq | hq
          · exact absurd (r1.symm.trans hq) (by decide)
          · exact absurd (r1.symm.trans hq) (by decide)
        · exact absurd r1 (by decide)
      · obtain ⟨hq, hcd, -, D', evf', NE', hL⟩ := hR b9 hb9
        rw [e1, e2, e5, e3, e4]
        rcases r1 with ⟨-, r1⟩ | ⟨r1, -⟩
        · exact absurd r1 (by decide)
        · refine lc_event_b C hX hN hi (by omega) (by omega) (hM _ _) (hcd.trans r1) (fun q => absurd q (by decide)) ?_
          exact pw_widen (by omega) (by omega) (kk _ _ _ _ _ _ _ _ _ _ _ _ _ _ _ _ _ hL)
set_option maxRecDepth 100000 in
set_option maxHeartbeats 2000000 in
theorem ld_value {Z : pw_Z} {Q : State → Prop} {L : List Nat} {F : Nat → va_E} {k n b N : Nat} {xs : Nat → Int32} (C : pw_CL Z) (hE1 : pw_E (zA Z) (zs Z) (zH Z)) (hst : (zl Z).stackTraces = false) (hX : pw_SC Z b N xs) (hN : N ≤ 4608) {x m oc i : Nat} {rf rm : Nat → Nat} {ar : AR} {pr er : Nat → Option Nat} {D : pw_D} {evf : Nat → ER} {cf : CR} {tf : SR} {cb : CR} {tb : SR} {c : MR} {T : TR} {f : Nat → Int64} {NP NE NM : Nat} (hi : i + 9 ≤ N) (hk : k + 4 ≤ 601024) (hn : n + 119 ≤ 7293034) (h : LI (zG Z) L F ar pr er D evf c T NP NE NM) (kk : lw_NX Z Q x m oc rf rm b i (k + 4) (n + 119)) : PW Z ((aX (zG Z) x rf ar pr er cf tf cb tb) ++ ((mX (zG Z) m rm c T) ++ [(oc, .inl ((zG Z).2.2.1, 1, .inr (.inl f)))])) L F k n Q 574 [(0, .ref b), (1, .ref x), (2, .ref m), (3, .ref oc), (4, .int (nI i))] [] := by
  obtain ⟨a, hp, hR, hcd, hre, hc, hT⟩ := ag_value h cf tf cb tb (xs (i + 1)) (xs (i + 2)) (xs (i + 3))
  refine lc_value_a C hE1 hX hN hi (by omega) (by omega) (w_L_value (zl Z) (zG Z) L F x rf ar pr er cf tf cb tb oc f _ _ _ (c_X4_value (zl Z) hst (zG Z) L F x rf (dU D a) (dW D a) (dQ D a) (dps D a) ar pr er cf tf cb tb (dT D a) (dus D a) (des D a) evf _ _ _ (LI_pc h).1 (fun b9 hb => ⟨(hp b9 hb).2.2.2.1, (hp b9 hb).2.2.2.2⟩)) (fun v X' L' F' q => ⟨_, q.1.2⟩) (fun E X' L' F' q => q.1.elim And.right (fun z => absurd z.1 (by rcases hR with e | e <;> rw [e] <;> decide)))) owL_no (fun v X' L' F' ho => ?_)
  obtain ⟨f', K, e1, e2, e3, e4, q0, q1, q2⟩ := owL_d ho
  rw [e1, e2, e3, e4]
  refine lc_value_b C hX hN hi (by omega) (by omega) (c_X5_value (zl Z) (zG Z) L F m rm NP NE NM c T _ _ _ h.1) (hcd.trans ?_) (fun q => ?_) ?_
  · rcases hR with e | e
    · exact e.trans (q0 e).1.symm
    · exact e.trans (q1 e).symm
  · rcases hR with e | e
    · exact (q0 e).2.trans (hre e)
    · exact absurd ((q1 e).symm.trans q) (by decide)
  · exact pw_widen (by omega) (by omega) (kk _ _ _ _ _ _ _ _ _ _ _ _ _ _ _ _ _ (LI_mv h hc hT))

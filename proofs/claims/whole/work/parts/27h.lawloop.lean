/-! the law's loop -/
theorem lw_sub9 {N i : Nat} (hN : N ≤ 4608) (hi : i ≤ N) (h : ¬ nI N - 9 < nI i) : i + 9 ≤ N := by
  apply Decidable.byContradiction
  intro g
  apply h
  rw [Int32.lt_iff_toInt_lt, Int32.toInt_sub, nI_toInt (by omega), nI_toInt (by omega), show (9 : Int32).toInt = 9 from by decide, Int.bmod_def]
  split <;> omega
theorem lw_le9 {N i : Nat} (hN : N ≤ 4608) (hi : i ≤ N) (h : i + 9 ≤ N) : ¬ nI N - 9 < nI i := by
  rw [Int32.lt_iff_toInt_lt, Int32.toInt_sub, nI_toInt (by omega), nI_toInt (by omega), show (9 : Int32).toInt = 9 from by decide, Int.bmod_def]
  split <;> omega
theorem lw_inc9 (j : Nat) : nI (9 * j) + Int32.ofInt 9 = nI (9 * (j + 1)) := by
  rw [show Int32.ofInt 9 = nI 9 from by decide, nI_add, Nat.mul_succ]
set_option maxRecDepth 100000 in
set_option maxHeartbeats 2000000 in
theorem lw_loop {Z : pw_Z} {Q : State → Prop} {b N : Nat} {xs : Nat → Int32} (C : pw_CL Z) (hE1 : pw_E (zA Z) (zs Z) (zH Z)) (hst : (zl Z).stackTraces = false) (hX : pw_SC Z b N xs) (hN : N ≤ 4608) {x m oc : Nat} {rf rm : Nat → Nat}
    (hend : ∀ (X : va_W) (L : List Nat) (F : Nat → va_E) (lv : List (Nat × Value)), PW Z X L F 601024 7293034 Q 985 lv [.int 1]) : ∀ (w j : Nat) (L : List Nat) (F : Nat → va_E) (ar : AR) (pr er : Nat → Option Nat) (D : pw_D) (evf : Nat → ER) (cf : CR) (tf : SR) (cb : CR) (tb : SR) (c : MR) (T : TR) (f : Nat → Int64) (NP NE NM : Nat), 9 * j ≤ N → N < 9 * (j + w) → LI (zG Z) L F ar pr er D evf c T NP NE NM → PW Z ((aX (zG Z) x rf ar pr er cf tf cb tb) ++ ((mX (zG Z) m rm c T) ++ [(oc, .inl ((zG Z).2.2.1, 1, .inr (.inl f)))])) L F (24 + 4 * j) (873 + 119 * j) Q 23 [(0, .ref b), (1, .ref x), (2, .ref m), (3, .ref oc), (4, .int (nI (9 * j)))] [] := by
  intro w
  induction w with
  | zero => intro j L F ar pr er D evf cf tf cb tb c T f NP NE NM h1 h2; exact absurd h2 (by omega)
  | succ w ih =>
    intro j L F ar pr er D evf cf tf cb tb c T f NP NE NM h1 h2 h
    refine pk_iload C 4 dL_law_23 rfl (pc2 := 25) rfl ?_
    refine pk_aload_n C 0 dL_law_25 rfl rfl (pc2 := 26) rfl ?_
    refine pk_slen C hX dL_law_26 (pc2 := 27) rfl ?_
    refine pk_bipush (v := 9) C dL_law_27 (by decide) (pc2 := 29) rfl ?_
    refine pk_isub C dL_law_29 (pc2 := 30) rfl ?_
    refine pk_icmp_gt (tgt := 984) C dL_law_30 (by decide) (pc2 := 33) rfl (fun _ => ?_) (fun hgo => ?_)
    · refine pk_iconst (v := 1) C dL_law_984 (by decide) (pc2 := 985) rfl ?_
      exact pw_widen (by omega) (by omega) (hend _ _ _ _)
    · have hi : 9 * j + 9 ≤ N := lw_sub9 hN h1 hgo
      have kk : lw_NX Z Q x m oc rf rm b (9 * j) (24 + 4 * j + 4) (873 + 119 * j + 119) := by
        intro L F ar pr er D evf cf tf cb tb c T f NP NE NM h
        refine pk_iinc (lv' := [(4, .int (nI (9 * (j + 1)))), (0, .ref b), (1, .ref x), (2, .ref m), (3, .ref oc)]) C 4 dL_law_978 rfl (lw_inc9 j) (by decide) rfl (pc2 := 981) rfl ?_
        refine pw_lv (lv' := [(0, .ref b), (1, .ref x), (2, .ref m), (3, .ref oc), (4, .int (nI (9 * (j + 1))))]) [1, 2, 3, 4, 0] rfl ?_
        refine pk_goto (tgt := 23) C dL_law_981 (by decide) ?_
        exact pw_widen (by omega) (by omega) (ih (j + 1) L F ar pr er D evf cf tf cb tb c T f NP NE NM (by omega) (by omega) h)
      refine pk_aload_n C 0 dL_law_33 rfl rfl (pc2 := 34) rfl ?_
      refine pk_iload C 4 dL_law_34 rfl (pc2 := 36) rfl ?_
      refine pk_sld C hX (vp_nI (by omega) hN) dL_law_36 (pc2 := 37) rfl ?_
      refine pk_bipush (v := 15) C dL_law_37 (by decide) (pc2 := 39) rfl ?_
      refine pk_iand C dL_law_39 (pc2 := 40) rfl ?_
      generalize xs (Int32.toNatClampNeg (nI (9 * j))) &&& 15 = y
      by_cases y0 : y = nI 0
      · subst y0
        refine pk_tableIn (off := 68) (tgt := 108) C dL_law_40 (by decide) (by decide) rfl (by decide) ?_
        exact ld_part C hE1 hst hX hN hi (by omega) (by omega) h kk
      by_cases y1 : y = nI 1
      · subst y1
        refine pk_tableIn (off := 254) (tgt := 294) C dL_law_40 (by decide) (by decide) rfl (by decide) ?_
        exact ld_units C hE1 hst hX hN hi (by omega) (by omega) h kk
      by_cases y2 : y = nI 2
      · subst y2
        refine pk_tableIn (off := 334) (tgt := 374) C dL_law_40 (by decide) (by decide) rfl (by decide) ?_
        exact ld_event C hE1 hst hX hN hi (by omega) (by omega) h kk
      by_cases y3 : y = nI 3
      · subst y3
        refine pk_tableIn (off := 472) (tgt := 512) C dL_law_40 (by decide) (by decide) rfl (by decide) ?_
        exact ld_strike C hE1 hst hX hN hi (by omega) (by omega) h kk
      by_cases y4 : y = nI 4
      · subst y4
        refine pk_tableIn (off := 497) (tgt := 537) C dL_law_40 (by decide) (by decide) rfl (by decide) ?_
        exact ld_told C hE1 hst hX hN hi (by omega) (by omega) h kk
      by_cases y5 : y = nI 5
      · subst y5
        refine pk_tableIn (off := 534) (tgt := 574) C dL_law_40 (by decide) (by decide) rfl (by decide) ?_
        exact ld_value C hE1 hst hX hN hi (by omega) (by omega) h kk
      by_cases y6 : y = nI 6
      · subst y6
        refine pk_tableIn (off := 613) (tgt := 653) C dL_law_40 (by decide) (by decide) rfl (by decide) ?_
        exact ld_charge C hE1 hst hX hN hi (by omega) (by omega) h kk
      by_cases y7 : y = nI 7
      · subst y7
        refine pk_tableIn (off := 680) (tgt := 720) C dL_law_40 (by decide) (by decide) rfl (by decide) ?_
        exact ld_without C hE1 hst hX hN hi (by omega) (by omega) h kk
      by_cases y8 : y = nI 8
      · subst y8
        refine pk_tableIn (off := 747) (tgt := 787) C dL_law_40 (by decide) (by decide) rfl (by decide) ?_
        exact ld_post C hE1 hst hX hN hi (by omega) (by omega) h kk
      by_cases y9 : y = nI 9
      · subst y9
        refine pk_tableIn (off := 790) (tgt := 830) C dL_law_40 (by decide) (by decide) rfl (by decide) ?_
        exact ld_months C hE1 hst hX hN hi (by omega) (by omega) h kk
      by_cases y10 : y = nI 10
      · subst y10
        refine pk_tableIn (off := 803) (tgt := 843) C dL_law_40 (by decide) (by decide) rfl (by decide) ?_
        exact ld_posted C hE1 hst hX hN hi (by omega) (by omega) h kk
      by_cases y11 : y = nI 11
      · subst y11
        refine pk_tableIn (off := 870) (tgt := 910) C dL_law_40 (by decide) (by decide) rfl (by decide) ?_
        exact ld_total C hE1 hst hX hN hi (by omega) (by omega) h kk
      by_cases y12 : y = nI 12
      · subst y12
        refine pk_tableIn (off := 925) (tgt := 965) C dL_law_40 (by decide) (by decide) rfl (by decide) ?_
        exact ld_parts C hE1 hst hX hN hi (by omega) (by omega) h kk
      refine pk_tableOut (tgt := 978) C dL_law_40 ?_ (by decide) ?_
      · have z0 := sw_ne 0 (by decide) y0
        have z1 := sw_ne 1 (by decide) y1
        have z2 := sw_ne 2 (by decide) y2
        have z3 := sw_ne 3 (by decide) y3
        have z4 := sw_ne 4 (by decide) y4
        have z5 := sw_ne 5 (by decide) y5
        have z6 := sw_ne 6 (by decide) y6
        have z7 := sw_ne 7 (by decide) y7
        have z8 := sw_ne 8 (by decide) y8
        have z9 := sw_ne 9 (by decide) y9
        have z10 := sw_ne 10 (by decide) y10
        have z11 := sw_ne 11 (by decide) y11
        have z12 := sw_ne 12 (by decide) y12
        omega
      · exact pw_widen (by omega) (by omega) (kk _ _ _ _ _ _ _ _ _ _ _ _ _ _ _ _ _ h)

/-- behind a wrapper: its answer tells how the call ended, its row holds what the call answered -/
def owI (ox : pw_OX) (G : pw_G) (oc : Nat) (f : Nat → Int64) (cS : Int32) : pw_OX := fun r X' L' F' => ∃ (X1 : va_W) (f' : Nat → Int64), X' = (oc, .inl (G.2.2.1, 1, .inr (.inl f'))) :: X1 ∧ ((∃ z : Int32, ox (.inl (some (.int z))) X1 L' F' ∧ r = .inl (some (.int 0)) ∧ f' = vp_updL f (Int32.toNatClampNeg 0) (Int32.toInt64 z)) ∨ (ox (.inr nIAE) X1 L' F' ∧ r = .inl (some (.int 1)) ∧ f' = f) ∨ (ox (.inr nISE) X1 L' F' ∧ r = .inl (some (.int cS)) ∧ f' = f))
def owL (ox : pw_OX) (G : pw_G) (oc : Nat) (f : Nat → Int64) (cS : Int32) : pw_OX := fun r X' L' F' => ∃ (X1 : va_W) (f' : Nat → Int64), X' = (oc, .inl (G.2.2.1, 1, .inr (.inl f'))) :: X1 ∧ ((∃ z : Int64, ox (.inl (some (.long z))) X1 L' F' ∧ r = .inl (some (.int 0)) ∧ f' = vp_updL f (Int32.toNatClampNeg 0) z) ∨ (ox (.inr nIAE) X1 L' F' ∧ r = .inl (some (.int 1)) ∧ f' = f) ∨ (ox (.inr nISE) X1 L' F' ∧ r = .inl (some (.int cS)) ∧ f' = f))
theorem in_01 : vp_in (0 : Int32) 1 := vp_in_nI (n := 0) (N := 1) (by decide) (by decide)
set_option maxRecDepth 100000 in
set_option maxHeartbeats 2000000 in
theorem w_L_part (l : Launch) (G : pw_G) (L : List Nat) (F : Nat → va_E) (x : Nat) (rf : Nat → Nat) (ar : AR) (pr : (Nat → Option Nat)) (er : (Nat → Option Nat)) (cf : CR) (tf : SR) (cb : CR) (tb : SR) (oc : Nat) (f : Nat → Int64) (p0 : Int64) (p1 : Int64) (p2 : Int32) (p3 : Int32) (p4 : Int32) (p5 : Int32) {ox : pw_OX} (hM : XM l yX4_part wsX4_part ⟨6, 4, 119, 90⟩ G [.ref x, .long p0, .long p1, .int p2, .int p3, .int p4, .int p5] (aX G x rf ar pr er cf tf cb tb) L F 4 119 ox) (hret : ∀ v X' L' F', ox (.inl v) X' L' F' → ∃ z, v = some (.int z)) (hth : ∀ E X' L' F', ox (.inr E) X' L' F' → E = nIAE ∨ E = nISE) : XM l yL_part wsL_part ⟨7, 4, 119, 120⟩ G [.ref x, .long p0, .long p1, .int p2, .int p3, .int p4, .int p5, .ref oc] (aX G x rf ar pr er cf tf cb tb ++ [(oc, .inl (G.2.2.1, 1, .inr (.inl f)))]) L F 4 119 (owI ox G oc f 2) := by
  refine xw_entry (by decide) rfl rfl (Nat.le_of_ble_eq_true rfl) ?_
  intro Z Q C hl0 hG0 hE1 htab hE
  subst hl0
  subst hG0
  have w0_ : Cond.classLink RL 13 nIAE ∈ wsL_part := by decide +kernel
  have w1_ : Cond.classLink RL 15 nISE ∈ wsL_part := by decide +kernel
  show PW Z ((aX (zG Z) x rf ar pr er cf tf cb tb) ++ [(oc, .inl ((zG Z).2.2.1, 1, .inr (.inl f)))]) L F 0 0 Q 0 [(0, .ref x), (1, .long p0), (3, .long p1), (5, .int p2), (6, .int p3), (7, .int p4), (8, .int p5), (9, .ref oc)] []
  refine pk_aload C 7 dL_part_0 rfl (pc2 := 2) rfl ?_
  refine pk_iconst (v := 0) C dL_part_2 (by decide) (pc2 := 3) rfl ?_
  refine pk_aload_n C 0 dL_part_3 rfl rfl (pc2 := 4) rfl ?_
  refine pk_lload_n C 1 dL_part_4 rfl rfl (pc2 := 5) rfl ?_
  refine pk_lload_n C 2 dL_part_5 rfl rfl (pc2 := 6) rfl ?_
  refine pk_iload C 3 dL_part_6 rfl (pc2 := 8) rfl ?_
  refine pk_iload C 4 dL_part_8 rfl (pc2 := 10) rfl ?_
  refine pk_iload C 5 dL_part_10 rfl (pc2 := 12) rfl ?_
  refine pk_iload C 6 dL_part_12 rfl (pc2 := 14) rfl ?_
  refine pk_callVX (X := ((aX (zG Z) x rf ar pr er cf tf cb tb) ++ [(oc, .inl ((zG Z).2.2.1, 1, .inr (.inl f)))])) (cx := (aX (zG Z) x rf ar pr er cf tf cb tb)) (wr := [(oc, .inl ((zG Z).2.2.1, 1, .inr (.inl f)))]) (As := [.long p0, .long p1, .int p2, .int p3, .int p4, .int p5]) (st := [.int 0, .ref oc]) (k := 0) (n := 0) C hE1 hM gL_part_X4_part rfl rfl rfl 6 (by decide +kernel) ⟨(Nat.le_of_ble_eq_true rfl), (Nat.le_of_ble_eq_true rfl)⟩ (pw_atX 0 rfl) (ci := 4) rfl rfl rfl (Nat.le_of_ble_eq_true rfl) ⟨(Nat.le_of_ble_eq_true rfl), (Nat.le_of_ble_eq_true rfl)⟩ [0, 1, 2, 3, 4, 5, 6] [7] rfl rfl rfl rfl (by decide) dL_part_14 (pc2 := 17) rfl (fun v9 X' L' F' ho => ?_) (fun E X' L' F' ho => ?_)
  · obtain ⟨z, rfl⟩ := hret _ _ _ _ ho
    show PW Z ((oc, .inl ((zG Z).2.2.1, 1, .inr (.inl f))) :: X') L' F' 4 119 Q 17 [(0, .ref x), (1, .long p0), (3, .long p1), (5, .int p2), (6, .int p3), (7, .int p4), (8, .int p5), (9, .ref oc)] [.int z, .int 0, .ref oc]
    refine pk_i2l C dL_part_17 (pc2 := 18) rfl ?_
    refine pk_lastX (X := (oc, .inl ((zG Z).2.2.1, 1, .inr (.inl f))) :: X') (X' := (oc, .inl ((zG Z).2.2.1, 1, .inr (.inl (vp_updL f (Int32.toNatClampNeg 0) (Int32.toInt64 z))))) :: X') C 0 rfl in_01 rfl dL_part_18 (pc2 := 19) rfl ?_
    refine pk_goto (tgt := 30) C dL_part_19 (by decide) ?_
    refine pk_iconst (v := 0) C dL_part_30 (by decide) (pc2 := 31) rfl ?_
    exact px_ret hE (Nat.le_of_ble_eq_true rfl) (Nat.le_of_ble_eq_true rfl) (fun Q' hE' => pr_int (ty := .int) C hE' rfl rfl ⟨X', _, rfl, Or.inl ⟨z, ho, rfl, rfl⟩⟩ dL_part_31)
  · rcases hth _ _ _ _ ho with rfl | rfl
    · refine px_catch C [] ⟨0, 19, 22, 13⟩ [⟨0, 19, 26, 15⟩] (by rw [htab]; rfl) (fun z hz => absurd hz List.not_mem_nil) (by decide) (by decide) w0_ (hE1.2.2.2.1 _ List.mem_cons_self) (pc2 := 22) rfl (fun q9 => ?_)
      refine pk_astore (lv' := [(10, .ref q9), (0, .ref x), (1, .long p0), (3, .long p1), (5, .int p2), (6, .int p3), (7, .int p4), (8, .int p5), (9, .ref oc)]) C dL_part_22 (by decide) rfl (pc2 := 24) rfl ?_
      refine pk_iconst (v := 1) C dL_part_24 (by decide) (pc2 := 25) rfl ?_
      exact px_ret hE (Nat.le_of_ble_eq_true rfl) (Nat.le_of_ble_eq_true rfl) (fun Q' hE' => pr_int (ty := .int) C hE' rfl rfl ⟨X', _, rfl, Or.inr (Or.inl ⟨ho, rfl, rfl⟩)⟩ dL_part_25)
    · refine px_catch C [⟨0, 19, 22, 13⟩] ⟨0, 19, 26, 15⟩ [] (by rw [htab]; rfl) (fun z hz => by cases List.mem_singleton.mp hz; exact Or.inr ⟨by decide, nIAE, w0_, hE1.2.2.2.2.1⟩) (by decide) (by decide) w1_ (hE1.2.2.2.1 _ (List.mem_cons_of_mem _ List.mem_cons_self)) (pc2 := 26) rfl (fun q9 => ?_)
      refine pk_astore (lv' := [(10, .ref q9), (0, .ref x), (1, .long p0), (3, .long p1), (5, .int p2), (6, .int p3), (7, .int p4), (8, .int p5), (9, .ref oc)]) C dL_part_26 (by decide) rfl (pc2 := 28) rfl ?_
      refine pk_iconst (v := 2) C dL_part_28 (by decide) (pc2 := 29) rfl ?_
      exact px_ret hE (Nat.le_of_ble_eq_true rfl) (Nat.le_of_ble_eq_true rfl) (fun Q' hE' => pr_int (ty := .int) C hE' rfl rfl ⟨X', _, rfl, Or.inr (Or.inr ⟨ho, rfl, rfl⟩)⟩ dL_part_29)
set_option maxRecDepth 100000 in
set_option maxHeartbeats 2000000 in
theorem w_L_units (l : Launch) (G : pw_G) (L : List Nat) (F : Nat → va_E) (x : Nat) (rf : Nat → Nat) (ar : AR) (pr : (Nat → Option Nat)) (er : (Nat → Option Nat)) (cf : CR) (tf : SR) (cb : CR) (tb : SR) (oc : Nat) (f : Nat → Int64) (p0 : Int32) (p1 : Int32) (p2 : Int32) {ox : pw_OX} (hM : XM l yX4_units wsX4_units ⟨7, 1, 6, 150⟩ G [.ref x, .int p0, .int p1, .int p2] (aX G x rf ar pr er cf tf cb tb) L F 1 6 ox) (hret : ∀ v X' L' F', ox (.inl v) X' L' F' → ∃ z, v = some (.int z)) (hth : ∀ E X' L' F', ox (.inr E) X' L' F' → E = nIAE ∨ E = nISE) : XM l yL_units wsL_units ⟨8, 1, 6, 175⟩ G [.ref x, .int p0, .int p1, .int p2, .ref oc] (aX G x rf ar pr er cf tf cb tb ++ [(oc, .inl (G.2.2.1, 1, .inr (.inl f)))]) L F 1 6 (owI ox G oc f 2) := by
  refine xw_entry (by decide) rfl rfl (Nat.le_of_ble_eq_true rfl) ?_
  intro Z Q C hl0 hG0 hE1 htab hE
  subst hl0
  subst hG0
  have w0_ : Cond.classLink RL 13 nIAE ∈ wsL_units := by decide +kernel
  have w1_ : Cond.classLink RL 15 nISE ∈ wsL_units := by decide +kernel
  show PW Z ((aX (zG Z) x rf ar pr er cf tf cb tb) ++ [(oc, .inl ((zG Z).2.2.1, 1, .inr (.inl f)))]) L F 0 0 Q 0 [(0, .ref x), (1, .int p0), (2, .int p1), (3, .int p2), (4, .ref oc)] []
  refine pk_aload C 4 dL_units_0 rfl (pc2 := 2) rfl ?_
  refine pk_iconst (v := 0) C dL_units_2 (by decide) (pc2 := 3) rfl ?_
  refine pk_aload_n C 0 dL_units_3 rfl rfl (pc2 := 4) rfl ?_
  refine pk_iload_n C 1 dL_units_4 rfl rfl (pc2 := 5) rfl ?_
  refine pk_iload_n C 2 dL_units_5 rfl rfl (pc2 := 6) rfl ?_
  refine pk_iload_n C 3 dL_units_6 rfl rfl (pc2 := 7) rfl ?_
  refine pk_callVX (X := ((aX (zG Z) x rf ar pr er cf tf cb tb) ++ [(oc, .inl ((zG Z).2.2.1, 1, .inr (.inl f)))])) (cx := (aX (zG Z) x rf ar pr er cf tf cb tb)) (wr := [(oc, .inl ((zG Z).2.2.1, 1, .inr (.inl f)))]) (As := [.int p0, .int p1, .int p2]) (st := [.int 0, .ref oc]) (k := 0) (n := 0) C hE1 hM gL_units_X4_units rfl rfl rfl 3 (by decide +kernel) ⟨(Nat.le_of_ble_eq_true rfl), (Nat.le_of_ble_eq_true rfl)⟩ (pw_atX 0 rfl) (ci := 4) rfl rfl rfl (Nat.le_of_ble_eq_true rfl) ⟨(Nat.le_of_ble_eq_true rfl), (Nat.le_of_ble_eq_true rfl)⟩ [0, 1, 2, 3, 4, 5, 6] [7] rfl rfl rfl rfl (by decide) dL_units_7 (pc2 := 10) rfl (fun v9 X' L' F' ho => ?_) (fun E X' L' F' ho => ?_)
  · obtain ⟨z, rfl⟩ := hret _ _ _ _ ho
    show PW Z ((oc, .inl ((zG Z).2.2.1, 1, .inr (.inl f))) :: X') L' F' 1 6 Q 10 [(0, .ref x), (1, .int p0), (2, .int p1), (3, .int p2), (4, .ref oc)] [.int z, .int 0, .ref oc]
    refine pk_i2l C dL_units_10 (pc2 := 11) rfl ?_
    refine pk_lastX (X := (oc, .inl ((zG Z).2.2.1, 1, .inr (.inl f))) :: X') (X' := (oc, .inl ((zG Z).2.2.1, 1, .inr (.inl (vp_updL f (Int32.toNatClampNeg 0) (Int32.toInt64 z))))) :: X') C 0 rfl in_01 rfl dL_units_11 (pc2 := 12) rfl ?_
    refine pk_goto (tgt := 23) C dL_units_12 (by decide) ?_
    refine pk_iconst (v := 0) C dL_units_23 (by decide) (pc2 := 24) rfl ?_
    exact px_ret hE (Nat.le_of_ble_eq_true rfl) (Nat.le_of_ble_eq_true rfl) (fun Q' hE' => pr_int (ty := .int) C hE' rfl rfl ⟨X', _, rfl, Or.inl ⟨z, ho, rfl, rfl⟩⟩ dL_units_24)
  · rcases hth _ _ _ _ ho with rfl | rfl
    · refine px_catch C [] ⟨0, 12, 15, 13⟩ [⟨0, 12, 19, 15⟩] (by rw [htab]; rfl) (fun z hz => absurd hz List.not_mem_nil) (by decide) (by decide) w0_ (hE1.2.2.2.1 _ List.mem_cons_self) (pc2 := 15) rfl (fun q9 => ?_)
      refine pk_astore (lv' := [(5, .ref q9), (0, .ref x), (1, .int p0), (2, .int p1), (3, .int p2), (4, .ref oc)]) C dL_units_15 (by decide) rfl (pc2 := 17) rfl ?_
      refine pk_iconst (v := 1) C dL_units_17 (by decide) (pc2 := 18) rfl ?_
      exact px_ret hE (Nat.le_of_ble_eq_true rfl) (Nat.le_of_ble_eq_true rfl) (fun Q' hE' => pr_int (ty := .int) C hE' rfl rfl ⟨X', _, rfl, Or.inr (Or.inl ⟨ho, rfl, rfl⟩)⟩ dL_units_18)
    · refine px_catch C [⟨0, 12, 15, 13⟩] ⟨0, 12, 19, 15⟩ [] (by rw [htab]; rfl) (fun z hz => by cases List.mem_singleton.mp hz; exact Or.inr ⟨by decide, nIAE, w0_, hE1.2.2.2.2.1⟩) (by decide) (by decide) w1_ (hE1.2.2.2.1 _ (List.mem_cons_of_mem _ List.mem_cons_self)) (pc2 := 19) rfl (fun q9 => ?_)
      refine pk_astore (lv' := [(5, .ref q9), (0, .ref x), (1, .int p0), (2, .int p1), (3, .int p2), (4, .ref oc)]) C dL_units_19 (by decide) rfl (pc2 := 21) rfl ?_
      refine pk_iconst (v := 2) C dL_units_21 (by decide) (pc2 := 22) rfl ?_
      exact px_ret hE (Nat.le_of_ble_eq_true rfl) (Nat.le_of_ble_eq_true rfl) (fun Q' hE' => pr_int (ty := .int) C hE' rfl rfl ⟨X', _, rfl, Or.inr (Or.inr ⟨ho, rfl, rfl⟩)⟩ dL_units_22)
set_option maxRecDepth 100000 in
set_option maxHeartbeats 2000000 in
theorem w_L_event (l : Launch) (G : pw_G) (L : List Nat) (F : Nat → va_E) (x : Nat) (rf : Nat → Nat) (ar : AR) (pr : (Nat → Option Nat)) (er : (Nat → Option Nat)) (cf : CR) (tf : SR) (cb : CR) (tb : SR) (oc : Nat) (f : Nat → Int64) (p0 : Int32) (p1 : Int32) (p2 : Int32) (p3 : Int64) (p4 : Int32) {ox : pw_OX} (hM : XM l yX4_event wsX4_event ⟨7, 2, 11, 150⟩ G [.ref x, .int p0, .int p1, .int p2, .long p3, .int p4] (aX G x rf ar pr er cf tf cb tb) L F 2 11 ox) (hret : ∀ v X' L' F', ox (.inl v) X' L' F' → ∃ z, v = some (.int z)) (hth : ∀ E X' L' F', ox (.inr E) X' L' F' → E = nIAE ∨ E = nISE) : XM l yL_event wsL_event ⟨8, 2, 11, 178⟩ G [.ref x, .int p0, .int p1, .int p2, .long p3, .int p4, .ref oc] (aX G x rf ar pr er cf tf cb tb ++ [(oc, .inl (G.2.2.1, 1, .inr (.inl f)))]) L F 2 11 (owI ox G oc f 2) := by
  refine xw_entry (by decide) rfl rfl (Nat.le_of_ble_eq_true rfl) ?_
  intro Z Q C hl0 hG0 hE1 htab hE
  subst hl0
  subst hG0
  have w0_ : Cond.classLink RL 13 nIAE ∈ wsL_event := by decide +kernel
  have w1_ : Cond.classLink RL 15 nISE ∈ wsL_event := by decide +kernel
  show PW Z ((aX (zG Z) x rf ar pr er cf tf cb tb) ++ [(oc, .inl ((zG Z).2.2.1, 1, .inr (.inl f)))]) L F 0 0 Q 0 [(0, .ref x), (1, .int p0), (2, .int p1), (3, .int p2), (4, .long p3), (6, .int p4), (7, .ref oc)] []
  refine pk_aload C 6 dL_event_0 rfl (pc2 := 2) rfl ?_
  refine pk_iconst (v := 0) C dL_event_2 (by decide) (pc2 := 3) rfl ?_
  refine pk_aload_n C 0 dL_event_3 rfl rfl (pc2 := 4) rfl ?_
  refine pk_iload_n C 1 dL_event_4 rfl rfl (pc2 := 5) rfl ?_
  refine pk_iload_n C 2 dL_event_5 rfl rfl (pc2 := 6) rfl ?_
  refine pk_iload_n C 3 dL_event_6 rfl rfl (pc2 := 7) rfl ?_
  refine pk_lload C 4 dL_event_7 rfl (pc2 := 9) rfl ?_
  refine pk_iload C 5 dL_event_9 rfl (pc2 := 11) rfl ?_
  refine pk_callVX (X := ((aX (zG Z) x rf ar pr er cf tf cb tb) ++ [(oc, .inl ((zG Z).2.2.1, 1, .inr (.inl f)))])) (cx := (aX (zG Z) x rf ar pr er cf tf cb tb)) (wr := [(oc, .inl ((zG Z).2.2.1, 1, .inr (.inl f)))]) (As := [.int p0, .int p1, .int p2, .long p3, .int p4]) (st := [.int 0, .ref oc]) (k := 0) (n := 0) C hE1 hM gL_event_X4_event rfl rfl rfl 5 (by decide +kernel) ⟨(Nat.le_of_ble_eq_true rfl), (Nat.le_of_ble_eq_true rfl)⟩ (pw_atX 0 rfl) (ci := 4) rfl rfl rfl (Nat.le_of_ble_eq_true rfl) ⟨(Nat.le_of_ble_eq_true rfl), (Nat.le_of_ble_eq_true rfl)⟩ [0, 1, 2, 3, 4, 5, 6] [7] rfl rfl rfl rfl (by decide) dL_event_11 (pc2 := 14) rfl (fun v9 X' L' F' ho => ?_) (fun E X' L' F' ho => ?_)
  · obtain ⟨z, rfl⟩ := hret _ _ _ _ ho
    show PW Z ((oc, .inl ((zG Z).2.2.1, 1, .inr (.inl f))) :: X') L' F' 2 11 Q 14 [(0, .ref x), (1, .int p0), (2, .int p1), (3, .int p2), (4, .long p3), (6, .int p4), (7, .ref oc)] [.int z, .int 0, .ref oc]
    refine pk_i2l C dL_event_14 (pc2 := 15) rfl ?_
    refine pk_lastX (X := (oc, .inl ((zG Z).2.2.1, 1, .inr (.inl f))) :: X') (X' := (oc, .inl ((zG Z).2.2.1, 1, .inr (.inl (vp_updL f (Int32.toNatClampNeg 0) (Int32.toInt64 z))))) :: X') C 0 rfl in_01 rfl dL_event_15 (pc2 := 16) rfl ?_
    refine pk_goto (tgt := 27) C dL_event_16 (by decide) ?_
    refine pk_iconst (v := 0) C dL_event_27 (by decide) (pc2 := 28) rfl ?_
    exact px_ret hE (Nat.le_of_ble_eq_true rfl) (Nat.le_of_ble_eq_true rfl) (fun Q' hE' => pr_int (ty := .int) C hE' rfl rfl ⟨X', _, rfl, Or.inl ⟨z, ho, rfl, rfl⟩⟩ dL_event_28)
  · rcases hth _ _ _ _ ho with rfl | rfl
    · refine px_catch C [] ⟨0, 16, 19, 13⟩ [⟨0, 16, 23, 15⟩] (by rw [htab]; rfl) (fun z hz => absurd hz List.not_mem_nil) (by decide) (by decide) w0_ (hE1.2.2.2.1 _ List.mem_cons_self) (pc2 := 19) rfl (fun q9 => ?_)
      refine pk_astore (lv' := [(8, .ref q9), (0, .ref x), (1, .int p0), (2, .int p1), (3, .int p2), (4, .long p3), (6, .int p4), (7, .ref oc)]) C dL_event_19 (by decide) rfl (pc2 := 21) rfl ?_
      refine pk_iconst (v := 1) C dL_event_21 (by decide) (pc2 := 22) rfl ?_
      exact px_ret hE (Nat.le_of_ble_eq_true rfl) (Nat.le_of_ble_eq_true rfl) (fun Q' hE' => pr_int (ty := .int) C hE' rfl rfl ⟨X', _, rfl, Or.inr (Or.inl ⟨ho, rfl, rfl⟩)⟩ dL_event_22)
    · refine px_catch C [⟨0, 16, 19, 13⟩] ⟨0, 16, 23, 15⟩ [] (by rw [htab]; rfl) (fun z hz => by cases List.mem_singleton.mp hz; exact Or.inr ⟨by decide, nIAE, w0_, hE1.2.2.2.2.1⟩) (by decide) (by decide) w1_ (hE1.2.2.2.1 _ (List.mem_cons_of_mem _ List.mem_cons_self)) (pc2 := 23) rfl (fun q9 => ?_)
      refine pk_astore (lv' := [(8, .ref q9), (0, .ref x), (1, .int p0), (2, .int p1), (3, .int p2), (4, .long p3), (6, .int p4), (7, .ref oc)]) C dL_event_23 (by decide) rfl (pc2 := 25) rfl ?_
      refine pk_iconst (v := 2) C dL_event_25 (by decide) (pc2 := 26) rfl ?_
      exact px_ret hE (Nat.le_of_ble_eq_true rfl) (Nat.le_of_ble_eq_true rfl) (fun Q' hE' => pr_int (ty := .int) C hE' rfl rfl ⟨X', _, rfl, Or.inr (Or.inr ⟨ho, rfl, rfl⟩)⟩ dL_event_26)
set_option maxRecDepth 100000 in
set_option maxHeartbeats 2000000 in
theorem w_L_value (l : Launch) (G : pw_G) (L : List Nat) (F : Nat → va_E) (x : Nat) (rf : Nat → Nat) (ar : AR) (pr : (Nat → Option Nat)) (er : (Nat → Option Nat)) (cf : CR) (tf : SR) (cb : CR) (tb : SR) (oc : Nat) (f : Nat → Int64) (p0 : Int32) (p1 : Int32) (p2 : Int32) {ox : pw_OX} (hM : XM l yX4_value wsX4_value ⟨6, 1, 6, 129⟩ G [.ref x, .int p0, .int p1, .int p2] (aX G x rf ar pr er cf tf cb tb) L F 1 6 ox) (hret : ∀ v X' L' F', ox (.inl v) X' L' F' → ∃ z, v = some (.long z)) (hth : ∀ E X' L' F', ox (.inr E) X' L' F' → E = nIAE) : XM l yL_value wsL_value ⟨7, 1, 6, 153⟩ G [.ref x, .int p0, .int p1, .int p2, .ref oc] (aX G x rf ar pr er cf tf cb tb ++ [(oc, .inl (G.2.2.1, 1, .inr (.inl f)))]) L F 1 6 (owL ox G oc f 1) := by
  refine xw_entry (by decide) rfl rfl (Nat.le_of_ble_eq_true rfl) ?_
  intro Z Q C hl0 hG0 hE1 htab hE
  subst hl0
  subst hG0
  have w0_ : Cond.classLink RL 13 nIAE ∈ wsL_value := by decide +kernel
  show PW Z ((aX (zG Z) x rf ar pr er cf tf cb tb) ++ [(oc, .inl ((zG Z).2.2.1, 1, .inr (.inl f)))]) L F 0 0 Q 0 [(0, .ref x), (1, .int p0), (2, .int p1), (3, .int p2), (4, .ref oc)] []
  refine pk_aload C 4 dL_value_0 rfl (pc2 := 2) rfl ?_
  refine pk_iconst (v := 0) C dL_value_2 (by decide) (pc2 := 3) rfl ?_
  refine pk_aload_n C 0 dL_value_3 rfl rfl (pc2 := 4) rfl ?_
  refine pk_iload_n C 1 dL_value_4 rfl rfl (pc2 := 5) rfl ?_
  refine pk_iload_n C 2 dL_value_5 rfl rfl (pc2 := 6) rfl ?_
  refine pk_iload_n C 3 dL_value_6 rfl rfl (pc2 := 7) rfl ?_
  refine pk_callVX (X := ((aX (zG Z) x rf ar pr er cf tf cb tb) ++ [(oc, .inl ((zG Z).2.2.1, 1, .inr (.inl f)))])) (cx := (aX (zG Z) x rf ar pr er cf tf cb tb)) (wr := [(oc, .inl ((zG Z).2.2.1, 1, .inr (.inl f)))]) (As := [.int p0, .int p1, .int p2]) (st := [.int 0, .ref oc]) (k := 0) (n := 0) C hE1 hM gL_value_X4_value rfl rfl rfl 3 (by decide +kernel) ⟨(Nat.le_of_ble_eq_true rfl), (Nat.le_of_ble_eq_true rfl)⟩ (pw_atX 0 rfl) (ci := 4) rfl rfl rfl (Nat.le_of_ble_eq_true rfl) ⟨(Nat.le_of_ble_eq_true rfl), (Nat.le_of_ble_eq_true rfl)⟩ [0, 1, 2, 3, 4, 5, 6] [7] rfl rfl rfl rfl (by decide) dL_value_7 (pc2 := 10) rfl (fun v9 X' L' F' ho => ?_) (fun E X' L' F' ho => ?_)
  · obtain ⟨z, rfl⟩ := hret _ _ _ _ ho
    show PW Z ((oc, .inl ((zG Z).2.2.1, 1, .inr (.inl f))) :: X') L' F' 1 6 Q 10 [(0, .ref x), (1, .int p0), (2, .int p1), (3, .int p2), (4, .ref oc)] [.long z, .int 0, .ref oc]
    refine pk_lastX (X := (oc, .inl ((zG Z).2.2.1, 1, .inr (.inl f))) :: X') (X' := (oc, .inl ((zG Z).2.2.1, 1, .inr (.inl (vp_updL f (Int32.toNatClampNeg 0) z)))) :: X') C 0 rfl in_01 rfl dL_value_10 (pc2 := 11) rfl ?_
    refine pk_goto (tgt := 18) C dL_value_11 (by decide) ?_
    refine pk_iconst (v := 0) C dL_value_18 (by decide) (pc2 := 19) rfl ?_
    exact px_ret hE (Nat.le_of_ble_eq_true rfl) (Nat.le_of_ble_eq_true rfl) (fun Q' hE' => pr_int (ty := .int) C hE' rfl rfl ⟨X', _, rfl, Or.inl ⟨z, ho, rfl, rfl⟩⟩ dL_value_19)
  · obtain rfl := hth _ _ _ _ ho
    refine px_catch C [] ⟨0, 11, 14, 13⟩ [] (by rw [htab]; rfl) (fun z hz => absurd hz List.not_mem_nil) (by decide) (by decide) w0_ (hE1.2.2.2.1 _ List.mem_cons_self) (pc2 := 14) rfl (fun q9 => ?_)
    refine pk_astore (lv' := [(5, .ref q9), (0, .ref x), (1, .int p0), (2, .int p1), (3, .int p2), (4, .ref oc)]) C dL_value_14 (by decide) rfl (pc2 := 16) rfl ?_
    refine pk_iconst (v := 1) C dL_value_16 (by decide) (pc2 := 17) rfl ?_
    exact px_ret hE (Nat.le_of_ble_eq_true rfl) (Nat.le_of_ble_eq_true rfl) (fun Q' hE' => pr_int (ty := .int) C hE' rfl rfl ⟨X', _, rfl, Or.inr (Or.inl ⟨ho, rfl, rfl⟩)⟩ dL_value_17)
set_option maxRecDepth 100000 in
set_option maxHeartbeats 2000000 in
theorem w_L_charge (l : Launch) (G : pw_G) (L : List Nat) (F : Nat → va_E) (x : Nat) (rf : Nat → Nat) (ar : AR) (pr : (Nat → Option Nat)) (er : (Nat → Option Nat)) (cf : CR) (tf : SR) (cb : CR) (tb : SR) (oc : Nat) (f : Nat → Int64) (p0 : Int32) (p1 : Int32) {ox : pw_OX} (hM : XM l yX4_charge wsX4_charge ⟨6, 1, 6, 129⟩ G [.ref x, .int p0, .int p1] (aX G x rf ar pr er cf tf cb tb) L F 1 6 ox) (hret : ∀ v X' L' F', ox (.inl v) X' L' F' → ∃ z, v = some (.long z)) (hth : ∀ E X' L' F', ox (.inr E) X' L' F' → E = nIAE) : XM l yL_charge wsL_charge ⟨7, 1, 6, 152⟩ G [.ref x, .int p0, .int p1, .ref oc] (aX G x rf ar pr er cf tf cb tb ++ [(oc, .inl (G.2.2.1, 1, .inr (.inl f)))]) L F 1 6 (owL ox G oc f 1) := by
  refine xw_entry (by decide) rfl rfl (Nat.le_of_ble_eq_true rfl) ?_
  intro Z Q C hl0 hG0 hE1 htab hE
  subst hl0
  subst hG0
  have w0_ : Cond.classLink RL 13 nIAE ∈ wsL_charge := by decide +kernel
  show PW Z ((aX (zG Z) x rf ar pr er cf tf cb tb) ++ [(oc, .inl ((zG Z).2.2.1, 1, .inr (.inl f)))]) L F 0 0 Q 0 [(0, .ref x), (1, .int p0), (2, .int p1), (3, .ref oc)] []
  refine pk_aload_n C 3 dL_charge_0 rfl rfl (pc2 := 1) rfl ?_
  refine pk_iconst (v := 0) C dL_charge_1 (by decide) (pc2 := 2) rfl ?_
  refine pk_aload_n C 0 dL_charge_2 rfl rfl (pc2 := 3) rfl ?_
  refine pk_iload_n C 1 dL_charge_3 rfl rfl (pc2 := 4) rfl ?_
  refine pk_iload_n C 2 dL_charge_4 rfl rfl (pc2 := 5) rfl ?_
  refine pk_callVX (X := ((aX (zG Z) x rf ar pr er cf tf cb tb) ++ [(oc, .inl ((zG Z).2.2.1, 1, .inr (.inl f)))])) (cx := (aX (zG Z) x rf ar pr er cf tf cb tb)) (wr := [(oc, .inl ((zG Z).2.2.1, 1, .inr (.inl f)))]) (As := [.int p0, .int p1]) (st := [.int 0, .ref oc]) (k := 0) (n := 0) C hE1 hM gL_charge_X4_charge rfl rfl rfl 2 (by decide +kernel) ⟨(Nat.le_of_ble_eq_true rfl), (Nat.le_of_ble_eq_true rfl)⟩ (pw_atX 0 rfl) (ci := 4) rfl rfl rfl (Nat.le_of_ble_eq_true rfl) ⟨(Nat.le_of_ble_eq_true rfl), (Nat.le_of_ble_eq_true rfl)⟩ [0, 1, 2, 3, 4, 5, 6] [7] rfl rfl rfl rfl (by decide) dL_charge_5 (pc2 := 8) rfl (fun v9 X' L' F' ho => ?_) (fun E X' L' F' ho => ?_)
  · obtain ⟨z, rfl⟩ := hret _ _ _ _ ho
    show PW Z ((oc, .inl ((zG Z).2.2.1, 1, .inr (.inl f))) :: X') L' F' 1 6 Q 8 [(0, .ref x), (1, .int p0), (2, .int p1), (3, .ref oc)] [.long z, .int 0, .ref oc]
    refine pk_lastX (X := (oc, .inl ((zG Z).2.2.1, 1, .inr (.inl f))) :: X') (X' := (oc, .inl ((zG Z).2.2.1, 1, .inr (.inl (vp_updL f (Int32.toNatClampNeg 0) z)))) :: X') C 0 rfl in_01 rfl dL_charge_8 (pc2 := 9) rfl ?_
    refine pk_goto (tgt := 16) C dL_charge_9 (by decide) ?_
    refine pk_iconst (v := 0) C dL_charge_16 (by decide) (pc2 := 17) rfl ?_
    exact px_ret hE (Nat.le_of_ble_eq_true rfl) (Nat.le_of_ble_eq_true rfl) (fun Q' hE' => pr_int (ty := .int) C hE' rfl rfl ⟨X', _, rfl, Or.inl ⟨z, ho, rfl, rfl⟩⟩ dL_charge_17)
  · obtain rfl := hth _ _ _ _ ho
    refine px_catch C [] ⟨0, 9, 12, 13⟩ [] (by rw [htab]; rfl) (fun z hz => absurd hz List.not_mem_nil) (by decide) (by decide) w0_ (hE1.2.2.2.1 _ List.mem_cons_self) (pc2 := 12) rfl (fun q9 => ?_)
    refine pk_astore (lv' := [(4, .ref q9), (0, .ref x), (1, .int p0), (2, .int p1), (3, .ref oc)]) C dL_charge_12 (by decide) rfl (pc2 := 14) rfl ?_
    refine pk_iconst (v := 1) C dL_charge_14 (by decide) (pc2 := 15) rfl ?_
    exact px_ret hE (Nat.le_of_ble_eq_true rfl) (Nat.le_of_ble_eq_true rfl) (fun Q' hE' => pr_int (ty := .int) C hE' rfl rfl ⟨X', _, rfl, Or.inr (Or.inl ⟨ho, rfl, rfl⟩)⟩ dL_charge_15)
set_option maxRecDepth 100000 in
set_option maxHeartbeats 2000000 in
theorem w_L_without (l : Launch) (G : pw_G) (L : List Nat) (F : Nat → va_E) (x : Nat) (rf : Nat → Nat) (ar : AR) (pr : (Nat → Option Nat)) (er : (Nat → Option Nat)) (cf : CR) (tf : SR) (cb : CR) (tb : SR) (oc : Nat) (f : Nat → Int64) (p0 : Int32) (p1 : Int32) {ox : pw_OX} (hM : XM l yX4_without wsX4_without ⟨6, 1, 6, 129⟩ G [.ref x, .int p0, .int p1] (aX G x rf ar pr er cf tf cb tb) L F 1 6 ox) (hret : ∀ v X' L' F', ox (.inl v) X' L' F' → ∃ z, v = some (.long z)) (hth : ∀ E X' L' F', ox (.inr E) X' L' F' → E = nIAE) : XM l yL_without wsL_without ⟨7, 1, 6, 152⟩ G [.ref x, .int p0, .int p1, .ref oc] (aX G x rf ar pr er cf tf cb tb ++ [(oc, .inl (G.2.2.1, 1, .inr (.inl f)))]) L F 1 6 (owL ox G oc f 1) := by
  refine xw_entry (by decide) rfl rfl (Nat.le_of_ble_eq_true rfl) ?_
  intro Z Q C hl0 hG0 hE1 htab hE
  subst hl0
  subst hG0
  have w0_ : Cond.classLink RL 13 nIAE ∈ wsL_without := by decide +kernel
  show PW Z ((aX (zG Z) x rf ar pr er cf tf cb tb) ++ [(oc, .inl ((zG Z).2.2.1, 1, .inr (.inl f)))]) L F 0 0 Q 0 [(0, .ref x), (1, .int p0), (2, .int p1), (3, .ref oc)] []
  refine pk_aload_n C 3 dL_without_0 rfl rfl (pc2 := 1) rfl ?_
  refine pk_iconst (v := 0) C dL_without_1 (by decide) (pc2 := 2) rfl ?_
  refine pk_aload_n C 0 dL_without_2 rfl rfl (pc2 := 3) rfl ?_
  refine pk_iload_n C 1 dL_without_3 rfl rfl (pc2 := 4) rfl ?_
  refine pk_iload_n C 2 dL_without_4 rfl rfl (pc2 := 5) rfl ?_
  refine pk_callVX (X := ((aX (zG Z) x rf ar pr er cf tf cb tb) ++ [(oc, .inl ((zG Z).2.2.1, 1, .inr (.inl f)))])) (cx := (aX (zG Z) x rf ar pr er cf tf cb tb)) (wr := [(oc, .inl ((zG Z).2.2.1, 1, .inr (.inl f)))]) (As := [.int p0, .int p1]) (st := [.int 0, .ref oc]) (k := 0) (n := 0) C hE1 hM gL_without_X4_without rfl rfl rfl 2 (by decide +kernel) ⟨(Nat.le_of_ble_eq_true rfl), (Nat.le_of_ble_eq_true rfl)⟩ (pw_atX 0 rfl) (ci := 4) rfl rfl rfl (Nat.le_of_ble_eq_true rfl) ⟨(Nat.le_of_ble_eq_true rfl), (Nat.le_of_ble_eq_true rfl)⟩ [0, 1, 2, 3, 4, 5, 6] [7] rfl rfl rfl rfl (by decide) dL_without_5 (pc2 := 8) rfl (fun v9 X' L' F' ho => ?_) (fun E X' L' F' ho => ?_)
  · obtain ⟨z, rfl⟩ := hret _ _ _ _ ho
    show PW Z ((oc, .inl ((zG Z).2.2.1, 1, .inr (.inl f))) :: X') L' F' 1 6 Q 8 [(0, .ref x), (1, .int p0), (2, .int p1), (3, .ref oc)] [.long z, .int 0, .ref oc]
    refine pk_lastX (X := (oc, .inl ((zG Z).2.2.1, 1, .inr (.inl f))) :: X') (X' := (oc, .inl ((zG Z).2.2.1, 1, .inr (.inl (vp_updL f (Int32.toNatClampNeg 0) z)))) :: X') C 0 rfl in_01 rfl dL_without_8 (pc2 := 9) rfl ?_
    refine pk_goto (tgt := 16) C dL_without_9 (by decide) ?_
    refine pk_iconst (v := 0) C dL_without_16 (by decide) (pc2 := 17) rfl ?_
    exact px_ret hE (Nat.le_of_ble_eq_true rfl) (Nat.le_of_ble_eq_true rfl) (fun Q' hE' => pr_int (ty := .int) C hE' rfl rfl ⟨X', _, rfl, Or.inl ⟨z, ho, rfl, rfl⟩⟩ dL_without_17)
  · obtain rfl := hth _ _ _ _ ho
    refine px_catch C [] ⟨0, 9, 12, 13⟩ [] (by rw [htab]; rfl) (fun z hz => absurd hz List.not_mem_nil) (by decide) (by decide) w0_ (hE1.2.2.2.1 _ List.mem_cons_self) (pc2 := 12) rfl (fun q9 => ?_)
    refine pk_astore (lv' := [(4, .ref q9), (0, .ref x), (1, .int p0), (2, .int p1), (3, .ref oc)]) C dL_without_12 (by decide) rfl (pc2 := 14) rfl ?_
    refine pk_iconst (v := 1) C dL_without_14 (by decide) (pc2 := 15) rfl ?_
    exact px_ret hE (Nat.le_of_ble_eq_true rfl) (Nat.le_of_ble_eq_true rfl) (fun Q' hE' => pr_int (ty := .int) C hE' rfl rfl ⟨X', _, rfl, Or.inr (Or.inl ⟨ho, rfl, rfl⟩)⟩ dL_without_15)
set_option maxRecDepth 100000 in
set_option maxHeartbeats 2000000 in
theorem w_L_post (l : Launch) (G : pw_G) (L : List Nat) (F : Nat → va_E) (x : Nat) (rf : Nat → Nat) (ar : AR) (pr : (Nat → Option Nat)) (er : (Nat → Option Nat)) (cf : CR) (tf : SR) (cb : CR) (tb : SR) (oc : Nat) (f : Nat → Int64)  {ox : pw_OX} (hM : XM l yX4_post wsX4_post ⟨6, 1, 6, 129⟩ G [.ref x] (aX G x rf ar pr er cf tf cb tb) L F 1 6 ox) (hret : ∀ v X' L' F', ox (.inl v) X' L' F' → ∃ z, v = some (.long z)) (hth : ∀ E X' L' F', ox (.inr E) X' L' F' → E = nISE) : XM l yL_post wsL_post ⟨7, 1, 6, 154⟩ G [.ref x, .ref oc] (aX G x rf ar pr er cf tf cb tb ++ [(oc, .inl (G.2.2.1, 1, .inr (.inl f)))]) L F 1 6 (owL ox G oc f 1) := by
  refine xw_entry (by decide) rfl rfl (Nat.le_of_ble_eq_true rfl) ?_
  intro Z Q C hl0 hG0 hE1 htab hE
  subst hl0
  subst hG0
  have w0_ : Cond.classLink RL 15 nISE ∈ wsL_post := by decide +kernel
  show PW Z ((aX (zG Z) x rf ar pr er cf tf cb tb) ++ [(oc, .inl ((zG Z).2.2.1, 1, .inr (.inl f)))]) L F 0 0 Q 0 [(0, .ref x), (1, .ref oc)] []
  refine pk_aload_n C 1 dL_post_0 rfl rfl (pc2 := 1) rfl ?_
  refine pk_iconst (v := 0) C dL_post_1 (by decide) (pc2 := 2) rfl ?_
  refine pk_aload_n C 0 dL_post_2 rfl rfl (pc2 := 3) rfl ?_
  refine pk_callVX (X := ((aX (zG Z) x rf ar pr er cf tf cb tb) ++ [(oc, .inl ((zG Z).2.2.1, 1, .inr (.inl f)))])) (cx := (aX (zG Z) x rf ar pr er cf tf cb tb)) (wr := [(oc, .inl ((zG Z).2.2.1, 1, .inr (.inl f)))]) (As := []) (st := [.int 0, .ref oc]) (k := 0) (n := 0) C hE1 hM gL_post_X4_post rfl rfl rfl 0 (by decide +kernel) ⟨(Nat.le_of_ble_eq_true rfl), (Nat.le_of_ble_eq_true rfl)⟩ (pw_atX 0 rfl) (ci := 4) rfl rfl rfl (Nat.le_of_ble_eq_true rfl) ⟨(Nat.le_of_ble_eq_true rfl), (Nat.le_of_ble_eq_true rfl)⟩ [0, 1, 2, 3, 4, 5, 6] [7] rfl rfl rfl rfl (by decide) dL_post_3 (pc2 := 6) rfl (fun v9 X' L' F' ho => ?_) (fun E X' L' F' ho => ?_)
  · obtain ⟨z, rfl⟩ := hret _ _ _ _ ho
    show PW Z ((oc, .inl ((zG Z).2.2.1, 1, .inr (.inl f))) :: X') L' F' 1 6 Q 6 [(0, .ref x), (1, .ref oc)] [.long z, .int 0, .ref oc]
    refine pk_lastX (X := (oc, .inl ((zG Z).2.2.1, 1, .inr (.inl f))) :: X') (X' := (oc, .inl ((zG Z).2.2.1, 1, .inr (.inl (vp_updL f (Int32.toNatClampNeg 0) z)))) :: X') C 0 rfl in_01 rfl dL_post_6 (pc2 := 7) rfl ?_
    refine pk_goto (tgt := 13) C dL_post_7 (by decide) ?_
    refine pk_iconst (v := 0) C dL_post_13 (by decide) (pc2 := 14) rfl ?_
    exact px_ret hE (Nat.le_of_ble_eq_true rfl) (Nat.le_of_ble_eq_true rfl) (fun Q' hE' => pr_int (ty := .int) C hE' rfl rfl ⟨X', _, rfl, Or.inl ⟨z, ho, rfl, rfl⟩⟩ dL_post_14)
  · obtain rfl := hth _ _ _ _ ho
    refine px_catch C [] ⟨0, 7, 10, 15⟩ [] (by rw [htab]; rfl) (fun z hz => absurd hz List.not_mem_nil) (by decide) (by decide) w0_ (hE1.2.2.2.1 _ (List.mem_cons_of_mem _ List.mem_cons_self)) (pc2 := 10) rfl (fun q9 => ?_)
    refine pk_astore_n (lv' := [(2, .ref q9), (0, .ref x), (1, .ref oc)]) C dL_post_10 rfl (by decide) rfl (pc2 := 11) rfl ?_
    refine pk_iconst (v := 1) C dL_post_11 (by decide) (pc2 := 12) rfl ?_
    exact px_ret hE (Nat.le_of_ble_eq_true rfl) (Nat.le_of_ble_eq_true rfl) (fun Q' hE' => pr_int (ty := .int) C hE' rfl rfl ⟨X', _, rfl, Or.inr (Or.inr ⟨ho, rfl, rfl⟩)⟩ dL_post_12)
set_option maxRecDepth 100000 in
set_option maxHeartbeats 2000000 in
theorem w_L_posted (l : Launch) (G : pw_G) (L : List Nat) (F : Nat → va_E) (x : Nat) (rf : Nat → Nat) (ar : AR) (pr : (Nat → Option Nat)) (er : (Nat → Option Nat)) (cf : CR) (tf : SR) (cb : CR) (tb : SR) (oc : Nat) (f : Nat → Int64) (p0 : Int32) (p1 : Int32) {ox : pw_OX} (hM : XM l yX4_posted wsX4_posted ⟨6, 1, 6, 82⟩ G [.ref x, .int p0, .int p1] (aX G x rf ar pr er cf tf cb tb) L F 1 6 ox) (hret : ∀ v X' L' F', ox (.inl v) X' L' F' → ∃ z, v = some (.long z)) (hth : ∀ E X' L' F', ox (.inr E) X' L' F' → E = nIAE) : XM l yL_posted wsL_posted ⟨7, 1, 6, 105⟩ G [.ref x, .int p0, .int p1, .ref oc] (aX G x rf ar pr er cf tf cb tb ++ [(oc, .inl (G.2.2.1, 1, .inr (.inl f)))]) L F 1 6 (owL ox G oc f 1) := by
  refine xw_entry (by decide) rfl rfl (Nat.le_of_ble_eq_true rfl) ?_
  intro Z Q C hl0 hG0 hE1 htab hE
  subst hl0
  subst hG0
  have w0_ : Cond.classLink RL 13 nIAE ∈ wsL_posted := by decide +kernel
  show PW Z ((aX (zG Z) x rf ar pr er cf tf cb tb) ++ [(oc, .inl ((zG Z).2.2.1, 1, .inr (.inl f)))]) L F 0 0 Q 0 [(0, .ref x), (1, .int p0), (2, .int p1), (3, .ref oc)] []
  refine pk_aload_n C 3 dL_posted_0 rfl rfl (pc2 := 1) rfl ?_
  refine pk_iconst (v := 0) C dL_posted_1 (by decide) (pc2 := 2) rfl ?_
  refine pk_aload_n C 0 dL_posted_2 rfl rfl (pc2 := 3) rfl ?_
  refine pk_iload_n C 1 dL_posted_3 rfl rfl (pc2 := 4) rfl ?_
  refine pk_iload_n C 2 dL_posted_4 rfl rfl (pc2 := 5) rfl ?_
  refine pk_callVX (X := ((aX (zG Z) x rf ar pr er cf tf cb tb) ++ [(oc, .inl ((zG Z).2.2.1, 1, .inr (.inl f)))])) (cx := (aX (zG Z) x rf ar pr er cf tf cb tb)) (wr := [(oc, .inl ((zG Z).2.2.1, 1, .inr (.inl f)))]) (As := [.int p0, .int p1]) (st := [.int 0, .ref oc]) (k := 0) (n := 0) C hE1 hM gL_posted_X4_posted rfl rfl rfl 2 (by decide +kernel) ⟨(Nat.le_of_ble_eq_true rfl), (Nat.le_of_ble_eq_true rfl)⟩ (pw_atX 0 rfl) (ci := 4) rfl rfl rfl (Nat.le_of_ble_eq_true rfl) ⟨(Nat.le_of_ble_eq_true rfl), (Nat.le_of_ble_eq_true rfl)⟩ [0, 1, 2, 3, 4, 5, 6] [7] rfl rfl rfl rfl (by decide) dL_posted_5 (pc2 := 8) rfl (fun v9 X' L' F' ho => ?_) (fun E X' L' F' ho => ?_)
  · obtain ⟨z, rfl⟩ := hret _ _ _ _ ho
    show PW Z ((oc, .inl ((zG Z).2.2.1, 1, .inr (.inl f))) :: X') L' F' 1 6 Q 8 [(0, .ref x), (1, .int p0), (2, .int p1), (3, .ref oc)] [.long z, .int 0, .ref oc]
    refine pk_lastX (X := (oc, .inl ((zG Z).2.2.1, 1, .inr (.inl f))) :: X') (X' := (oc, .inl ((zG Z).2.2.1, 1, .inr (.inl (vp_updL f (Int32.toNatClampNeg 0) z)))) :: X') C 0 rfl in_01 rfl dL_posted_8 (pc2 := 9) rfl ?_
    refine pk_goto (tgt := 16) C dL_posted_9 (by decide) ?_
    refine pk_iconst (v := 0) C dL_posted_16 (by decide) (pc2 := 17) rfl ?_
    exact px_ret hE (Nat.le_of_ble_eq_true rfl) (Nat.le_of_ble_eq_true rfl) (fun Q' hE' => pr_int (ty := .int) C hE' rfl rfl ⟨X', _, rfl, Or.inl ⟨z, ho, rfl, rfl⟩⟩ dL_posted_17)
  · obtain rfl := hth _ _ _ _ ho
    refine px_catch C [] ⟨0, 9, 12, 13⟩ [] (by rw [htab]; rfl) (fun z hz => absurd hz List.not_mem_nil) (by decide) (by decide) w0_ (hE1.2.2.2.1 _ List.mem_cons_self) (pc2 := 12) rfl (fun q9 => ?_)
    refine pk_astore (lv' := [(4, .ref q9), (0, .ref x), (1, .int p0), (2, .int p1), (3, .ref oc)]) C dL_posted_12 (by decide) rfl (pc2 := 14) rfl ?_
    refine pk_iconst (v := 1) C dL_posted_14 (by decide) (pc2 := 15) rfl ?_
    exact px_ret hE (Nat.le_of_ble_eq_true rfl) (Nat.le_of_ble_eq_true rfl) (fun Q' hE' => pr_int (ty := .int) C hE' rfl rfl ⟨X', _, rfl, Or.inr (Or.inl ⟨ho, rfl, rfl⟩)⟩ dL_posted_15)
set_option maxRecDepth 100000 in
set_option maxHeartbeats 2000000 in
theorem w_L_total (l : Launch) (G : pw_G) (L : List Nat) (F : Nat → va_E) (x : Nat) (rf : Nat → Nat) (ar : AR) (pr : (Nat → Option Nat)) (er : (Nat → Option Nat)) (cf : CR) (tf : SR) (cb : CR) (tb : SR) (oc : Nat) (f : Nat → Int64) (p0 : Int32) {ox : pw_OX} (hM : XM l yX4_total wsX4_total ⟨6, 1, 6, 82⟩ G [.ref x, .int p0] (aX G x rf ar pr er cf tf cb tb) L F 1 6 ox) (hret : ∀ v X' L' F', ox (.inl v) X' L' F' → ∃ z, v = some (.long z)) (hth : ∀ E X' L' F', ox (.inr E) X' L' F' → E = nIAE) : XM l yL_total wsL_total ⟨7, 1, 6, 104⟩ G [.ref x, .int p0, .ref oc] (aX G x rf ar pr er cf tf cb tb ++ [(oc, .inl (G.2.2.1, 1, .inr (.inl f)))]) L F 1 6 (owL ox G oc f 1) := by
  refine xw_entry (by decide) rfl rfl (Nat.le_of_ble_eq_true rfl) ?_
  intro Z Q C hl0 hG0 hE1 htab hE
  subst hl0
  subst hG0
  have w0_ : Cond.classLink RL 13 nIAE ∈ wsL_total := by decide +kernel
  show PW Z ((aX (zG Z) x rf ar pr er cf tf cb tb) ++ [(oc, .inl ((zG Z).2.2.1, 1, .inr (.inl f)))]) L F 0 0 Q 0 [(0, .ref x), (1, .int p0), (2, .ref oc)] []
  refine pk_aload_n C 2 dL_total_0 rfl rfl (pc2 := 1) rfl ?_
  refine pk_iconst (v := 0) C dL_total_1 (by decide) (pc2 := 2) rfl ?_
  refine pk_aload_n C 0 dL_total_2 rfl rfl (pc2 := 3) rfl ?_
  refine pk_iload_n C 1 dL_total_3 rfl rfl (pc2 := 4) rfl ?_
  refine pk_callVX (X := ((aX (zG Z) x rf ar pr er cf tf cb tb) ++ [(oc, .inl ((zG Z).2.2.1, 1, .inr (.inl f)))])) (cx := (aX (zG Z) x rf ar pr er cf tf cb tb)) (wr := [(oc, .inl ((zG Z).2.2.1, 1, .inr (.inl f)))]) (As := [.int p0]) (st := [.int 0, .ref oc]) (k := 0) (n := 0) C hE1 hM gL_total_X4_total rfl rfl rfl 1 (by decide +kernel) ⟨(Nat.le_of_ble_eq_true rfl), (Nat.le_of_ble_eq_true rfl)⟩ (pw_atX 0 rfl) (ci := 4) rfl rfl rfl (Nat.le_of_ble_eq_true rfl) ⟨(Nat.le_of_ble_eq_true rfl), (Nat.le_of_ble_eq_true rfl)⟩ [0, 1, 2, 3, 4, 5, 6] [7] rfl rfl rfl rfl (by decide) dL_total_4 (pc2 := 7) rfl (fun v9 X' L' F' ho => ?_) (fun E X' L' F' ho => ?_)
  · obtain ⟨z, rfl⟩ := hret _ _ _ _ ho
    show PW Z ((oc, .inl ((zG Z).2.2.1, 1, .inr (.inl f))) :: X') L' F' 1 6 Q 7 [(0, .ref x), (1, .int p0), (2, .ref oc)] [.long z, .int 0, .ref oc]
    refine pk_lastX (X := (oc, .inl ((zG Z).2.2.1, 1, .inr (.inl f))) :: X') (X' := (oc, .inl ((zG Z).2.2.1, 1, .inr (.inl (vp_updL f (Int32.toNatClampNeg 0) z)))) :: X') C 0 rfl in_01 rfl dL_total_7 (pc2 := 8) rfl ?_
    refine pk_goto (tgt := 14) C dL_total_8 (by decide) ?_
    refine pk_iconst (v := 0) C dL_total_14 (by decide) (pc2 := 15) rfl ?_
    exact px_ret hE (Nat.le_of_ble_eq_true rfl) (Nat.le_of_ble_eq_true rfl) (fun Q' hE' => pr_int (ty := .int) C hE' rfl rfl ⟨X', _, rfl, Or.inl ⟨z, ho, rfl, rfl⟩⟩ dL_total_15)
  · obtain rfl := hth _ _ _ _ ho
    refine px_catch C [] ⟨0, 8, 11, 13⟩ [] (by rw [htab]; rfl) (fun z hz => absurd hz List.not_mem_nil) (by decide) (by decide) w0_ (hE1.2.2.2.1 _ List.mem_cons_self) (pc2 := 11) rfl (fun q9 => ?_)
    refine pk_astore_n (lv' := [(3, .ref q9), (0, .ref x), (1, .int p0), (2, .ref oc)]) C dL_total_11 rfl (by decide) rfl (pc2 := 12) rfl ?_
    refine pk_iconst (v := 1) C dL_total_12 (by decide) (pc2 := 13) rfl ?_
    exact px_ret hE (Nat.le_of_ble_eq_true rfl) (Nat.le_of_ble_eq_true rfl) (fun Q' hE' => pr_int (ty := .int) C hE' rfl rfl ⟨X', _, rfl, Or.inr (Or.inl ⟨ho, rfl, rfl⟩)⟩ dL_total_13)

theorem up_ne {F : Nat → va_E} {a b : Nat} {x y : va_E} (h1 : F a = x) (h2 : F b = y) (h : x ≠ y) : a ≠ b := fun e => h (by rw [← h1, ← h2, e])
theorem pA_us {G : pw_G} {L : List Nat} {F : Nat → va_E} {p u w q : Nat} {pt : PR} {us : Nat → Int32} {es : Nat → Option Nat} {ps : Nat → Int64} {evf : Nat → ER} (h : pA G L F p u w q pt us es ps evf) (us' : Nat → Int32) : pA G L (va_up F u (.inl (G.2.1, 36, .inl us'))) p u w q pt us' es ps evf := by
  obtain ⟨⟨a1, a2⟩, ⟨b1, b2⟩, ⟨c1, c2⟩, ⟨d1, d2⟩, he⟩ := h
  refine ⟨⟨a1, ?_⟩, ⟨b1, va_up_self ..⟩, ⟨c1, ?_⟩, ⟨d1, ?_⟩, fun i hi a ha => ?_⟩
  · rw [va_up_ne _ _ (up_ne a2 b2 (by simp))]; exact a2
  · rw [va_up_ne _ _ (up_ne c2 b2 (by simp))]; exact c2
  · rw [va_up_ne _ _ (up_ne d2 b2 (by simp))]; exact d2
  · obtain ⟨e1, e2⟩ := he i hi a ha
    exact ⟨e1, by rw [va_up_ne _ _ (up_ne e2 b2 (by simp))]; exact e2⟩
theorem pA_es {G : pw_G} {L : List Nat} {F : Nat → va_E} {p u w q : Nat} {pt : PR} {us : Nat → Int32} {es : Nat → Option Nat} {ps : Nat → Int64} {evf : Nat → ER} (h : pA G L F p u w q pt us es ps evf) (es' : Nat → Option Nat) (hes : ∀ i, i < 36 → ∀ a, es' i = some a → a ∈ L ∧ F a = cE (evf a)) : pA G L (va_up F w (.inl (G.2.2.2.1, 36, .inr (.inr (.inr (.inr es')))))) p u w q pt us es' ps evf := by
  obtain ⟨⟨a1, a2⟩, ⟨b1, b2⟩, ⟨c1, c2⟩, ⟨d1, d2⟩, he⟩ := h
  refine ⟨⟨a1, ?_⟩, ⟨b1, ?_⟩, ⟨c1, va_up_self ..⟩, ⟨d1, ?_⟩, fun i hi a ha => ?_⟩
  · rw [va_up_ne _ _ (up_ne a2 c2 (by simp))]; exact a2
  · rw [va_up_ne _ _ (up_ne b2 c2 (by simp))]; exact b2
  · rw [va_up_ne _ _ (up_ne d2 c2 (by simp))]; exact d2
  · obtain ⟨e1, e2⟩ := hes i hi a ha
    exact ⟨e1, by rw [va_up_ne _ _ (up_ne e2 c2 (by simp))]; exact e2⟩
theorem pA_ps {G : pw_G} {L : List Nat} {F : Nat → va_E} {p u w q : Nat} {pt : PR} {us : Nat → Int32} {es : Nat → Option Nat} {ps : Nat → Int64} {evf : Nat → ER} (h : pA G L F p u w q pt us es ps evf) (ps' : Nat → Int64) : pA G L (va_up F q (.inl (G.2.2.1, 36, .inr (.inl ps')))) p u w q pt us es ps' evf := by
  obtain ⟨⟨a1, a2⟩, ⟨b1, b2⟩, ⟨c1, c2⟩, ⟨d1, d2⟩, he⟩ := h
  refine ⟨⟨a1, ?_⟩, ⟨b1, ?_⟩, ⟨c1, ?_⟩, ⟨d1, va_up_self ..⟩, fun i hi a ha => ?_⟩
  · rw [va_up_ne _ _ (up_ne a2 d2 (by simp))]; exact a2
  · rw [va_up_ne _ _ (up_ne b2 d2 (by simp))]; exact b2
  · rw [va_up_ne _ _ (up_ne c2 d2 (by simp))]; exact c2
  · obtain ⟨e1, e2⟩ := he i hi a ha
    exact ⟨e1, by rw [va_up_ne _ _ (up_ne e2 d2 (by simp))]; exact e2⟩
theorem pA_pt {G : pw_G} {L : List Nat} {F : Nat → va_E} {p u w q : Nat} {pt : PR} {us : Nat → Int32} {es : Nat → Option Nat} {ps : Nat → Int64} {evf : Nat → ER} (h : pA G L F p u w q pt us es ps evf) (pt' : PR) : pA G L (va_up F p (cP u w q pt')) p u w q pt' us es ps evf := by
  obtain ⟨⟨a1, a2⟩, ⟨b1, b2⟩, ⟨c1, c2⟩, ⟨d1, d2⟩, he⟩ := h
  refine ⟨⟨a1, va_up_self ..⟩, ⟨b1, ?_⟩, ⟨c1, ?_⟩, ⟨d1, ?_⟩, fun i hi a ha => ?_⟩
  · rw [va_up_ne _ _ (up_ne b2 a2 (by simp))]; exact b2
  · rw [va_up_ne _ _ (up_ne c2 a2 (by simp))]; exact c2
  · rw [va_up_ne _ _ (up_ne d2 a2 (by simp))]; exact d2
  · obtain ⟨e1, e2⟩ := he i hi a ha
    exact ⟨e1, by rw [va_up_ne _ _ (up_ne e2 a2 (by simp))]; exact e2⟩
/-- an event in the pool, behind a write elsewhere -/
theorem pE_w {L : List Nat} {F : Nat → va_E} {a w : Nat} {z : ClassId × vp_A} {x : va_E} {ev : ER} (h : a ∈ L ∧ F a = cE ev) (hw : F w = .inl z) : a ∈ L ∧ va_up F w x a = cE ev := ⟨h.1, by rw [va_up_ne _ _ (up_ne h.2 hw (by simp))]; exact h.2⟩
theorem pE_p {L : List Nat} {F : Nat → va_E} {a p u w q : Nat} {x : va_E} {ev : ER} {pt : PR} (h : a ∈ L ∧ F a = cE ev) (hp : F p = cP u w q pt) : a ∈ L ∧ va_up F p x a = cE ev := ⟨h.1, by rw [va_up_ne _ _ (up_ne h.2 hp (by simp))]; exact h.2⟩
theorem es_none {L : List Nat} {F : Nat → va_E} {es : Nat → Option Nat} {evf : Nat → ER} {k : Nat} (h : ∀ i, i < 36 → ∀ a, es i = some a → a ∈ L ∧ F a = cE (evf a)) : ∀ i, i < 36 → ∀ a, va_up es k none i = some a → a ∈ L ∧ F a = cE (evf a) := by
  intro i hi a ha
  by_cases e : i = k
  · rw [e, va_up_self] at ha; exact absurd ha (by simp)
  · rw [va_up_ne _ _ e] at ha; exact h i hi a ha
theorem es_some {L : List Nat} {F : Nat → va_E} {es : Nat → Option Nat} {evf : Nat → ER} {k b : Nat} (h : ∀ i, i < 36 → ∀ a, es i = some a → a ∈ L ∧ F a = cE (evf a)) (hb : b ∈ L ∧ F b = cE (evf b)) : ∀ i, i < 36 → ∀ a, va_up es k (some b) i = some a → a ∈ L ∧ F a = cE (evf a) := by
  intro i hi a ha
  by_cases e : i = k
  · rw [e, va_up_self] at ha
    cases ha
    exact hb
  · rw [va_up_ne _ _ e] at ha; exact h i hi a ha
def m_X4_units_0 (ar : AR) (pr : (Nat → Option Nat)) (er : (Nat → Option Nat)) (cf : CR) (tf : SR) (cb : CR) (tb : SR) (F : (Nat → va_E)) (G : pw_G) (u : Nat) (pt : PR) (us : Nat → Int32) (es : Nat → Option Nat) (evf : Nat → ER) (i : Int32) (mm : Int32) (my : Int32) : Int32 × Int32 × CR × SR × CR × SR × (Nat → va_E) :=
  (match (m_X4_partOf ar pr er cf tf cb tb i) with | none => (1, 0, cf, tf, cb, tb, F) | some p1_ => if (m_X4_isMonth mm) = 0 then (1, 0, cf, tf, cb, tb, F) else if (m_X4_isWithin (Int32.toInt64 my) 0 (1000000)) = 0 then (1, 0, cf, tf, cb, tb, F) else if ((m_X4_hasBreach ar pr er cf tf cb tb pt (upd us (Int32.toNatClampNeg mm) my) es evf).1) = 0 then (0, (us (Int32.toNatClampNeg mm)), ((m_X4_hasBreach ar pr er cf tf cb tb pt (upd us (Int32.toNatClampNeg mm) my) es evf).2.1), ((m_X4_hasBreach ar pr er cf tf cb tb pt (upd us (Int32.toNatClampNeg mm) my) es evf).2.2.1), ((m_X4_hasBreach ar pr er cf tf cb tb pt (upd us (Int32.toNatClampNeg mm) my) es evf).2.2.2.1), ((m_X4_hasBreach ar pr er cf tf cb tb pt (upd us (Int32.toNatClampNeg mm) my) es evf).2.2.2.2), (va_up F u (.inl (G.2.1, 36, .inl (upd us (Int32.toNatClampNeg mm) my))))) else (2, 0, ((m_X4_hasBreach ar pr er cf tf cb tb pt (upd us (Int32.toNatClampNeg mm) my) es evf).2.1), ((m_X4_hasBreach ar pr er cf tf cb tb pt (upd us (Int32.toNatClampNeg mm) my) es evf).2.2.1), ((m_X4_hasBreach ar pr er cf tf cb tb pt (upd us (Int32.toNatClampNeg mm) my) es evf).2.2.2.1), ((m_X4_hasBreach ar pr er cf tf cb tb pt (upd us (Int32.toNatClampNeg mm) my) es evf).2.2.2.2), (va_up (va_up F u (.inl (G.2.1, 36, .inl (upd us (Int32.toNatClampNeg mm) my)))) u (.inl (G.2.1, 36, .inl (upd (upd us (Int32.toNatClampNeg mm) my) (Int32.toNatClampNeg mm) (us (Int32.toNatClampNeg mm))))))))
def m_X4_units (ar : AR) (pr : (Nat → Option Nat)) (er : (Nat → Option Nat)) (cf : CR) (tf : SR) (cb : CR) (tb : SR) (F : (Nat → va_E)) (G : pw_G) (u : Nat) (pt : PR) (us : Nat → Int32) (es : Nat → Option Nat) (evf : Nat → ER) (i : Int32) (mm : Int32) (my : Int32) : Int32 × Int32 × CR × SR × CR × SR × (Nat → va_E) := m_X4_units_0 ar pr er cf tf cb tb F G u pt us es evf i mm my
set_option maxRecDepth 100000 in
set_option maxHeartbeats 2000000 in
theorem t0_X4_units {Z : pw_Z} {Q : State → Prop} {L : List Nat}  {x : Nat} {rf : Nat → Nat} {w q : Nat} {ps : Nat → Int64} {ar : AR} {pr : (Nat → Option Nat)} {er : (Nat → Option Nat)} {cf : CR} {tf : SR} {cb : CR} {tb : SR} {F : (Nat → va_E)} {u : Nat} {pt : PR} {us : Nat → Int32} {es : Nat → Option Nat} {evf : Nat → ER} {i : Int32} {mm : Int32} {my : Int32} (C : pw_C Z cX4_units 6 RX4 wsX4_units ⟨7, 1, 6, 150⟩ (some .int)) (hX : pw_CX Z) {X9 : va_W} {F9 : Nat → va_E} {R : Int32 × Int32 × CR × SR × CR × SR × (Nat → va_E)} (hE : pw_EndX Z Q X9 L F9 (ox_d (R.1) (some (.int (R.2.1))) (aX (zG Z) x rf ar pr er (R.2.2.1) (R.2.2.2.1) (R.2.2.2.2.1) (R.2.2.2.2.2.1)) L (R.2.2.2.2.2.2)) 1 6) (hpc : (A_pc ar).toInt ≤ 6) (hpp : ∀ a, m_X4_partOf ar pr er cf tf cb tb i = some a → (pA (zG Z) L F a u w q pt us es ps evf) ∧ ∃ fm, fm ≤ 35 ∧ P_fi pt = nI fm) (hR : m_X4_units_0 ar pr er cf tf cb tb F (zG Z) u pt us es evf i mm my = R) : PW Z (aX (zG Z) x rf ar pr er cf tf cb tb) L F 0 0 Q 0 [(0, .ref x), (1, .int i), (2, .int mm), (3, .int my)] [] := by
  have i2_ : ∀ w ∈ wsX20, w ∈ wsX4_units := by decide +kernel
  have w0_ : Cond.classLink RX4 47 nIAE ∈ wsX4_units := by decide +kernel
  have w1_ : Cond.initialized nIAE ∈ wsX4_units := by decide +kernel
  have w2_ : Cond.constantLong RX4 70 (1000000) ∈ wsX4_units := by decide +kernel
  have w3_ : Cond.fieldLink RX4 74 "AgedAssets$Part" "unitsIn" "[I" ∈ wsX4_units := by decide +kernel
  have w4_ : Cond.classLink RX4 58 nISE ∈ wsX4_units := by decide +kernel
  have w5_ : Cond.initialized nISE ∈ wsX4_units := by decide +kernel
  refine pk_aload_n C 0 dX4_units_0 rfl rfl (pc2 := 1) rfl ?_
  refine pk_iload_n C 1 dX4_units_1 rfl rfl (pc2 := 2) rfl ?_
  refine pk_dV (cx := (aX (zG Z) x rf ar pr er cf tf cb tb)) (wr := []) (X2 := (aX (zG Z) x rf ar pr er cf tf cb tb)) (st := []) (st2 := [(va_rf (m_X4_partOf ar pr er cf tf cb tb i))]) (As := [.int i]) C (c_X4_partOf (zl Z) (zG Z) L F x rf ar pr er cf tf cb tb i hpc) gX4_units_X4_partOf rfl rfl rfl 1 (by decide +kernel) ⟨Nat.le_of_ble_eq_true rfl, Nat.le_of_ble_eq_true rfl⟩ (pw_atX 0 rfl) rfl rfl rfl (Nat.le_of_ble_eq_true rfl) ⟨Nat.le_of_ble_eq_true rfl, Nat.le_of_ble_eq_true rfl⟩ [0, 1, 2, 3, 4, 5, 6] [] [0, 1, 2, 3, 4, 5, 6] rfl rfl rfl rfl (by decide) rfl rfl dX4_units_2 (pc2 := 5) rfl rfl ?_
  rcases h1_ : (m_X4_partOf ar pr er cf tf cb tb i) with _ | p1_
  ·
    refine pk_astoreN (lv' := [(4, .null), (0, .ref x), (1, .int i), (2, .int mm), (3, .int my)]) C dX4_units_5 (by decide) rfl (pc2 := 7) rfl ?_
    refine pk_aloadN C 0 dX4_units_7 rfl (pc2 := 9) rfl ?_
    refine pk_ifnull_n (tgt := 31) C dX4_units_9 (by decide) ?_
    unfold m_X4_units_0 at hR
    try simp only [h1_] at hR
    subst hR
    exact px_throw (E := nIAE) C hX hE rfl (is := 72) (text := "no such part or month, or so many units can't be") (by decide) (Or.inl rfl) w0_ w1_ (fun w h => by first | exact List.mem_cons_of_mem _ (List.mem_append_right _ h) | exact List.mem_cons_of_mem _ (List.mem_append_left _ (List.mem_append_right _ h))) xt_51 xg_51 (by decide +kernel) (by decide +kernel) dX4_units_31 dX4_units_34 dX4_units_35 dX4_units_37 dX4_units_40 (Nat.le_of_ble_eq_true rfl) (Nat.le_of_ble_eq_true rfl) (Nat.le_of_ble_eq_true rfl) (Nat.le_of_ble_eq_true rfl) (Nat.le_of_ble_eq_true rfl) (Nat.le_of_ble_eq_true rfl) ⟨Or.inl ⟨rfl, rfl⟩, rfl, rfl, rfl⟩
  ·
    have hxp1_ := hpp _ h1_
    obtain ⟨hp1_, fm_, hfm_, hfi_⟩ := hxp1_
    refine pk_astore (lv' := [(4, .ref p1_), (0, .ref x), (1, .int i), (2, .int mm), (3, .int my)]) C dX4_units_5 (by decide) rfl (pc2 := 7) rfl ?_
    refine pk_aload C 0 dX4_units_7 rfl (pc2 := 9) rfl ?_
    refine pk_ifnull_r C dX4_units_9 (pc2 := 12) rfl ?_
    refine pk_iload_n C 3 dX4_units_12 rfl rfl (pc2 := 13) rfl ?_
    refine pk_dS (cx := []) (wr := (aX (zG Z) x rf ar pr er cf tf cb tb)) (X2 := (aX (zG Z) x rf ar pr er cf tf cb tb)) (st := []) (st2 := [.int (m_X4_isMonth mm)]) (As := [.int mm]) C (c_X4_isMonth (zl Z) (zG Z) L F mm) gX4_units_X4_isMonth rfl rfl rfl 1 (by decide +kernel) ⟨Nat.le_of_ble_eq_true rfl, Nat.le_of_ble_eq_true rfl⟩ rfl rfl (Nat.le_of_ble_eq_true rfl) ⟨Nat.le_of_ble_eq_true rfl, Nat.le_of_ble_eq_true rfl⟩ [] [0, 1, 2, 3, 4, 5, 6] [0, 1, 2, 3, 4, 5, 6] rfl rfl rfl rfl (by decide) rfl rfl dX4_units_13 (pc2 := 16) rfl rfl ?_
    refine pk_topi (fun n1_ en1_ => ?_)
    refine pk_if_eq (tgt := 31) C dX4_units_16 (by decide) (pc2 := 19) rfl (fun h2_ => ?_) (fun h2_ => ?_)
    ·
      subst en1_
      unfold m_X4_units_0 at hR
      try simp only [h1_] at hR
      try rw [if_pos h2_] at hR
      subst hR
      exact px_throw (E := nIAE) C hX hE rfl (is := 72) (text := "no such part or month, or so many units can't be") (by decide) (Or.inl rfl) w0_ w1_ (fun w h => by first | exact List.mem_cons_of_mem _ (List.mem_append_right _ h) | exact List.mem_cons_of_mem _ (List.mem_append_left _ (List.mem_append_right _ h))) xt_51 xg_51 (by decide +kernel) (by decide +kernel) dX4_units_31 dX4_units_34 dX4_units_35 dX4_units_37 dX4_units_40 (Nat.le_of_ble_eq_true rfl) (Nat.le_of_ble_eq_true rfl) (Nat.le_of_ble_eq_true rfl) (Nat.le_of_ble_eq_true rfl) (Nat.le_of_ble_eq_true rfl) (Nat.le_of_ble_eq_true rfl) ⟨Or.inl ⟨rfl, rfl⟩, rfl, rfl, rfl⟩
    ·
      refine pk_iload_n C 4 dX4_units_19 rfl rfl (pc2 := 20) rfl ?_
      refine pk_i2l C dX4_units_20 (pc2 := 21) rfl ?_
      refine pk_lconst (v := 0) C dX4_units_21 (by decide) (pc2 := 22) rfl ?_
      refine pk_ldc2 C w2_ dX4_units_22 (pc2 := 25) rfl ?_
      refine pk_dS (cx := []) (wr := (aX (zG Z) x rf ar pr er cf tf cb tb)) (X2 := (aX (zG Z) x rf ar pr er cf tf cb tb)) (st := []) (st2 := [.int (m_X4_isWithin (Int32.toInt64 my) 0 (1000000))]) (As := [.long (Int32.toInt64 my), .long 0, .long (1000000)]) C (c_X4_isWithin (zl Z) (zG Z) L F (Int32.toInt64 my) 0 (1000000)) gX4_units_X4_isWithin rfl rfl rfl 3 (by decide +kernel) ⟨Nat.le_of_ble_eq_true rfl, Nat.le_of_ble_eq_true rfl⟩ rfl rfl (Nat.le_of_ble_eq_true rfl) ⟨Nat.le_of_ble_eq_true rfl, Nat.le_of_ble_eq_true rfl⟩ [] [0, 1, 2, 3, 4, 5, 6] [0, 1, 2, 3, 4, 5, 6] rfl rfl rfl rfl (by decide) rfl rfl dX4_units_25 (pc2 := 28) rfl rfl ?_
      refine pk_topi (fun n2_ en2_ => ?_)
      refine pk_if_ne (tgt := 41) C dX4_units_28 (by decide) (pc2 := 31) rfl (fun h3_ => ?_) (fun h3_ => ?_)
      ·
        have hmm_ := isMonth4_in (p := mm) (by rw [← en1_]; exact h2_)
        have hm36 := mi_36 hmm_
        refine pk_aload C 0 dX4_units_41 rfl (pc2 := 43) rfl ?_
        refine pk_get (v := .ref u) C i2_ (pw_atP hp1_.1.1 hp1_.1.2) (ci := 2) rfl 6 (by decide) w3_ rfl rfl dX4_units_43 (pc2 := 46) rfl ?_
        refine pk_iload_n C 3 dX4_units_46 rfl rfl (pc2 := 47) rfl ?_
        refine pk_iald (v := (us (Int32.toNatClampNeg mm))) C (pw_atP hp1_.2.1.1 hp1_.2.1.2) hm36 rfl dX4_units_47 (pc2 := 48) rfl ?_
        refine pk_topi (fun n3_ en3_ => ?_)
        refine pk_istore (lv' := [(5, .int n3_), (4, .ref p1_), (0, .ref x), (1, .int i), (2, .int mm), (3, .int my)]) C dX4_units_48 (by decide) rfl (pc2 := 50) rfl ?_
        refine pk_aload C 1 dX4_units_50 rfl (pc2 := 52) rfl ?_
        refine pk_get (v := .ref u) C i2_ (pw_atP hp1_.1.1 hp1_.1.2) (ci := 2) rfl 6 (by decide) w3_ rfl rfl dX4_units_52 (pc2 := 55) rfl ?_
        refine pk_iload_n C 4 dX4_units_55 rfl rfl (pc2 := 56) rfl ?_
        refine pk_iload_n C 5 dX4_units_56 rfl rfl (pc2 := 57) rfl ?_
        refine pk_iastP C hp1_.2.1.1 hp1_.2.1.2 hm36 dX4_units_57 (pc2 := 58) rfl ?_
        have hw1_ := pA_us hp1_ (upd us (Int32.toNatClampNeg mm) my)
        generalize en4_ : (va_up F u (.inl ((zG Z).2.1, 36, .inl (upd us (Int32.toNatClampNeg mm) my)))) = n4_ at hw1_ ⊢
        refine pk_aload_n C 2 dX4_units_58 rfl rfl (pc2 := 59) rfl ?_
        refine pk_aload C 1 dX4_units_59 rfl (pc2 := 61) rfl ?_
        refine pk_dV (cx := (aX (zG Z) x rf ar pr er cf tf cb tb)) (wr := []) (X2 := (aX (zG Z) x rf ar pr er ((m_X4_hasBreach ar pr er cf tf cb tb pt (upd us (Int32.toNatClampNeg mm) my) es evf).2.1) ((m_X4_hasBreach ar pr er cf tf cb tb pt (upd us (Int32.toNatClampNeg mm) my) es evf).2.2.1) ((m_X4_hasBreach ar pr er cf tf cb tb pt (upd us (Int32.toNatClampNeg mm) my) es evf).2.2.2.1) ((m_X4_hasBreach ar pr er cf tf cb tb pt (upd us (Int32.toNatClampNeg mm) my) es evf).2.2.2.2))) (st := []) (st2 := [.int ((m_X4_hasBreach ar pr er cf tf cb tb pt (upd us (Int32.toNatClampNeg mm) my) es evf).1)]) (As := [.ref p1_]) C (c_X4_hasBreach (zl Z) (zG Z) L n4_ x rf ar pr er cf tf cb tb p1_ u w q pt (upd us (Int32.toNatClampNeg mm) my) es ps evf hw1_ fm_ hfm_ hfi_) gX4_units_X4_hasBreach rfl rfl rfl 1 (by decide +kernel) ⟨Nat.le_of_ble_eq_true rfl, Nat.le_of_ble_eq_true rfl⟩ (pw_atX 0 rfl) rfl rfl rfl (Nat.le_of_ble_eq_true rfl) ⟨Nat.le_of_ble_eq_true rfl, Nat.le_of_ble_eq_true rfl⟩ [0, 1, 2, 3, 4, 5, 6] [] [0, 1, 2, 3, 4, 5, 6] rfl rfl rfl rfl (by decide) rfl rfl dX4_units_61 (pc2 := 64) rfl rfl ?_
        generalize en5_ : ((m_X4_hasBreach ar pr er cf tf cb tb pt (upd us (Int32.toNatClampNeg mm) my) es evf).2.1) = n5_
        generalize en6_ : ((m_X4_hasBreach ar pr er cf tf cb tb pt (upd us (Int32.toNatClampNeg mm) my) es evf).2.2.1) = n6_
        generalize en7_ : ((m_X4_hasBreach ar pr er cf tf cb tb pt (upd us (Int32.toNatClampNeg mm) my) es evf).2.2.2.1) = n7_
        generalize en8_ : ((m_X4_hasBreach ar pr er cf tf cb tb pt (upd us (Int32.toNatClampNeg mm) my) es evf).2.2.2.2) = n8_
        refine pk_topi (fun n9_ en9_ => ?_)
        refine pk_if_eq (tgt := 86) C dX4_units_64 (by decide) (pc2 := 67) rfl (fun h4_ => ?_) (fun h4_ => ?_)
        ·
          refine pk_iload C 0 dX4_units_86 rfl (pc2 := 88) rfl ?_
          subst en1_ en2_ en3_ en4_ en5_ en6_ en7_ en8_ en9_
          unfold m_X4_units_0 at hR
          try simp only [h1_] at hR
          try rw [if_neg h2_] at hR
          try rw [if_neg h3_] at hR
          try rw [if_pos h4_] at hR
          subst hR
          exact px_ret hE (Nat.le_of_ble_eq_true rfl) (Nat.le_of_ble_eq_true rfl) (fun Q' hE' => pr_int (ty := .int) C hE' rfl rfl ⟨⟨rfl, rfl⟩, rfl, rfl, rfl⟩ dX4_units_88)
        ·
          refine pk_aload C 1 dX4_units_67 rfl (pc2 := 69) rfl ?_
          refine pk_get (v := .ref u) C i2_ (pw_atP hw1_.1.1 hw1_.1.2) (ci := 2) rfl 6 (by decide) w3_ rfl rfl dX4_units_69 (pc2 := 72) rfl ?_
          refine pk_iload_n C 4 dX4_units_72 rfl rfl (pc2 := 73) rfl ?_
          refine pk_iload C 0 dX4_units_73 rfl (pc2 := 75) rfl ?_
          refine pk_iastP C hw1_.2.1.1 hw1_.2.1.2 hm36 dX4_units_75 (pc2 := 76) rfl ?_
          have hw2_ := pA_us hw1_ (upd (upd us (Int32.toNatClampNeg mm) my) (Int32.toNatClampNeg mm) n3_)
          generalize en10_ : (va_up n4_ u (.inl ((zG Z).2.1, 36, .inl (upd (upd us (Int32.toNatClampNeg mm) my) (Int32.toNatClampNeg mm) n3_)))) = n10_ at hw2_ ⊢
          subst en1_ en2_ en3_ en4_ en5_ en6_ en7_ en8_ en9_ en10_
          unfold m_X4_units_0 at hR
          try simp only [h1_] at hR
          try rw [if_neg h2_] at hR
          try rw [if_neg h3_] at hR
          try rw [if_neg h4_] at hR
          subst hR
          exact px_throw (E := nISE) C hX hE rfl (is := 82) (text := "an event would be a breach") (by decide) (Or.inr rfl) w4_ w5_ (fun w h => by first | exact List.mem_cons_of_mem _ (List.mem_append_right _ h) | exact List.mem_cons_of_mem _ (List.mem_append_left _ (List.mem_append_right _ h))) xt_62 xg_62 (by decide +kernel) (by decide +kernel) dX4_units_76 dX4_units_79 dX4_units_80 dX4_units_82 dX4_units_85 (Nat.le_of_ble_eq_true rfl) (Nat.le_of_ble_eq_true rfl) (Nat.le_of_ble_eq_true rfl) (Nat.le_of_ble_eq_true rfl) (Nat.le_of_ble_eq_true rfl) (Nat.le_of_ble_eq_true rfl) ⟨Or.inr ⟨rfl, rfl⟩, rfl, rfl, rfl⟩
      ·
        subst en1_ en2_
        unfold m_X4_units_0 at hR
        try simp only [h1_] at hR
        try rw [if_neg h2_] at hR
        try rw [if_pos h3_] at hR
        subst hR
        exact px_throw (E := nIAE) C hX hE rfl (is := 72) (text := "no such part or month, or so many units can't be") (by decide) (Or.inl rfl) w0_ w1_ (fun w h => by first | exact List.mem_cons_of_mem _ (List.mem_append_right _ h) | exact List.mem_cons_of_mem _ (List.mem_append_left _ (List.mem_append_right _ h))) xt_51 xg_51 (by decide +kernel) (by decide +kernel) dX4_units_31 dX4_units_34 dX4_units_35 dX4_units_37 dX4_units_40 (Nat.le_of_ble_eq_true rfl) (Nat.le_of_ble_eq_true rfl) (Nat.le_of_ble_eq_true rfl) (Nat.le_of_ble_eq_true rfl) (Nat.le_of_ble_eq_true rfl) (Nat.le_of_ble_eq_true rfl) ⟨Or.inl ⟨rfl, rfl⟩, rfl, rfl, rfl⟩
set_option maxRecDepth 100000 in
set_option maxHeartbeats 2000000 in
theorem c_X4_units (l : Launch) (hst : l.stackTraces = false) (G : pw_G) (L : List Nat) (F : Nat → va_E) (x : Nat) (rf : Nat → Nat) (w q : Nat) (ps : Nat → Int64) (ar : AR) (pr : (Nat → Option Nat)) (er : (Nat → Option Nat)) (cf : CR) (tf : SR) (cb : CR) (tb : SR) (u : Nat) (pt : PR) (us : Nat → Int32) (es : Nat → Option Nat) (evf : Nat → ER) (i : Int32) (mm : Int32) (my : Int32) (hpc : (A_pc ar).toInt ≤ 6) (hpp : ∀ a, m_X4_partOf ar pr er cf tf cb tb i = some a → (pA G L F a u w q pt us es ps evf) ∧ ∃ fm, fm ≤ 35 ∧ P_fi pt = nI fm) : XM l yX4_units wsX4_units ⟨7, 1, 6, 150⟩ G [.ref x, .int i, .int mm, .int my] (aX G x rf ar pr er cf tf cb tb) L F 1 6 (ox_d ((m_X4_units ar pr er cf tf cb tb F G u pt us es evf i mm my).1) (some (.int ((m_X4_units ar pr er cf tf cb tb F G u pt us es evf i mm my).2.1))) (aX G x rf ar pr er ((m_X4_units ar pr er cf tf cb tb F G u pt us es evf i mm my).2.2.1) ((m_X4_units ar pr er cf tf cb tb F G u pt us es evf i mm my).2.2.2.1) ((m_X4_units ar pr er cf tf cb tb F G u pt us es evf i mm my).2.2.2.2.1) ((m_X4_units ar pr er cf tf cb tb F G u pt us es evf i mm my).2.2.2.2.2.1)) L ((m_X4_units ar pr er cf tf cb tb F G u pt us es evf i mm my).2.2.2.2.2.2)) := by
  refine xm_entry hst (by decide) rfl rfl (Nat.le_of_ble_eq_true rfl) ?_
  intro Z Q C hl0 hG0 hX hE
  subst hl0
  subst hG0
  exact t0_X4_units C hX hE hpc hpp rfl

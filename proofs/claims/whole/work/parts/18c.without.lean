def m_X4_without_0 (ar : AR) (pr : (Nat → Option Nat)) (er : (Nat → Option Nat)) (cf : CR) (tf : SR) (cb : CR) (tb : SR) (pt : PR) (us : Nat → Int32) (es : Nat → Option Nat) (evf : Nat → ER) (i : Int32) (mm : Int32) : Int32 × Int64 × CR × SR × CR × SR :=
  (match (m_X4_partOf ar pr er cf tf cb tb i) with | none => (1, 0, cf, tf, cb, tb) | some p1_ => if (m_X4_isMonth mm) = 0 then (1, 0, cf, tf, cb, tb) else if (P_fi pt) ≤ mm then (0, (m_X0_bookOrNone ((m_X4_follow pt us es evf cf tf cb tb mm).2.2.1) ((m_X4_follow pt us es evf cf tf cb tb mm).2.2.2)), ((m_X4_follow pt us es evf cf tf cb tb mm).1), ((m_X4_follow pt us es evf cf tf cb tb mm).2.1), ((m_X4_follow pt us es evf cf tf cb tb mm).2.2.1), ((m_X4_follow pt us es evf cf tf cb tb mm).2.2.2)) else (0, 0, cf, tf, cb, tb))
def m_X4_without (ar : AR) (pr : (Nat → Option Nat)) (er : (Nat → Option Nat)) (cf : CR) (tf : SR) (cb : CR) (tb : SR) (pt : PR) (us : Nat → Int32) (es : Nat → Option Nat) (evf : Nat → ER) (i : Int32) (mm : Int32) : Int32 × Int64 × CR × SR × CR × SR := m_X4_without_0 ar pr er cf tf cb tb pt us es evf i mm
set_option maxRecDepth 100000 in
set_option maxHeartbeats 2000000 in
theorem t0_X4_without {Z : pw_Z} {Q : State → Prop} {L : List Nat} {F : Nat → va_E} {x : Nat} {rf : Nat → Nat} {u w q : Nat} {ps : Nat → Int64} {ar : AR} {pr : (Nat → Option Nat)} {er : (Nat → Option Nat)} {cf : CR} {tf : SR} {cb : CR} {tb : SR} {pt : PR} {us : Nat → Int32} {es : Nat → Option Nat} {evf : Nat → ER} {i : Int32} {mm : Int32} (C : pw_C Z cX4_without 4 RX4 wsX4_without ⟨6, 1, 6, 129⟩ (some .long)) (hX : pw_CX Z) {X9 : va_W} {R : Int32 × Int64 × CR × SR × CR × SR} (hE : pw_EndX Z Q X9 L F (ox_d (R.1) (some (.long (R.2.1))) (aX (zG Z) x rf ar pr er (R.2.2.1) (R.2.2.2.1) (R.2.2.2.2.1) (R.2.2.2.2.2)) L F) 1 6) (hpc : (A_pc ar).toInt ≤ 6) (hpp : ∀ a, m_X4_partOf ar pr er cf tf cb tb i = some a → (pA (zG Z) L F a u w q pt us es ps evf) ∧ ∃ fm, fm ≤ 35 ∧ P_fi pt = nI fm) (hR : m_X4_without_0 ar pr er cf tf cb tb pt us es evf i mm = R) : PW Z (aX (zG Z) x rf ar pr er cf tf cb tb) L F 0 0 Q 0 [(0, .ref x), (1, .int i), (2, .int mm)] [] := by
  have i2_ : ∀ w ∈ wsX20, w ∈ wsX4_without := by decide +kernel
  have i4_ : ∀ w ∈ wsX40, w ∈ wsX4_without := by decide +kernel
  have w0_ : Cond.classLink RX4 47 nIAE ∈ wsX4_without := by decide +kernel
  have w1_ : Cond.initialized nIAE ∈ wsX4_without := by decide +kernel
  have w2_ : Cond.fieldLink RX4 84 "AgedAssets$Part" "firstMonth" "I" ∈ wsX4_without := by decide +kernel
  have w3_ : Cond.fieldLink RX4 28 "AgedAssets" "bare" "LAgedAssets$Course;" ∈ wsX4_without := by decide +kernel
  refine pk_aload_n C 0 dX4_without_0 rfl rfl (pc2 := 1) rfl ?_
  refine pk_iload_n C 1 dX4_without_1 rfl rfl (pc2 := 2) rfl ?_
  refine pk_dV (cx := (aX (zG Z) x rf ar pr er cf tf cb tb)) (wr := []) (X2 := (aX (zG Z) x rf ar pr er cf tf cb tb)) (st := []) (st2 := [(va_rf (m_X4_partOf ar pr er cf tf cb tb i))]) (As := [.int i]) C (c_X4_partOf (zl Z) (zG Z) L F x rf ar pr er cf tf cb tb i hpc) gX4_without_X4_partOf rfl rfl rfl 1 (by decide +kernel) ⟨Nat.le_of_ble_eq_true rfl, Nat.le_of_ble_eq_true rfl⟩ (pw_atX 0 rfl) rfl rfl rfl (Nat.le_of_ble_eq_true rfl) ⟨Nat.le_of_ble_eq_true rfl, Nat.le_of_ble_eq_true rfl⟩ [0, 1, 2, 3, 4, 5, 6] [] [0, 1, 2, 3, 4, 5, 6] rfl rfl rfl rfl (by decide) rfl rfl dX4_without_2 (pc2 := 5) rfl rfl ?_
  rcases h1_ : (m_X4_partOf ar pr er cf tf cb tb i) with _ | p1_
  ·
    refine pk_astore_nN (lv' := [(3, .null), (0, .ref x), (1, .int i), (2, .int mm)]) C dX4_without_5 rfl (by decide) rfl (pc2 := 6) rfl ?_
    refine pk_aload_nN C 0 dX4_without_6 rfl rfl (pc2 := 7) rfl ?_
    refine pk_ifnull_n (tgt := 17) C dX4_without_7 (by decide) ?_
    unfold m_X4_without_0 at hR
    try simp only [h1_] at hR
    subst hR
    exact px_throw (E := nIAE) C hX hE rfl (is := 154) (text := "no such part or month") (by decide) (Or.inl rfl) w0_ w1_ (fun w h => by first | exact List.mem_cons_of_mem _ (List.mem_append_right _ h) | exact List.mem_cons_of_mem _ (List.mem_append_left _ (List.mem_append_right _ h))) xt_51 xg_51 (by decide +kernel) (by decide +kernel) dX4_without_17 dX4_without_20 dX4_without_21 dX4_without_23 dX4_without_26 (Nat.le_of_ble_eq_true rfl) (Nat.le_of_ble_eq_true rfl) (Nat.le_of_ble_eq_true rfl) (Nat.le_of_ble_eq_true rfl) (Nat.le_of_ble_eq_true rfl) (Nat.le_of_ble_eq_true rfl) ⟨Or.inl ⟨rfl, rfl⟩, rfl, rfl, rfl⟩
  ·
    have hxp1_ := hpp _ h1_
    obtain ⟨hp1_, fm_, hfm_, hfi_⟩ := hxp1_
    refine pk_astore_n (lv' := [(3, .ref p1_), (0, .ref x), (1, .int i), (2, .int mm)]) C dX4_without_5 rfl (by decide) rfl (pc2 := 6) rfl ?_
    refine pk_aload_n C 0 dX4_without_6 rfl rfl (pc2 := 7) rfl ?_
    refine pk_ifnull_r C dX4_without_7 (pc2 := 10) rfl ?_
    refine pk_iload_n C 3 dX4_without_10 rfl rfl (pc2 := 11) rfl ?_
    refine pk_dS (cx := []) (wr := (aX (zG Z) x rf ar pr er cf tf cb tb)) (X2 := (aX (zG Z) x rf ar pr er cf tf cb tb)) (st := []) (st2 := [.int (m_X4_isMonth mm)]) (As := [.int mm]) C (c_X4_isMonth (zl Z) (zG Z) L F mm) gX4_without_X4_isMonth rfl rfl rfl 1 (by decide +kernel) ⟨Nat.le_of_ble_eq_true rfl, Nat.le_of_ble_eq_true rfl⟩ rfl rfl (Nat.le_of_ble_eq_true rfl) ⟨Nat.le_of_ble_eq_true rfl, Nat.le_of_ble_eq_true rfl⟩ [] [0, 1, 2, 3, 4, 5, 6] [0, 1, 2, 3, 4, 5, 6] rfl rfl rfl rfl (by decide) rfl rfl dX4_without_11 (pc2 := 14) rfl rfl ?_
    refine pk_topi (fun n1_ en1_ => ?_)
    refine pk_if_ne (tgt := 27) C dX4_without_14 (by decide) (pc2 := 17) rfl (fun h2_ => ?_) (fun h2_ => ?_)
    ·
      have hmm_ := isMonth4_in (p := mm) (by rw [← en1_]; exact h2_)
      refine pk_iload_n C 3 dX4_without_27 rfl rfl (pc2 := 28) rfl ?_
      refine pk_aload_n C 0 dX4_without_28 rfl rfl (pc2 := 29) rfl ?_
      refine pk_get (v := .int (P_fi pt)) C i2_ (pw_atP hp1_.1.1 hp1_.1.2) (ci := 2) rfl 2 (by decide) w2_ rfl rfl dX4_without_29 (pc2 := 32) rfl ?_
      refine pk_icmp_ge (tgt := 37) C dX4_without_32 (by decide) (pc2 := 35) rfl (fun h3_ => ?_) (fun h3_ => ?_)
      ·
        refine pk_aload_n C 1 dX4_without_37 rfl rfl (pc2 := 38) rfl ?_
        refine pk_aload_n C 0 dX4_without_38 rfl rfl (pc2 := 39) rfl ?_
        refine pk_iload_n C 3 dX4_without_39 rfl rfl (pc2 := 40) rfl ?_
        refine pk_dV (cx := (aX (zG Z) x rf ar pr er cf tf cb tb)) (wr := []) (X2 := (aX (zG Z) x rf ar pr er ((m_X4_follow pt us es evf cf tf cb tb mm).1) ((m_X4_follow pt us es evf cf tf cb tb mm).2.1) ((m_X4_follow pt us es evf cf tf cb tb mm).2.2.1) ((m_X4_follow pt us es evf cf tf cb tb mm).2.2.2))) (st := []) (st2 := []) (As := [.ref p1_, .int mm]) C (c_X4_follow (zl Z) (zG Z) L F x rf ar pr er cf tf cb tb p1_ u w q pt us es ps evf hp1_ fm_ hfm_ hfi_ mm (mi_35 hmm_)) gX4_without_X4_follow rfl rfl rfl 2 (by decide +kernel) ⟨Nat.le_of_ble_eq_true rfl, Nat.le_of_ble_eq_true rfl⟩ (pw_atX 0 rfl) rfl rfl rfl (Nat.le_of_ble_eq_true rfl) ⟨Nat.le_of_ble_eq_true rfl, Nat.le_of_ble_eq_true rfl⟩ [0, 1, 2, 3, 4, 5, 6] [] [0, 1, 2, 3, 4, 5, 6] rfl rfl rfl rfl (by decide) rfl rfl dX4_without_40 (pc2 := 43) rfl rfl ?_
        generalize en2_ : ((m_X4_follow pt us es evf cf tf cb tb mm).1) = n2_
        generalize en3_ : ((m_X4_follow pt us es evf cf tf cb tb mm).2.1) = n3_
        generalize en4_ : ((m_X4_follow pt us es evf cf tf cb tb mm).2.2.1) = n4_
        generalize en5_ : ((m_X4_follow pt us es evf cf tf cb tb mm).2.2.2) = n5_
        refine pk_aload_n C 1 dX4_without_43 rfl rfl (pc2 := 44) rfl ?_
        refine pk_get (v := .ref (rf 3)) C i4_ (pw_atX 0 rfl) (ci := 4) rfl 3 (by decide) w3_ rfl rfl dX4_without_44 (pc2 := 47) rfl ?_
        refine pk_dV (cx := [((rf 3), cC (rf 5) n4_), ((rf 5), cS n5_)]) (wr := [(x, cA rf ar), ((rf 0), .inl ((zG Z).2.2.2.2, 6, .inr (.inr (.inr (.inr pr))))), ((rf 1), .inl ((zG Z).2.2.2.1, 40, .inr (.inr (.inr (.inr er))))), ((rf 2), cC (rf 4) n2_), ((rf 4), cS n3_)]) (X2 := (aX (zG Z) x rf ar pr er n2_ n3_ n4_ n5_)) (st := []) (st2 := [.long (m_X0_bookOrNone n4_ n5_)]) (As := []) C (c_X0_bookOrNone (zl Z) (zG Z) L F (rf 3) (rf 5) n4_ n5_) gX4_without_X0_bookOrNone rfl rfl rfl 0 (by decide +kernel) ⟨Nat.le_of_ble_eq_true rfl, Nat.le_of_ble_eq_true rfl⟩ (pw_atX 5 rfl) rfl rfl rfl (Nat.le_of_ble_eq_true rfl) ⟨Nat.le_of_ble_eq_true rfl, Nat.le_of_ble_eq_true rfl⟩ [5, 6] [0, 1, 2, 3, 4] [0, 1, 2, 3, 4, 5, 6] rfl rfl rfl rfl (by decide) rfl rfl dX4_without_47 (pc2 := 50) rfl rfl ?_
        refine pk_topl (fun n6_ en6_ => ?_)
        subst en1_ en2_ en3_ en4_ en5_ en6_
        unfold m_X4_without_0 at hR
        try simp only [h1_] at hR
        try rw [if_neg h2_] at hR
        try rw [if_pos h3_] at hR
        subst hR
        exact px_ret hE (Nat.le_of_ble_eq_true rfl) (Nat.le_of_ble_eq_true rfl) (fun Q' hE' => pr_long C hE' ⟨⟨rfl, rfl⟩, rfl, rfl, rfl⟩ dX4_without_50)
      ·
        refine pk_lconst (v := 0) C dX4_without_35 (by decide) (pc2 := 36) rfl ?_
        subst en1_
        unfold m_X4_without_0 at hR
        try simp only [h1_] at hR
        try rw [if_neg h2_] at hR
        try rw [if_neg h3_] at hR
        subst hR
        exact px_ret hE (Nat.le_of_ble_eq_true rfl) (Nat.le_of_ble_eq_true rfl) (fun Q' hE' => pr_long C hE' ⟨⟨rfl, rfl⟩, rfl, rfl, rfl⟩ dX4_without_36)
    ·
      subst en1_
      unfold m_X4_without_0 at hR
      try simp only [h1_] at hR
      try rw [if_pos h2_] at hR
      subst hR
      exact px_throw (E := nIAE) C hX hE rfl (is := 154) (text := "no such part or month") (by decide) (Or.inl rfl) w0_ w1_ (fun w h => by first | exact List.mem_cons_of_mem _ (List.mem_append_right _ h) | exact List.mem_cons_of_mem _ (List.mem_append_left _ (List.mem_append_right _ h))) xt_51 xg_51 (by decide +kernel) (by decide +kernel) dX4_without_17 dX4_without_20 dX4_without_21 dX4_without_23 dX4_without_26 (Nat.le_of_ble_eq_true rfl) (Nat.le_of_ble_eq_true rfl) (Nat.le_of_ble_eq_true rfl) (Nat.le_of_ble_eq_true rfl) (Nat.le_of_ble_eq_true rfl) (Nat.le_of_ble_eq_true rfl) ⟨Or.inl ⟨rfl, rfl⟩, rfl, rfl, rfl⟩
set_option maxRecDepth 100000 in
set_option maxHeartbeats 2000000 in
theorem c_X4_without (l : Launch) (hst : l.stackTraces = false) (G : pw_G) (L : List Nat) (F : Nat → va_E) (x : Nat) (rf : Nat → Nat) (u w q : Nat) (ps : Nat → Int64) (ar : AR) (pr : (Nat → Option Nat)) (er : (Nat → Option Nat)) (cf : CR) (tf : SR) (cb : CR) (tb : SR) (pt : PR) (us : Nat → Int32) (es : Nat → Option Nat) (evf : Nat → ER) (i : Int32) (mm : Int32) (hpc : (A_pc ar).toInt ≤ 6) (hpp : ∀ a, m_X4_partOf ar pr er cf tf cb tb i = some a → (pA G L F a u w q pt us es ps evf) ∧ ∃ fm, fm ≤ 35 ∧ P_fi pt = nI fm) : XM l yX4_without wsX4_without ⟨6, 1, 6, 129⟩ G [.ref x, .int i, .int mm] (aX G x rf ar pr er cf tf cb tb) L F 1 6 (ox_d ((m_X4_without ar pr er cf tf cb tb pt us es evf i mm).1) (some (.long ((m_X4_without ar pr er cf tf cb tb pt us es evf i mm).2.1))) (aX G x rf ar pr er ((m_X4_without ar pr er cf tf cb tb pt us es evf i mm).2.2.1) ((m_X4_without ar pr er cf tf cb tb pt us es evf i mm).2.2.2.1) ((m_X4_without ar pr er cf tf cb tb pt us es evf i mm).2.2.2.2.1) ((m_X4_without ar pr er cf tf cb tb pt us es evf i mm).2.2.2.2.2)) L F) := by
  refine xm_entry hst (by decide) rfl rfl (Nat.le_of_ble_eq_true rfl) ?_
  intro Z Q C hl0 hG0 hX hE
  subst hl0
  subst hG0
  exact t0_X4_without C hX hE hpc hpp rfl
def m_X4_total_0 (ar : AR) (pr : (Nat → Option Nat)) (er : (Nat → Option Nat)) (cf : CR) (tf : SR) (cb : CR) (tb : SR) (pt : PR) (us : Nat → Int32) (es : Nat → Option Nat) (evf : Nat → ER) (i : Int32) : Int32 × Int64 :=
  (match (m_X4_partOf ar pr er cf tf cb tb i) with | none => (1, 0) | some p1_ => (0, (P_pa pt)))
def m_X4_total (ar : AR) (pr : (Nat → Option Nat)) (er : (Nat → Option Nat)) (cf : CR) (tf : SR) (cb : CR) (tb : SR) (pt : PR) (us : Nat → Int32) (es : Nat → Option Nat) (evf : Nat → ER) (i : Int32) : Int32 × Int64 := m_X4_total_0 ar pr er cf tf cb tb pt us es evf i
set_option maxRecDepth 100000 in
set_option maxHeartbeats 2000000 in
theorem t0_X4_total {Z : pw_Z} {Q : State → Prop} {L : List Nat} {F : Nat → va_E} {x : Nat} {rf : Nat → Nat} {u w q : Nat} {ps : Nat → Int64} {ar : AR} {pr : (Nat → Option Nat)} {er : (Nat → Option Nat)} {cf : CR} {tf : SR} {cb : CR} {tb : SR} {pt : PR} {us : Nat → Int32} {es : Nat → Option Nat} {evf : Nat → ER} {i : Int32} (C : pw_C Z cX4_total 3 RX4 wsX4_total ⟨6, 1, 6, 82⟩ (some .long)) (hX : pw_CX Z) {X9 : va_W} {R : Int32 × Int64} (hE : pw_EndX Z Q X9 L F (ox_d (R.1) (some (.long (R.2))) (aX (zG Z) x rf ar pr er cf tf cb tb) L F) 1 6) (hpc : (A_pc ar).toInt ≤ 6) (hpp : ∀ a, m_X4_partOf ar pr er cf tf cb tb i = some a → (pA (zG Z) L F a u w q pt us es ps evf) ∧ ∃ fm, fm ≤ 35 ∧ P_fi pt = nI fm) (hR : m_X4_total_0 ar pr er cf tf cb tb pt us es evf i = R) : PW Z (aX (zG Z) x rf ar pr er cf tf cb tb) L F 0 0 Q 0 [(0, .ref x), (1, .int i)] [] := by
  have i2_ : ∀ w ∈ wsX20, w ∈ wsX4_total := by decide +kernel
  have w0_ : Cond.classLink RX4 47 nIAE ∈ wsX4_total := by decide +kernel
  have w1_ : Cond.initialized nIAE ∈ wsX4_total := by decide +kernel
  have w2_ : Cond.fieldLink RX4 174 "AgedAssets$Part" "postedInAll" "J" ∈ wsX4_total := by decide +kernel
  refine pk_aload_n C 0 dX4_total_0 rfl rfl (pc2 := 1) rfl ?_
  refine pk_iload_n C 1 dX4_total_1 rfl rfl (pc2 := 2) rfl ?_
  refine pk_dV (cx := (aX (zG Z) x rf ar pr er cf tf cb tb)) (wr := []) (X2 := (aX (zG Z) x rf ar pr er cf tf cb tb)) (st := []) (st2 := [(va_rf (m_X4_partOf ar pr er cf tf cb tb i))]) (As := [.int i]) C (c_X4_partOf (zl Z) (zG Z) L F x rf ar pr er cf tf cb tb i hpc) gX4_total_X4_partOf rfl rfl rfl 1 (by decide +kernel) ⟨Nat.le_of_ble_eq_true rfl, Nat.le_of_ble_eq_true rfl⟩ (pw_atX 0 rfl) rfl rfl rfl (Nat.le_of_ble_eq_true rfl) ⟨Nat.le_of_ble_eq_true rfl, Nat.le_of_ble_eq_true rfl⟩ [0, 1, 2, 3, 4, 5, 6] [] [0, 1, 2, 3, 4, 5, 6] rfl rfl rfl rfl (by decide) rfl rfl dX4_total_2 (pc2 := 5) rfl rfl ?_
  rcases h1_ : (m_X4_partOf ar pr er cf tf cb tb i) with _ | p1_
  ·
    refine pk_astore_nN (lv' := [(2, .null), (0, .ref x), (1, .int i)]) C dX4_total_5 rfl (by decide) rfl (pc2 := 6) rfl ?_
    refine pk_aload_nN C 0 dX4_total_6 rfl rfl (pc2 := 7) rfl ?_
    refine pk_ifnonnull_n C dX4_total_7 (pc2 := 10) rfl ?_
    unfold m_X4_total_0 at hR
    try simp only [h1_] at hR
    subst hR
    exact px_throw (E := nIAE) C hX hE rfl (is := 177) (text := "no such part") (by decide) (Or.inl rfl) w0_ w1_ (fun w h => by first | exact List.mem_cons_of_mem _ (List.mem_append_right _ h) | exact List.mem_cons_of_mem _ (List.mem_append_left _ (List.mem_append_right _ h))) xt_51 xg_51 (by decide +kernel) (by decide +kernel) dX4_total_10 dX4_total_13 dX4_total_14 dX4_total_16 dX4_total_19 (Nat.le_of_ble_eq_true rfl) (Nat.le_of_ble_eq_true rfl) (Nat.le_of_ble_eq_true rfl) (Nat.le_of_ble_eq_true rfl) (Nat.le_of_ble_eq_true rfl) (Nat.le_of_ble_eq_true rfl) ⟨Or.inl ⟨rfl, rfl⟩, rfl, rfl, rfl⟩
  ·
    have hxp1_ := hpp _ h1_
    obtain ⟨hp1_, fm_, hfm_, hfi_⟩ := hxp1_
    refine pk_astore_n (lv' := [(2, .ref p1_), (0, .ref x), (1, .int i)]) C dX4_total_5 rfl (by decide) rfl (pc2 := 6) rfl ?_
    refine pk_aload_n C 0 dX4_total_6 rfl rfl (pc2 := 7) rfl ?_
    refine pk_ifnonnull_r (tgt := 20) C dX4_total_7 (by decide) ?_
    refine pk_aload_n C 0 dX4_total_20 rfl rfl (pc2 := 21) rfl ?_
    refine pk_get (v := .long (P_pa pt)) C i2_ (pw_atP hp1_.1.1 hp1_.1.2) (ci := 2) rfl 10 (by decide) w2_ rfl rfl dX4_total_21 (pc2 := 24) rfl ?_
    unfold m_X4_total_0 at hR
    try simp only [h1_] at hR
    subst hR
    exact px_ret hE (Nat.le_of_ble_eq_true rfl) (Nat.le_of_ble_eq_true rfl) (fun Q' hE' => pr_long C hE' ⟨⟨rfl, rfl⟩, rfl, rfl, rfl⟩ dX4_total_24)
set_option maxRecDepth 100000 in
set_option maxHeartbeats 2000000 in
theorem c_X4_total (l : Launch) (hst : l.stackTraces = false) (G : pw_G) (L : List Nat) (F : Nat → va_E) (x : Nat) (rf : Nat → Nat) (u w q : Nat) (ps : Nat → Int64) (ar : AR) (pr : (Nat → Option Nat)) (er : (Nat → Option Nat)) (cf : CR) (tf : SR) (cb : CR) (tb : SR) (pt : PR) (us : Nat → Int32) (es : Nat → Option Nat) (evf : Nat → ER) (i : Int32) (hpc : (A_pc ar).toInt ≤ 6) (hpp : ∀ a, m_X4_partOf ar pr er cf tf cb tb i = some a → (pA G L F a u w q pt us es ps evf) ∧ ∃ fm, fm ≤ 35 ∧ P_fi pt = nI fm) : XM l yX4_total wsX4_total ⟨6, 1, 6, 82⟩ G [.ref x, .int i] (aX G x rf ar pr er cf tf cb tb) L F 1 6 (ox_d ((m_X4_total ar pr er cf tf cb tb pt us es evf i).1) (some (.long ((m_X4_total ar pr er cf tf cb tb pt us es evf i).2))) (aX G x rf ar pr er cf tf cb tb) L F) := by
  refine xm_entry hst (by decide) rfl rfl (Nat.le_of_ble_eq_true rfl) ?_
  intro Z Q C hl0 hG0 hX hE
  subst hl0
  subst hG0
  exact t0_X4_total C hX hE hpc hpp rfl
def m_X4_posted_0 (ar : AR) (pr : (Nat → Option Nat)) (er : (Nat → Option Nat)) (cf : CR) (tf : SR) (cb : CR) (tb : SR) (pt : PR) (us : Nat → Int32) (es : Nat → Option Nat) (evf : Nat → ER) (ps : Nat → Int64) (i : Int32) (mm : Int32) : Int32 × Int64 :=
  (match (m_X4_partOf ar pr er cf tf cb tb i) with | none => (1, 0) | some p1_ => if (m_X4_isMonth mm) = 0 then (1, 0) else (0, (ps (Int32.toNatClampNeg mm))))
def m_X4_posted (ar : AR) (pr : (Nat → Option Nat)) (er : (Nat → Option Nat)) (cf : CR) (tf : SR) (cb : CR) (tb : SR) (pt : PR) (us : Nat → Int32) (es : Nat → Option Nat) (evf : Nat → ER) (ps : Nat → Int64) (i : Int32) (mm : Int32) : Int32 × Int64 := m_X4_posted_0 ar pr er cf tf cb tb pt us es evf ps i mm
set_option maxRecDepth 100000 in
set_option maxHeartbeats 2000000 in
theorem t0_X4_posted {Z : pw_Z} {Q : State → Prop} {L : List Nat} {F : Nat → va_E} {x : Nat} {rf : Nat → Nat} {u w q : Nat} {ar : AR} {pr : (Nat → Option Nat)} {er : (Nat → Option Nat)} {cf : CR} {tf : SR} {cb : CR} {tb : SR} {pt : PR} {us : Nat → Int32} {es : Nat → Option Nat} {evf : Nat → ER} {ps : Nat → Int64} {i : Int32} {mm : Int32} (C : pw_C Z cX4_posted 4 RX4 wsX4_posted ⟨6, 1, 6, 82⟩ (some .long)) (hX : pw_CX Z) {X9 : va_W} {R : Int32 × Int64} (hE : pw_EndX Z Q X9 L F (ox_d (R.1) (some (.long (R.2))) (aX (zG Z) x rf ar pr er cf tf cb tb) L F) 1 6) (hpc : (A_pc ar).toInt ≤ 6) (hpp : ∀ a, m_X4_partOf ar pr er cf tf cb tb i = some a → (pA (zG Z) L F a u w q pt us es ps evf) ∧ ∃ fm, fm ≤ 35 ∧ P_fi pt = nI fm) (hR : m_X4_posted_0 ar pr er cf tf cb tb pt us es evf ps i mm = R) : PW Z (aX (zG Z) x rf ar pr er cf tf cb tb) L F 0 0 Q 0 [(0, .ref x), (1, .int i), (2, .int mm)] [] := by
  have i2_ : ∀ w ∈ wsX20, w ∈ wsX4_posted := by decide +kernel
  have w0_ : Cond.classLink RX4 47 nIAE ∈ wsX4_posted := by decide +kernel
  have w1_ : Cond.initialized nIAE ∈ wsX4_posted := by decide +kernel
  have w2_ : Cond.fieldLink RX4 167 "AgedAssets$Part" "postedIn" "[J" ∈ wsX4_posted := by decide +kernel
  refine pk_aload_n C 0 dX4_posted_0 rfl rfl (pc2 := 1) rfl ?_
  refine pk_iload_n C 1 dX4_posted_1 rfl rfl (pc2 := 2) rfl ?_
  refine pk_dV (cx := (aX (zG Z) x rf ar pr er cf tf cb tb)) (wr := []) (X2 := (aX (zG Z) x rf ar pr er cf tf cb tb)) (st := []) (st2 := [(va_rf (m_X4_partOf ar pr er cf tf cb tb i))]) (As := [.int i]) C (c_X4_partOf (zl Z) (zG Z) L F x rf ar pr er cf tf cb tb i hpc) gX4_posted_X4_partOf rfl rfl rfl 1 (by decide +kernel) ⟨Nat.le_of_ble_eq_true rfl, Nat.le_of_ble_eq_true rfl⟩ (pw_atX 0 rfl) rfl rfl rfl (Nat.le_of_ble_eq_true rfl) ⟨Nat.le_of_ble_eq_true rfl, Nat.le_of_ble_eq_true rfl⟩ [0, 1, 2, 3, 4, 5, 6] [] [0, 1, 2, 3, 4, 5, 6] rfl rfl rfl rfl (by decide) rfl rfl dX4_posted_2 (pc2 := 5) rfl rfl ?_
  rcases h1_ : (m_X4_partOf ar pr er cf tf cb tb i) with _ | p1_
  ·
    refine pk_astore_nN (lv' := [(3, .null), (0, .ref x), (1, .int i), (2, .int mm)]) C dX4_posted_5 rfl (by decide) rfl (pc2 := 6) rfl ?_
    refine pk_aload_nN C 0 dX4_posted_6 rfl rfl (pc2 := 7) rfl ?_
    refine pk_ifnull_n (tgt := 17) C dX4_posted_7 (by decide) ?_
    unfold m_X4_posted_0 at hR
    try simp only [h1_] at hR
    subst hR
    exact px_throw (E := nIAE) C hX hE rfl (is := 154) (text := "no such part or month") (by decide) (Or.inl rfl) w0_ w1_ (fun w h => by first | exact List.mem_cons_of_mem _ (List.mem_append_right _ h) | exact List.mem_cons_of_mem _ (List.mem_append_left _ (List.mem_append_right _ h))) xt_51 xg_51 (by decide +kernel) (by decide +kernel) dX4_posted_17 dX4_posted_20 dX4_posted_21 dX4_posted_23 dX4_posted_26 (Nat.le_of_ble_eq_true rfl) (Nat.le_of_ble_eq_true rfl) (Nat.le_of_ble_eq_true rfl) (Nat.le_of_ble_eq_true rfl) (Nat.le_of_ble_eq_true rfl) (Nat.le_of_ble_eq_true rfl) ⟨Or.inl ⟨rfl, rfl⟩, rfl, rfl, rfl⟩
  ·
    have hxp1_ := hpp _ h1_
    obtain ⟨hp1_, fm_, hfm_, hfi_⟩ := hxp1_
    refine pk_astore_n (lv' := [(3, .ref p1_), (0, .ref x), (1, .int i), (2, .int mm)]) C dX4_posted_5 rfl (by decide) rfl (pc2 := 6) rfl ?_
    refine pk_aload_n C 0 dX4_posted_6 rfl rfl (pc2 := 7) rfl ?_
    refine pk_ifnull_r C dX4_posted_7 (pc2 := 10) rfl ?_
    refine pk_iload_n C 3 dX4_posted_10 rfl rfl (pc2 := 11) rfl ?_
    refine pk_dS (cx := []) (wr := (aX (zG Z) x rf ar pr er cf tf cb tb)) (X2 := (aX (zG Z) x rf ar pr er cf tf cb tb)) (st := []) (st2 := [.int (m_X4_isMonth mm)]) (As := [.int mm]) C (c_X4_isMonth (zl Z) (zG Z) L F mm) gX4_posted_X4_isMonth rfl rfl rfl 1 (by decide +kernel) ⟨Nat.le_of_ble_eq_true rfl, Nat.le_of_ble_eq_true rfl⟩ rfl rfl (Nat.le_of_ble_eq_true rfl) ⟨Nat.le_of_ble_eq_true rfl, Nat.le_of_ble_eq_true rfl⟩ [] [0, 1, 2, 3, 4, 5, 6] [0, 1, 2, 3, 4, 5, 6] rfl rfl rfl rfl (by decide) rfl rfl dX4_posted_11 (pc2 := 14) rfl rfl ?_
    refine pk_topi (fun n1_ en1_ => ?_)
    refine pk_if_ne (tgt := 27) C dX4_posted_14 (by decide) (pc2 := 17) rfl (fun h2_ => ?_) (fun h2_ => ?_)
    ·
      have hmm_ := isMonth4_in (p := mm) (by rw [← en1_]; exact h2_)
      have hm36 := mi_36 hmm_
      refine pk_aload_n C 0 dX4_posted_27 rfl rfl (pc2 := 28) rfl ?_
      refine pk_get (v := .ref q) C i2_ (pw_atP hp1_.1.1 hp1_.1.2) (ci := 2) rfl 8 (by decide) w2_ rfl rfl dX4_posted_28 (pc2 := 31) rfl ?_
      refine pk_iload_n C 3 dX4_posted_31 rfl rfl (pc2 := 32) rfl ?_
      refine pk_lald (v := (ps (Int32.toNatClampNeg mm))) C (pw_atP hp1_.2.2.2.1.1 hp1_.2.2.2.1.2) hm36 rfl dX4_posted_32 (pc2 := 33) rfl ?_
      subst en1_
      unfold m_X4_posted_0 at hR
      try simp only [h1_] at hR
      try rw [if_neg h2_] at hR
      subst hR
      exact px_ret hE (Nat.le_of_ble_eq_true rfl) (Nat.le_of_ble_eq_true rfl) (fun Q' hE' => pr_long C hE' ⟨⟨rfl, rfl⟩, rfl, rfl, rfl⟩ dX4_posted_33)
    ·
      subst en1_
      unfold m_X4_posted_0 at hR
      try simp only [h1_] at hR
      try rw [if_pos h2_] at hR
      subst hR
      exact px_throw (E := nIAE) C hX hE rfl (is := 154) (text := "no such part or month") (by decide) (Or.inl rfl) w0_ w1_ (fun w h => by first | exact List.mem_cons_of_mem _ (List.mem_append_right _ h) | exact List.mem_cons_of_mem _ (List.mem_append_left _ (List.mem_append_right _ h))) xt_51 xg_51 (by decide +kernel) (by decide +kernel) dX4_posted_17 dX4_posted_20 dX4_posted_21 dX4_posted_23 dX4_posted_26 (Nat.le_of_ble_eq_true rfl) (Nat.le_of_ble_eq_true rfl) (Nat.le_of_ble_eq_true rfl) (Nat.le_of_ble_eq_true rfl) (Nat.le_of_ble_eq_true rfl) (Nat.le_of_ble_eq_true rfl) ⟨Or.inl ⟨rfl, rfl⟩, rfl, rfl, rfl⟩
set_option maxRecDepth 100000 in
set_option maxHeartbeats 2000000 in
theorem c_X4_posted (l : Launch) (hst : l.stackTraces = false) (G : pw_G) (L : List Nat) (F : Nat → va_E) (x : Nat) (rf : Nat → Nat) (u w q : Nat) (ar : AR) (pr : (Nat → Option Nat)) (er : (Nat → Option Nat)) (cf : CR) (tf : SR) (cb : CR) (tb : SR) (pt : PR) (us : Nat → Int32) (es : Nat → Option Nat) (evf : Nat → ER) (ps : Nat → Int64) (i : Int32) (mm : Int32) (hpc : (A_pc ar).toInt ≤ 6) (hpp : ∀ a, m_X4_partOf ar pr er cf tf cb tb i = some a → (pA G L F a u w q pt us es ps evf) ∧ ∃ fm, fm ≤ 35 ∧ P_fi pt = nI fm) : XM l yX4_posted wsX4_posted ⟨6, 1, 6, 82⟩ G [.ref x, .int i, .int mm] (aX G x rf ar pr er cf tf cb tb) L F 1 6 (ox_d ((m_X4_posted ar pr er cf tf cb tb pt us es evf ps i mm).1) (some (.long ((m_X4_posted ar pr er cf tf cb tb pt us es evf ps i mm).2))) (aX G x rf ar pr er cf tf cb tb) L F) := by
  refine xm_entry hst (by decide) rfl rfl (Nat.le_of_ble_eq_true rfl) ?_
  intro Z Q C hl0 hG0 hX hE
  subst hl0
  subst hG0
  exact t0_X4_posted C hX hE hpc hpp rfl

def m_X4_told_0 (ar : AR) (pr : (Nat → Option Nat)) (er : (Nat → Option Nat)) (cf : CR) (tf : SR) (cb : CR) (tb : SR) (evf : Nat → ER) (e : Int32) (wh : Int32) : Int32 :=
  (match (m_X4_eventOf ar pr er cf tf cb tb e) with | none => (-1) | some e1_ => if wh = 0 then (E_pn (evf e1_)) else if wh = 1 then (E_mo (evf e1_)) else if wh = 2 then (E_ki (evf e1_)) else if wh = 3 then (E_nu (evf e1_)) else (-1))
def m_X4_told (ar : AR) (pr : (Nat → Option Nat)) (er : (Nat → Option Nat)) (cf : CR) (tf : SR) (cb : CR) (tb : SR) (evf : Nat → ER) (e : Int32) (wh : Int32) : Int32 := m_X4_told_0 ar pr er cf tf cb tb evf e wh
set_option maxRecDepth 100000 in
set_option maxHeartbeats 2000000 in
theorem t0_X4_told {Z : pw_Z} {Q : State → Prop} {L : List Nat} {F : Nat → va_E} {x : Nat} {rf : Nat → Nat}  {ar : AR} {pr : (Nat → Option Nat)} {er : (Nat → Option Nat)} {cf : CR} {tf : SR} {cb : CR} {tb : SR} {evf : Nat → ER} {e : Int32} {wh : Int32} (C : pw_C Z cX4_told 4 RX4 wsX4_told ⟨1, 0, 0, 21⟩ (some .int)) {X9 : va_W} {R : Int32} (hE : pw_End Z Q X9 L F (po_d (some (.int R)) (aX (zG Z) x rf ar pr er cf tf cb tb) L F) 0 0) (hec : (A_ec ar).toInt ≤ 40) (hee : ∀ a, m_X4_eventOf ar pr er cf tf cb tb e = some a → (a ∈ L ∧ F a = cE (evf a)) ∧ vp_in (E_mo (evf a)) 36 ∧ vp_in e 40) (hR : m_X4_told_0 ar pr er cf tf cb tb evf e wh = R) : PW Z (aX (zG Z) x rf ar pr er cf tf cb tb) L F 0 0 Q 0 [(0, .ref x), (1, .int e), (2, .int wh)] [] := by
  have i1_ : ∀ w ∈ wsX10, w ∈ wsX4_told := by decide +kernel
  have w0_ : Cond.fieldLink RX4 111 "AgedAssets$Event" "partNumber" "I" ∈ wsX4_told := by decide +kernel
  have w1_ : Cond.fieldLink RX4 114 "AgedAssets$Event" "month" "I" ∈ wsX4_told := by decide +kernel
  have w2_ : Cond.fieldLink RX4 117 "AgedAssets$Event" "kind" "I" ∈ wsX4_told := by decide +kernel
  have w3_ : Cond.fieldLink RX4 120 "AgedAssets$Event" "number" "I" ∈ wsX4_told := by decide +kernel
  refine pk_aload_n C 0 dX4_told_0 rfl rfl (pc2 := 1) rfl ?_
  refine pk_iload_n C 1 dX4_told_1 rfl rfl (pc2 := 2) rfl ?_
  refine pk_dV (cx := (aX (zG Z) x rf ar pr er cf tf cb tb)) (wr := []) (X2 := (aX (zG Z) x rf ar pr er cf tf cb tb)) (st := []) (st2 := [(va_rf (m_X4_eventOf ar pr er cf tf cb tb e))]) (As := [.int e]) C (c_X4_eventOf (zl Z) (zG Z) L F x rf ar pr er cf tf cb tb e hec) gX4_told_X4_eventOf rfl rfl rfl 1 (by decide +kernel) ⟨Nat.le_of_ble_eq_true rfl, Nat.le_of_ble_eq_true rfl⟩ (pw_atX 0 rfl) rfl rfl rfl (Nat.le_of_ble_eq_true rfl) ⟨Nat.le_of_ble_eq_true rfl, Nat.le_of_ble_eq_true rfl⟩ [0, 1, 2, 3, 4, 5, 6] [] [0, 1, 2, 3, 4, 5, 6] rfl rfl rfl rfl (by decide) rfl rfl dX4_told_2 (pc2 := 5) rfl rfl ?_
  rcases h1_ : (m_X4_eventOf ar pr er cf tf cb tb e) with _ | e1_
  ·
    refine pk_astore_nN (lv' := [(3, .null), (0, .ref x), (1, .int e), (2, .int wh)]) C dX4_told_5 rfl (by decide) rfl (pc2 := 6) rfl ?_
    refine pk_aload_nN C 0 dX4_told_6 rfl rfl (pc2 := 7) rfl ?_
    refine pk_ifnonnull_n C dX4_told_7 (pc2 := 10) rfl ?_
    refine pk_iconst (v := -1) C dX4_told_10 (by decide) (pc2 := 11) rfl ?_
    unfold m_X4_told_0 at hR
    try simp only [h1_] at hR
    subst hR
    exact pr_int (ty := .int) C hE rfl rfl (po_d_rfl rfl rfl) dX4_told_11
  ·
    obtain ⟨he1_, hm36, he40⟩ := hee _ h1_
    refine pk_astore_n (lv' := [(3, .ref e1_), (0, .ref x), (1, .int e), (2, .int wh)]) C dX4_told_5 rfl (by decide) rfl (pc2 := 6) rfl ?_
    refine pk_aload_n C 0 dX4_told_6 rfl rfl (pc2 := 7) rfl ?_
    refine pk_ifnonnull_r (tgt := 12) C dX4_told_7 (by decide) ?_
    refine pk_iload_n C 3 dX4_told_12 rfl rfl (pc2 := 13) rfl ?_
    by_cases h2_ : wh = 0
    ·
      refine pk_tableIn (tgt := 44) C dX4_told_13 (by rw [h2_]; decide) (by rw [h2_]; decide) (by rw [h2_]; first | done | rfl) (by decide) ?_
      refine pk_aload_n C 0 dX4_told_44 rfl rfl (pc2 := 45) rfl ?_
      refine pk_get (v := .int (E_pn (evf e1_))) C i1_ (pw_atP he1_.1 he1_.2) (ci := 1) rfl 0 (by decide) w0_ rfl rfl dX4_told_45 (pc2 := 48) rfl ?_
      unfold m_X4_told_0 at hR
      try simp only [h1_] at hR
      try rw [if_pos h2_] at hR
      subst hR
      exact pr_int (ty := .int) C hE rfl rfl (po_d_rfl rfl rfl) dX4_told_48
    by_cases h3_ : wh = 1
    ·
      refine pk_tableIn (tgt := 49) C dX4_told_13 (by rw [h3_]; decide) (by rw [h3_]; decide) (by rw [h3_]; first | done | rfl) (by decide) ?_
      refine pk_aload_n C 0 dX4_told_49 rfl rfl (pc2 := 50) rfl ?_
      refine pk_get (v := .int (E_mo (evf e1_))) C i1_ (pw_atP he1_.1 he1_.2) (ci := 1) rfl 1 (by decide) w1_ rfl rfl dX4_told_50 (pc2 := 53) rfl ?_
      unfold m_X4_told_0 at hR
      try simp only [h1_] at hR
      try rw [if_neg h2_] at hR
      try rw [if_pos h3_] at hR
      subst hR
      exact pr_int (ty := .int) C hE rfl rfl (po_d_rfl rfl rfl) dX4_told_53
    by_cases h4_ : wh = 2
    ·
      refine pk_tableIn (tgt := 54) C dX4_told_13 (by rw [h4_]; decide) (by rw [h4_]; decide) (by rw [h4_]; first | done | rfl) (by decide) ?_
      refine pk_aload_n C 0 dX4_told_54 rfl rfl (pc2 := 55) rfl ?_
      refine pk_get (v := .int (E_ki (evf e1_))) C i1_ (pw_atP he1_.1 he1_.2) (ci := 1) rfl 2 (by decide) w2_ rfl rfl dX4_told_55 (pc2 := 58) rfl ?_
      unfold m_X4_told_0 at hR
      try simp only [h1_] at hR
      try rw [if_neg h2_] at hR
      try rw [if_neg h3_] at hR
      try rw [if_pos h4_] at hR
      subst hR
      exact pr_int (ty := .int) C hE rfl rfl (po_d_rfl rfl rfl) dX4_told_58
    by_cases h5_ : wh = 3
    ·
      refine pk_tableIn (tgt := 59) C dX4_told_13 (by rw [h5_]; decide) (by rw [h5_]; decide) (by rw [h5_]; first | done | rfl) (by decide) ?_
      refine pk_aload_n C 0 dX4_told_59 rfl rfl (pc2 := 60) rfl ?_
      refine pk_get (v := .int (E_nu (evf e1_))) C i1_ (pw_atP he1_.1 he1_.2) (ci := 1) rfl 4 (by decide) w3_ rfl rfl dX4_told_60 (pc2 := 63) rfl ?_
      unfold m_X4_told_0 at hR
      try simp only [h1_] at hR
      try rw [if_neg h2_] at hR
      try rw [if_neg h3_] at hR
      try rw [if_neg h4_] at hR
      try rw [if_pos h5_] at hR
      subst hR
      exact pr_int (ty := .int) C hE rfl rfl (po_d_rfl rfl rfl) dX4_told_63
    refine pk_tableOut (tgt := 64) C dX4_told_13 (sw_3 h2_ h3_ h4_ h5_) (by decide) ?_
    refine pk_iconst (v := -1) C dX4_told_64 (by decide) (pc2 := 65) rfl ?_
    unfold m_X4_told_0 at hR
    try simp only [h1_] at hR
    try rw [if_neg h2_] at hR
    try rw [if_neg h3_] at hR
    try rw [if_neg h4_] at hR
    try rw [if_neg h5_] at hR
    subst hR
    exact pr_int (ty := .int) C hE rfl rfl (po_d_rfl rfl rfl) dX4_told_65
set_option maxRecDepth 100000 in
set_option maxHeartbeats 2000000 in
theorem c_X4_told (l : Launch) (G : pw_G) (L : List Nat) (F : Nat → va_E) (x : Nat) (rf : Nat → Nat)  (ar : AR) (pr : (Nat → Option Nat)) (er : (Nat → Option Nat)) (cf : CR) (tf : SR) (cb : CR) (tb : SR) (evf : Nat → ER) (e : Int32) (wh : Int32) (hec : (A_ec ar).toInt ≤ 40) (hee : ∀ a, m_X4_eventOf ar pr er cf tf cb tb e = some a → (a ∈ L ∧ F a = cE (evf a)) ∧ vp_in (E_mo (evf a)) 36 ∧ vp_in e 40) : PM l yX4_told wsX4_told ⟨1, 0, 0, 21⟩ G [.ref x, .int e, .int wh] (aX G x rf ar pr er cf tf cb tb) L F 0 0 (po_d (some (.int (m_X4_told ar pr er cf tf cb tb evf e wh))) (aX G x rf ar pr er cf tf cb tb) L F) := by
  refine pm_entry (by decide) rfl rfl (Nat.le_of_ble_eq_true rfl) ?_
  intro Z Q C hl0 hG0 hnm hE
  subst hl0
  subst hG0
  exact t0_X4_told C hE hec hee rfl
def m_X4_strike_0 (ar : AR) (pr : (Nat → Option Nat)) (er : (Nat → Option Nat)) (cf : CR) (tf : SR) (cb : CR) (tb : SR) (F : (Nat → va_E)) (G : pw_G) (u : Nat) (w : Nat) (q : Nat) (pt : PR) (us : Nat → Int32) (es : Nat → Option Nat) (evf : Nat → ER) (e : Int32) : Int32 × (Nat → Option Nat) × CR × SR × CR × SR × (Nat → va_E) :=
  (match (m_X4_eventOf ar pr er cf tf cb tb e) with | none => (0, er, cf, tf, cb, tb, F) | some e1_ => (match (m_X4_partOf ar pr er cf tf cb tb (E_pn (evf e1_))) with | none => (0, er, cf, tf, cb, tb, F) | some p2_ => if ((m_X4_hasBreach ar pr er cf tf cb tb pt us (va_up es (Int32.toNatClampNeg (E_mo (evf e1_))) none) evf).1) = 0 then (1, (va_up er (Int32.toNatClampNeg e) none), ((m_X4_hasBreach ar pr er cf tf cb tb pt us (va_up es (Int32.toNatClampNeg (E_mo (evf e1_))) none) evf).2.1), ((m_X4_hasBreach ar pr er cf tf cb tb pt us (va_up es (Int32.toNatClampNeg (E_mo (evf e1_))) none) evf).2.2.1), ((m_X4_hasBreach ar pr er cf tf cb tb pt us (va_up es (Int32.toNatClampNeg (E_mo (evf e1_))) none) evf).2.2.2.1), ((m_X4_hasBreach ar pr er cf tf cb tb pt us (va_up es (Int32.toNatClampNeg (E_mo (evf e1_))) none) evf).2.2.2.2), (va_up (va_up F w (.inl (G.2.2.2.1, 36, .inr (.inr (.inr (.inr (va_up es (Int32.toNatClampNeg (E_mo (evf e1_))) none))))))) p2_ (cP u w q (P_mk (P_co pt) (P_rs pt) (P_fi pt) (P_li pt) (P_me pt) (P_ra pt) ((P_ec pt) - 1) (P_pa pt))))) else (0, er, ((m_X4_hasBreach ar pr er cf tf cb tb pt us (va_up es (Int32.toNatClampNeg (E_mo (evf e1_))) none) evf).2.1), ((m_X4_hasBreach ar pr er cf tf cb tb pt us (va_up es (Int32.toNatClampNeg (E_mo (evf e1_))) none) evf).2.2.1), ((m_X4_hasBreach ar pr er cf tf cb tb pt us (va_up es (Int32.toNatClampNeg (E_mo (evf e1_))) none) evf).2.2.2.1), ((m_X4_hasBreach ar pr er cf tf cb tb pt us (va_up es (Int32.toNatClampNeg (E_mo (evf e1_))) none) evf).2.2.2.2), (va_up (va_up F w (.inl (G.2.2.2.1, 36, .inr (.inr (.inr (.inr (va_up es (Int32.toNatClampNeg (E_mo (evf e1_))) none))))))) w (.inl (G.2.2.2.1, 36, .inr (.inr (.inr (.inr (va_up (va_up es (Int32.toNatClampNeg (E_mo (evf e1_))) none) (Int32.toNatClampNeg (E_mo (evf e1_))) (some e1_)))))))))))
def m_X4_strike (ar : AR) (pr : (Nat → Option Nat)) (er : (Nat → Option Nat)) (cf : CR) (tf : SR) (cb : CR) (tb : SR) (F : (Nat → va_E)) (G : pw_G) (u : Nat) (w : Nat) (q : Nat) (pt : PR) (us : Nat → Int32) (es : Nat → Option Nat) (evf : Nat → ER) (e : Int32) : Int32 × (Nat → Option Nat) × CR × SR × CR × SR × (Nat → va_E) := m_X4_strike_0 ar pr er cf tf cb tb F G u w q pt us es evf e
set_option maxRecDepth 100000 in
set_option maxHeartbeats 2000000 in
theorem t0_X4_strike {Z : pw_Z} {Q : State → Prop} {L : List Nat}  {x : Nat} {rf : Nat → Nat} {ps : Nat → Int64} {ar : AR} {pr : (Nat → Option Nat)} {er : (Nat → Option Nat)} {cf : CR} {tf : SR} {cb : CR} {tb : SR} {F : (Nat → va_E)} {u : Nat} {w : Nat} {q : Nat} {pt : PR} {us : Nat → Int32} {es : Nat → Option Nat} {evf : Nat → ER} {e : Int32} (C : pw_C Z cX4_strike 4 RX4 wsX4_strike ⟨7, 0, 0, 150⟩ (some .boolean)) {X9 : va_W} {F9 : Nat → va_E} {R : Int32 × (Nat → Option Nat) × CR × SR × CR × SR × (Nat → va_E)} (hE : pw_End Z Q X9 L F9 (po_d (some (.int (R.1))) (aX (zG Z) x rf ar pr (R.2.1) (R.2.2.1) (R.2.2.2.1) (R.2.2.2.2.1) (R.2.2.2.2.2.1)) L (R.2.2.2.2.2.2)) 0 0) (hpc : (A_pc ar).toInt ≤ 6) (hec : (A_ec ar).toInt ≤ 40) (hee : ∀ a, m_X4_eventOf ar pr er cf tf cb tb e = some a → (a ∈ L ∧ F a = cE (evf a)) ∧ vp_in (E_mo (evf a)) 36 ∧ vp_in e 40) (hpe : ∀ a, m_X4_eventOf ar pr er cf tf cb tb e = some a → ∀ b, m_X4_partOf ar pr er cf tf cb tb (E_pn (evf a)) = some b → (pA (zG Z) L F b u w q pt us es ps evf) ∧ ∃ fm, fm ≤ 35 ∧ P_fi pt = nI fm) (hR : m_X4_strike_0 ar pr er cf tf cb tb F (zG Z) u w q pt us es evf e = R) : PW Z (aX (zG Z) x rf ar pr er cf tf cb tb) L F 0 0 Q 0 [(0, .ref x), (1, .int e)] [] := by
  have i1_ : ∀ w ∈ wsX10, w ∈ wsX4_strike := by decide +kernel
  have i2_ : ∀ w ∈ wsX20, w ∈ wsX4_strike := by decide +kernel
  have i4_ : ∀ w ∈ wsX40, w ∈ wsX4_strike := by decide +kernel
  have w0_ : Cond.fieldLink RX4 111 "AgedAssets$Event" "partNumber" "I" ∈ wsX4_strike := by decide +kernel
  have w1_ : Cond.fieldLink RX4 93 "AgedAssets$Part" "eventIn" "[LAgedAssets$Event;" ∈ wsX4_strike := by decide +kernel
  have w2_ : Cond.fieldLink RX4 114 "AgedAssets$Event" "month" "I" ∈ wsX4_strike := by decide +kernel
  have w3_ : Cond.fieldLink RX4 96 "AgedAssets$Part" "eventCount" "I" ∈ wsX4_strike := by decide +kernel
  have w4_ : Cond.fieldLink RX4 17 "AgedAssets" "eventRow" "[LAgedAssets$Event;" ∈ wsX4_strike := by decide +kernel
  refine pk_aload_n C 0 dX4_strike_0 rfl rfl (pc2 := 1) rfl ?_
  refine pk_iload_n C 1 dX4_strike_1 rfl rfl (pc2 := 2) rfl ?_
  refine pk_dV (cx := (aX (zG Z) x rf ar pr er cf tf cb tb)) (wr := []) (X2 := (aX (zG Z) x rf ar pr er cf tf cb tb)) (st := []) (st2 := [(va_rf (m_X4_eventOf ar pr er cf tf cb tb e))]) (As := [.int e]) C (c_X4_eventOf (zl Z) (zG Z) L F x rf ar pr er cf tf cb tb e hec) gX4_strike_X4_eventOf rfl rfl rfl 1 (by decide +kernel) ⟨Nat.le_of_ble_eq_true rfl, Nat.le_of_ble_eq_true rfl⟩ (pw_atX 0 rfl) rfl rfl rfl (Nat.le_of_ble_eq_true rfl) ⟨Nat.le_of_ble_eq_true rfl, Nat.le_of_ble_eq_true rfl⟩ [0, 1, 2, 3, 4, 5, 6] [] [0, 1, 2, 3, 4, 5, 6] rfl rfl rfl rfl (by decide) rfl rfl dX4_strike_2 (pc2 := 5) rfl rfl ?_
  rcases h1_ : (m_X4_eventOf ar pr er cf tf cb tb e) with _ | e1_
  ·
    refine pk_astore_nN (lv' := [(2, .null), (0, .ref x), (1, .int e)]) C dX4_strike_5 rfl (by decide) rfl (pc2 := 6) rfl ?_
    refine pk_aload_nN C 0 dX4_strike_6 rfl rfl (pc2 := 7) rfl ?_
    refine pk_ifnonnull_n C dX4_strike_7 (pc2 := 10) rfl ?_
    refine pk_iconst (v := 0) C dX4_strike_10 (by decide) (pc2 := 11) rfl ?_
    unfold m_X4_strike_0 at hR
    try simp only [h1_] at hR
    subst hR
    exact pr_int (ty := .boolean) C hE rfl rfl (po_d_rfl rfl rfl) dX4_strike_11
  ·
    obtain ⟨he1_, hm36, he40⟩ := hee _ h1_
    refine pk_astore_n (lv' := [(2, .ref e1_), (0, .ref x), (1, .int e)]) C dX4_strike_5 rfl (by decide) rfl (pc2 := 6) rfl ?_
    refine pk_aload_n C 0 dX4_strike_6 rfl rfl (pc2 := 7) rfl ?_
    refine pk_ifnonnull_r (tgt := 12) C dX4_strike_7 (by decide) ?_
    refine pk_aload_n C 1 dX4_strike_12 rfl rfl (pc2 := 13) rfl ?_
    refine pk_aload_n C 0 dX4_strike_13 rfl rfl (pc2 := 14) rfl ?_
    refine pk_get (v := .int (E_pn (evf e1_))) C i1_ (pw_atP he1_.1 he1_.2) (ci := 1) rfl 0 (by decide) w0_ rfl rfl dX4_strike_14 (pc2 := 17) rfl ?_
    refine pk_dV (cx := (aX (zG Z) x rf ar pr er cf tf cb tb)) (wr := []) (X2 := (aX (zG Z) x rf ar pr er cf tf cb tb)) (st := []) (st2 := [(va_rf (m_X4_partOf ar pr er cf tf cb tb (E_pn (evf e1_))))]) (As := [.int (E_pn (evf e1_))]) C (c_X4_partOf (zl Z) (zG Z) L F x rf ar pr er cf tf cb tb (E_pn (evf e1_)) hpc) gX4_strike_X4_partOf rfl rfl rfl 1 (by decide +kernel) ⟨Nat.le_of_ble_eq_true rfl, Nat.le_of_ble_eq_true rfl⟩ (pw_atX 0 rfl) rfl rfl rfl (Nat.le_of_ble_eq_true rfl) ⟨Nat.le_of_ble_eq_true rfl, Nat.le_of_ble_eq_true rfl⟩ [0, 1, 2, 3, 4, 5, 6] [] [0, 1, 2, 3, 4, 5, 6] rfl rfl rfl rfl (by decide) rfl rfl dX4_strike_17 (pc2 := 20) rfl rfl ?_
    rcases h2_ : (m_X4_partOf ar pr er cf tf cb tb (E_pn (evf e1_))) with _ | p2_
    ·
      refine pk_astore_nN (lv' := [(3, .null), (2, .ref e1_), (0, .ref x), (1, .int e)]) C dX4_strike_20 rfl (by decide) rfl (pc2 := 21) rfl ?_
      refine pk_aload_nN C 0 dX4_strike_21 rfl rfl (pc2 := 22) rfl ?_
      refine pk_ifnonnull_n C dX4_strike_22 (pc2 := 25) rfl ?_
      refine pk_iconst (v := 0) C dX4_strike_25 (by decide) (pc2 := 26) rfl ?_
      unfold m_X4_strike_0 at hR
      try simp only [h1_] at hR
      try simp only [h2_] at hR
      subst hR
      exact pr_int (ty := .boolean) C hE rfl rfl (po_d_rfl rfl rfl) dX4_strike_26
    ·
      obtain ⟨hp2_, fm_, hfm_, hfi_⟩ := hpe _ h1_ _ h2_
      refine pk_astore_n (lv' := [(3, .ref p2_), (2, .ref e1_), (0, .ref x), (1, .int e)]) C dX4_strike_20 rfl (by decide) rfl (pc2 := 21) rfl ?_
      refine pk_aload_n C 0 dX4_strike_21 rfl rfl (pc2 := 22) rfl ?_
      refine pk_ifnonnull_r (tgt := 27) C dX4_strike_22 (by decide) ?_
      refine pk_aload_n C 0 dX4_strike_27 rfl rfl (pc2 := 28) rfl ?_
      refine pk_get (v := .ref w) C i2_ (pw_atP hp2_.1.1 hp2_.1.2) (ci := 2) rfl 7 (by decide) w1_ rfl rfl dX4_strike_28 (pc2 := 31) rfl ?_
      refine pk_aload_n C 1 dX4_strike_31 rfl rfl (pc2 := 32) rfl ?_
      refine pk_get (v := .int (E_mo (evf e1_))) C i1_ (pw_atP he1_.1 he1_.2) (ci := 1) rfl 1 (by decide) w2_ rfl rfl dX4_strike_32 (pc2 := 35) rfl ?_
      refine pk_null C dX4_strike_35 (pc2 := 36) rfl ?_
      refine pk_astEPN C hp2_.2.2.1.1 hp2_.2.2.1.2 hm36 dX4_strike_36 (pc2 := 37) rfl ?_
      have he3_ := pE_w (x := (.inl ((zG Z).2.2.2.1, 36, .inr (.inr (.inr (.inr (va_up es (Int32.toNatClampNeg (E_mo (evf e1_))) none))))))) he1_ hp2_.2.2.1.2
      have hw3_ := pA_es hp2_ (va_up es (Int32.toNatClampNeg (E_mo (evf e1_))) none) (es_none hp2_.2.2.2.2)
      generalize en1_ : (va_up F w (.inl ((zG Z).2.2.2.1, 36, .inr (.inr (.inr (.inr (va_up es (Int32.toNatClampNeg (E_mo (evf e1_))) none))))))) = n1_ at hw3_ he3_ ⊢
      refine pk_aload_n C 2 dX4_strike_37 rfl rfl (pc2 := 38) rfl ?_
      refine pk_aload_n C 0 dX4_strike_38 rfl rfl (pc2 := 39) rfl ?_
      refine pk_dV (cx := (aX (zG Z) x rf ar pr er cf tf cb tb)) (wr := []) (X2 := (aX (zG Z) x rf ar pr er ((m_X4_hasBreach ar pr er cf tf cb tb pt us (va_up es (Int32.toNatClampNeg (E_mo (evf e1_))) none) evf).2.1) ((m_X4_hasBreach ar pr er cf tf cb tb pt us (va_up es (Int32.toNatClampNeg (E_mo (evf e1_))) none) evf).2.2.1) ((m_X4_hasBreach ar pr er cf tf cb tb pt us (va_up es (Int32.toNatClampNeg (E_mo (evf e1_))) none) evf).2.2.2.1) ((m_X4_hasBreach ar pr er cf tf cb tb pt us (va_up es (Int32.toNatClampNeg (E_mo (evf e1_))) none) evf).2.2.2.2))) (st := []) (st2 := [.int ((m_X4_hasBreach ar pr er cf tf cb tb pt us (va_up es (Int32.toNatClampNeg (E_mo (evf e1_))) none) evf).1)]) (As := [.ref p2_]) C (c_X4_hasBreach (zl Z) (zG Z) L n1_ x rf ar pr er cf tf cb tb p2_ u w q pt us (va_up es (Int32.toNatClampNeg (E_mo (evf e1_))) none) ps evf hw3_ fm_ hfm_ hfi_) gX4_strike_X4_hasBreach rfl rfl rfl 1 (by decide +kernel) ⟨Nat.le_of_ble_eq_true rfl, Nat.le_of_ble_eq_true rfl⟩ (pw_atX 0 rfl) rfl rfl rfl (Nat.le_of_ble_eq_true rfl) ⟨Nat.le_of_ble_eq_true rfl, Nat.le_of_ble_eq_true rfl⟩ [0, 1, 2, 3, 4, 5, 6] [] [0, 1, 2, 3, 4, 5, 6] rfl rfl rfl rfl (by decide) rfl rfl dX4_strike_39 (pc2 := 42) rfl rfl ?_
      generalize en2_ : ((m_X4_hasBreach ar pr er cf tf cb tb pt us (va_up es (Int32.toNatClampNeg (E_mo (evf e1_))) none) evf).2.1) = n2_
      generalize en3_ : ((m_X4_hasBreach ar pr er cf tf cb tb pt us (va_up es (Int32.toNatClampNeg (E_mo (evf e1_))) none) evf).2.2.1) = n3_
      generalize en4_ : ((m_X4_hasBreach ar pr er cf tf cb tb pt us (va_up es (Int32.toNatClampNeg (E_mo (evf e1_))) none) evf).2.2.2.1) = n4_
      generalize en5_ : ((m_X4_hasBreach ar pr er cf tf cb tb pt us (va_up es (Int32.toNatClampNeg (E_mo (evf e1_))) none) evf).2.2.2.2) = n5_
      refine pk_topi (fun n6_ en6_ => ?_)
      refine pk_if_eq (tgt := 57) C dX4_strike_42 (by decide) (pc2 := 45) rfl (fun h3_ => ?_) (fun h3_ => ?_)
      ·
        refine pk_aload_n C 0 dX4_strike_57 rfl rfl (pc2 := 58) rfl ?_
        refine pk_dup C dX4_strike_58 rfl (pc2 := 59) rfl ?_
        refine pk_get (v := .int (P_ec pt)) C i2_ (pw_atP hw3_.1.1 hw3_.1.2) (ci := 2) rfl 9 (by decide) w3_ rfl rfl dX4_strike_59 (pc2 := 62) rfl ?_
        refine pk_iconst (v := 1) C dX4_strike_62 (by decide) (pc2 := 63) rfl ?_
        refine pk_isub C dX4_strike_63 (pc2 := 64) rfl ?_
        refine pk_topi (fun n7_ en7_ => ?_)
        refine pk_putP (e := cP u w q (P_mk (P_co pt) (P_rs pt) (P_fi pt) (P_li pt) (P_me pt) (P_ra pt) n7_ (P_pa pt))) C i2_ tyX2_ok nmX2 hw3_.1.1 hw3_.1.2 (ci := 2) rfl 9 (by decide) w3_ rfl rfl rfl rfl rfl (Nat.le_of_ble_eq_true rfl) rfl dX4_strike_64 (pc2 := 67) rfl ?_
        have he4_ := pE_p (x := (cP u w q (P_mk (P_co pt) (P_rs pt) (P_fi pt) (P_li pt) (P_me pt) (P_ra pt) n7_ (P_pa pt)))) he3_ hw3_.1.2
        have hw4_ := pA_pt hw3_ (P_mk (P_co pt) (P_rs pt) (P_fi pt) (P_li pt) (P_me pt) (P_ra pt) n7_ (P_pa pt))
        generalize en8_ : (va_up n1_ p2_ (cP u w q (P_mk (P_co pt) (P_rs pt) (P_fi pt) (P_li pt) (P_me pt) (P_ra pt) n7_ (P_pa pt)))) = n8_ at hw4_ he4_ ⊢
        refine pk_aload_n C 2 dX4_strike_67 rfl rfl (pc2 := 68) rfl ?_
        refine pk_get (v := .ref (rf 1)) C i4_ (pw_atX 0 rfl) (ci := 4) rfl 1 (by decide) w4_ rfl rfl dX4_strike_68 (pc2 := 71) rfl ?_
        refine pk_iload_n C 3 dX4_strike_71 rfl rfl (pc2 := 72) rfl ?_
        refine pk_null C dX4_strike_72 (pc2 := 73) rfl ?_
        refine pk_astEXN (X' := (aX (zG Z) x rf ar pr (va_up er (Int32.toNatClampNeg e) none) n2_ n3_ n4_ n5_)) C 2 rfl he40 rfl dX4_strike_73 (pc2 := 74) rfl ?_
        refine pk_iconst (v := 1) C dX4_strike_74 (by decide) (pc2 := 75) rfl ?_
        subst en1_ en2_ en3_ en4_ en5_ en6_ en7_ en8_
        unfold m_X4_strike_0 at hR
        try simp only [h1_] at hR
        try simp only [h2_] at hR
        try rw [if_pos h3_] at hR
        subst hR
        exact pr_int (ty := .boolean) C hE rfl rfl (po_d_rfl rfl rfl) dX4_strike_75
      ·
        refine pk_aload_n C 0 dX4_strike_45 rfl rfl (pc2 := 46) rfl ?_
        refine pk_get (v := .ref w) C i2_ (pw_atP hw3_.1.1 hw3_.1.2) (ci := 2) rfl 7 (by decide) w1_ rfl rfl dX4_strike_46 (pc2 := 49) rfl ?_
        refine pk_aload_n C 1 dX4_strike_49 rfl rfl (pc2 := 50) rfl ?_
        refine pk_get (v := .int (E_mo (evf e1_))) C i1_ (pw_atP he3_.1 he3_.2) (ci := 1) rfl 1 (by decide) w2_ rfl rfl dX4_strike_50 (pc2 := 53) rfl ?_
        refine pk_aload_n C 1 dX4_strike_53 rfl rfl (pc2 := 54) rfl ?_
        refine pk_astEP C hw3_.2.2.1.1 hw3_.2.2.1.2 (pw_atP he3_.1 he3_.2) hm36 dX4_strike_54 (pc2 := 55) rfl ?_
        have he5_ := pE_w (x := (.inl ((zG Z).2.2.2.1, 36, .inr (.inr (.inr (.inr (va_up (va_up es (Int32.toNatClampNeg (E_mo (evf e1_))) none) (Int32.toNatClampNeg (E_mo (evf e1_))) (some e1_)))))))) he3_ hw3_.2.2.1.2
        have hw5_ := pA_es hw3_ (va_up (va_up es (Int32.toNatClampNeg (E_mo (evf e1_))) none) (Int32.toNatClampNeg (E_mo (evf e1_))) (some e1_)) (es_some hw3_.2.2.2.2 he3_)
        generalize en9_ : (va_up n1_ w (.inl ((zG Z).2.2.2.1, 36, .inr (.inr (.inr (.inr (va_up (va_up es (Int32.toNatClampNeg (E_mo (evf e1_))) none) (Int32.toNatClampNeg (E_mo (evf e1_))) (some e1_)))))))) = n9_ at hw5_ he5_ ⊢
        refine pk_iconst (v := 0) C dX4_strike_55 (by decide) (pc2 := 56) rfl ?_
        subst en1_ en2_ en3_ en4_ en5_ en6_ en9_
        unfold m_X4_strike_0 at hR
        try simp only [h1_] at hR
        try simp only [h2_] at hR
        try rw [if_neg h3_] at hR
        subst hR
        exact pr_int (ty := .boolean) C hE rfl rfl (po_d_rfl rfl rfl) dX4_strike_56
set_option maxRecDepth 100000 in
set_option maxHeartbeats 2000000 in
theorem c_X4_strike (l : Launch) (G : pw_G) (L : List Nat) (F : Nat → va_E) (x : Nat) (rf : Nat → Nat) (ps : Nat → Int64) (ar : AR) (pr : (Nat → Option Nat)) (er : (Nat → Option Nat)) (cf : CR) (tf : SR) (cb : CR) (tb : SR) (u : Nat) (w : Nat) (q : Nat) (pt : PR) (us : Nat → Int32) (es : Nat → Option Nat) (evf : Nat → ER) (e : Int32) (hpc : (A_pc ar).toInt ≤ 6) (hec : (A_ec ar).toInt ≤ 40) (hee : ∀ a, m_X4_eventOf ar pr er cf tf cb tb e = some a → (a ∈ L ∧ F a = cE (evf a)) ∧ vp_in (E_mo (evf a)) 36 ∧ vp_in e 40) (hpe : ∀ a, m_X4_eventOf ar pr er cf tf cb tb e = some a → ∀ b, m_X4_partOf ar pr er cf tf cb tb (E_pn (evf a)) = some b → (pA G L F b u w q pt us es ps evf) ∧ ∃ fm, fm ≤ 35 ∧ P_fi pt = nI fm) : PM l yX4_strike wsX4_strike ⟨7, 0, 0, 150⟩ G [.ref x, .int e] (aX G x rf ar pr er cf tf cb tb) L F 0 0 (po_d (some (.int ((m_X4_strike ar pr er cf tf cb tb F G u w q pt us es evf e).1))) (aX G x rf ar pr ((m_X4_strike ar pr er cf tf cb tb F G u w q pt us es evf e).2.1) ((m_X4_strike ar pr er cf tf cb tb F G u w q pt us es evf e).2.2.1) ((m_X4_strike ar pr er cf tf cb tb F G u w q pt us es evf e).2.2.2.1) ((m_X4_strike ar pr er cf tf cb tb F G u w q pt us es evf e).2.2.2.2.1) ((m_X4_strike ar pr er cf tf cb tb F G u w q pt us es evf e).2.2.2.2.2.1)) L ((m_X4_strike ar pr er cf tf cb tb F G u w q pt us es evf e).2.2.2.2.2.2)) := by
  refine pm_entry (by decide) rfl rfl (Nat.le_of_ble_eq_true rfl) ?_
  intro Z Q C hl0 hG0 hnm hE
  subst hl0
  subst hG0
  exact t0_X4_strike C hE hpc hec hee hpe rfl

def pF (G : pw_G) (F : Nat → va_E) (P u w q : Nat) (pt : PR) (us : Nat → Int32) (es : Nat → Option Nat) (ps : Nat → Int64) (evf : Nat → ER) (cf : CR) (tf : SR) (cb : CR) (tb : SR) (mo : Int32) : Nat → va_E := (va_up (va_up F q (.inl (G.2.2.1, 36, .inr (.inl (vp_updL ps (Int32.toNatClampNeg mo) ((C_ac ((m_X4_follow pt us es evf cf tf cb tb mo).1)) - (P_pa pt))))))) P (cP u w q (P_mk (P_co pt) (P_rs pt) (P_fi pt) (P_li pt) (P_me pt) (P_ra pt) (P_ec pt) (C_ac ((m_X4_follow pt us es evf cf tf cb tb mo).1)))))
def pS (pt : PR) (us : Nat → Int32) (es : Nat → Option Nat) (ps : Nat → Int64) (evf : Nat → ER) (cf : CR) (tf : SR) (cb : CR) (tb : SR) (mo : Int32) (all : Int64) : Int64 := (all + ((vp_updL ps (Int32.toNatClampNeg mo) ((C_ac ((m_X4_follow pt us es evf cf tf cb tb mo).1)) - (P_pa pt))) (Int32.toNatClampNeg mo)))
set_option maxRecDepth 100000 in
set_option maxHeartbeats 2000000 in
theorem s_post4_B {Z : pw_Z} {Q : State → Prop} {L : List Nat} {F : Nat → va_E} {x : Nat} {rf : Nat → Nat} {ar : AR} {pr : (Nat → Option Nat)} {er : (Nat → Option Nat)} {cf : CR} {tf : SR} {cb : CR} {tb : SR} {P u w q : Nat} {pt : PR} {us : Nat → Int32} {es : Nat → Option Nat} {ps : Nat → Int64} {evf : Nat → ER} {fm_ : Nat} {mo pi : Int32} {all : Int64} (C : pw_C Z cX4_post 6 RX4 wsX4_post ⟨6, 1, 6, 129⟩ (some .long)) (hpc : (A_pc ar).toInt ≤ 6) (hpk : m_X4_partOf ar pr er cf tf cb tb pi = some P) (hp : pA (zG Z) L F P u w q pt us es ps evf) (hfm_ : fm_ ≤ 35) (hfi_ : P_fi pt = nI fm_) (hm36 : vp_in mo 36) (hmo35 : mo.toInt ≤ 35)
    (k1 : mo < P_fi pt → PW Z (aX (zG Z) x rf ar pr er cf tf cb tb) L F 0 0 Q 119 [(0, .ref x), (1, .int mo), (2, .long all), (4, .int pi)] []) (k2 : ¬ mo < P_fi pt → PW Z (aX (zG Z) x rf ar pr er ((m_X4_follow pt us es evf cf tf cb tb mo).1) ((m_X4_follow pt us es evf cf tf cb tb mo).2.1) ((m_X4_follow pt us es evf cf tf cb tb mo).2.2.1) ((m_X4_follow pt us es evf cf tf cb tb mo).2.2.2)) L (pF (zG Z) F P u w q pt us es ps evf cf tf cb tb mo) 0 0 Q 119 [(0, .ref x), (1, .int mo), (2, .long (pS pt us es ps evf cf tf cb tb mo all)), (4, .int pi)] []) : PW Z (aX (zG Z) x rf ar pr er cf tf cb tb) L F 0 0 Q 48 [(0, .ref x), (1, .int mo), (2, .long all), (4, .int pi)] [] := by
  have i2_ : ∀ w ∈ wsX20, w ∈ wsX4_post := by decide +kernel
  have i4_ : ∀ w ∈ wsX40, w ∈ wsX4_post := by decide +kernel
  have i0_ : ∀ w ∈ wsX00, w ∈ wsX4_post := by decide +kernel
  have w0_ : Cond.fieldLink RX4 84 "AgedAssets$Part" "firstMonth" "I" ∈ wsX4_post := by decide +kernel
  have w1_ : Cond.fieldLink RX4 167 "AgedAssets$Part" "postedIn" "[J" ∈ wsX4_post := by decide +kernel
  have w2_ : Cond.fieldLink RX4 24 "AgedAssets" "full" "LAgedAssets$Course;" ∈ wsX4_post := by decide +kernel
  have w3_ : Cond.fieldLinkNest RX4 171 RX0 "allCharges" "J" RX4 ∈ pw_N := by decide +kernel
  have w4_ : Cond.fieldLink RX4 174 "AgedAssets$Part" "postedInAll" "J" ∈ wsX4_post := by decide +kernel
  refine pk_aload_n C 0 dX4_post_48 rfl rfl (pc2 := 49) rfl ?_
  refine pk_iload C 3 dX4_post_49 rfl (pc2 := 51) rfl ?_
  refine pk_dV (cx := (aX (zG Z) x rf ar pr er cf tf cb tb)) (wr := []) (X2 := (aX (zG Z) x rf ar pr er cf tf cb tb)) (st := []) (st2 := [(va_rf (m_X4_partOf ar pr er cf tf cb tb pi))]) (As := [.int pi]) C (c_X4_partOf (zl Z) (zG Z) L F x rf ar pr er cf tf cb tb pi hpc) gX4_post_X4_partOf rfl rfl rfl 1 (by decide +kernel) ⟨Nat.le_of_ble_eq_true rfl, Nat.le_of_ble_eq_true rfl⟩ (pw_atX 0 rfl) rfl rfl rfl (Nat.le_of_ble_eq_true rfl) ⟨Nat.le_of_ble_eq_true rfl, Nat.le_of_ble_eq_true rfl⟩ [0, 1, 2, 3, 4, 5, 6] [] [0, 1, 2, 3, 4, 5, 6] rfl rfl rfl rfl (by decide) rfl rfl dX4_post_51 (pc2 := 54) rfl rfl ?_
  rw [hpk]
  refine pk_astore (lv' := [(5, .ref P), (0, .ref x), (1, .int mo), (2, .long all), (4, .int pi)]) C dX4_post_54 (by decide) rfl (pc2 := 56) rfl ?_
  refine pk_aload C 0 dX4_post_56 rfl (pc2 := 58) rfl ?_
  refine pk_ifnull_r C dX4_post_58 (pc2 := 61) rfl ?_
  refine pk_aload C 0 dX4_post_61 rfl (pc2 := 63) rfl ?_
  refine pk_get (v := .int (P_fi pt)) C i2_ (pw_atP hp.1.1 hp.1.2) (ci := 2) rfl 2 (by decide) w0_ rfl rfl dX4_post_63 (pc2 := 66) rfl ?_
  refine pk_iload_n C 2 dX4_post_66 rfl rfl (pc2 := 67) rfl ?_
  refine pk_icmp_gt (tgt := 119) C dX4_post_67 (by decide) (pc2 := 70) rfl (fun h2_ => ?_) (fun h2_ => ?_)
  ·
    refine pw_lv [1, 2, 3, 4] (lv' := [(0, .ref x), (1, .int mo), (2, .long all), (4, .int pi)]) rfl ?_
    exact k1 h2_
  ·
    refine pk_aload_n C 1 dX4_post_70 rfl rfl (pc2 := 71) rfl ?_
    refine pk_aload C 0 dX4_post_71 rfl (pc2 := 73) rfl ?_
    refine pk_iload_n C 2 dX4_post_73 rfl rfl (pc2 := 74) rfl ?_
    refine pk_dV (cx := (aX (zG Z) x rf ar pr er cf tf cb tb)) (wr := []) (X2 := (aX (zG Z) x rf ar pr er ((m_X4_follow pt us es evf cf tf cb tb mo).1) ((m_X4_follow pt us es evf cf tf cb tb mo).2.1) ((m_X4_follow pt us es evf cf tf cb tb mo).2.2.1) ((m_X4_follow pt us es evf cf tf cb tb mo).2.2.2))) (st := []) (st2 := []) (As := [.ref P, .int mo]) C (c_X4_follow (zl Z) (zG Z) L F x rf ar pr er cf tf cb tb P u w q pt us es ps evf hp fm_ hfm_ hfi_ mo hmo35) gX4_post_X4_follow rfl rfl rfl 2 (by decide +kernel) ⟨Nat.le_of_ble_eq_true rfl, Nat.le_of_ble_eq_true rfl⟩ (pw_atX 0 rfl) rfl rfl rfl (Nat.le_of_ble_eq_true rfl) ⟨Nat.le_of_ble_eq_true rfl, Nat.le_of_ble_eq_true rfl⟩ [0, 1, 2, 3, 4, 5, 6] [] [0, 1, 2, 3, 4, 5, 6] rfl rfl rfl rfl (by decide) rfl rfl dX4_post_74 (pc2 := 77) rfl rfl ?_
    generalize en1_ : ((m_X4_follow pt us es evf cf tf cb tb mo).1) = n1_
    generalize en2_ : ((m_X4_follow pt us es evf cf tf cb tb mo).2.1) = n2_
    generalize en3_ : ((m_X4_follow pt us es evf cf tf cb tb mo).2.2.1) = n3_
    generalize en4_ : ((m_X4_follow pt us es evf cf tf cb tb mo).2.2.2) = n4_
    refine pk_aload C 0 dX4_post_77 rfl (pc2 := 79) rfl ?_
    refine pk_get (v := .ref q) C i2_ (pw_atP hp.1.1 hp.1.2) (ci := 2) rfl 8 (by decide) w1_ rfl rfl dX4_post_79 (pc2 := 82) rfl ?_
    refine pk_iload_n C 2 dX4_post_82 rfl rfl (pc2 := 83) rfl ?_
    refine pk_aload_n C 1 dX4_post_83 rfl rfl (pc2 := 84) rfl ?_
    refine pk_get (v := .ref (rf 2)) C i4_ (pw_atX 0 rfl) (ci := 4) rfl 2 (by decide) w2_ rfl rfl dX4_post_84 (pc2 := 87) rfl ?_
    refine pk_getN (v := .long (C_ac n1_)) C i0_ (pw_atX 3 rfl) (ci := 0) rfl 14 (by decide) w3_ rfl rfl dX4_post_87 (pc2 := 90) rfl ?_
    refine pk_aload C 0 dX4_post_90 rfl (pc2 := 92) rfl ?_
    refine pk_get (v := .long (P_pa pt)) C i2_ (pw_atP hp.1.1 hp.1.2) (ci := 2) rfl 10 (by decide) w4_ rfl rfl dX4_post_92 (pc2 := 95) rfl ?_
    refine pk_lsub C dX4_post_95 (pc2 := 96) rfl ?_
    refine pk_topl (fun n5_ en5_ => ?_)
    refine pk_lastP C hp.2.2.2.1.1 hp.2.2.2.1.2 hm36 dX4_post_96 (pc2 := 97) rfl ?_
    have hw9_ := pA_ps hp (vp_updL ps (Int32.toNatClampNeg mo) n5_)
    generalize en6_ : (va_up F q (.inl ((zG Z).2.2.1, 36, .inr (.inl (vp_updL ps (Int32.toNatClampNeg mo) n5_))))) = n6_ at hw9_ ⊢
    refine pk_aload C 0 dX4_post_97 rfl (pc2 := 99) rfl ?_
    refine pk_aload_n C 1 dX4_post_99 rfl rfl (pc2 := 100) rfl ?_
    refine pk_get (v := .ref (rf 2)) C i4_ (pw_atX 0 rfl) (ci := 4) rfl 2 (by decide) w2_ rfl rfl dX4_post_100 (pc2 := 103) rfl ?_
    refine pk_getN (v := .long (C_ac n1_)) C i0_ (pw_atX 3 rfl) (ci := 0) rfl 14 (by decide) w3_ rfl rfl dX4_post_103 (pc2 := 106) rfl ?_
    refine pk_putP (e := cP u w q (P_mk (P_co pt) (P_rs pt) (P_fi pt) (P_li pt) (P_me pt) (P_ra pt) (P_ec pt) (C_ac n1_))) C i2_ tyX2_ok nmX2 hw9_.1.1 hw9_.1.2 (ci := 2) rfl 10 (by decide) w4_ rfl rfl rfl rfl rfl (Nat.le_of_ble_eq_true rfl) rfl dX4_post_106 (pc2 := 109) rfl ?_
    have hw10_ := pA_pt hw9_ (P_mk (P_co pt) (P_rs pt) (P_fi pt) (P_li pt) (P_me pt) (P_ra pt) (P_ec pt) (C_ac n1_))
    generalize en7_ : (va_up n6_ P (cP u w q (P_mk (P_co pt) (P_rs pt) (P_fi pt) (P_li pt) (P_me pt) (P_ra pt) (P_ec pt) (C_ac n1_)))) = n7_ at hw10_ ⊢
    refine pk_lload_n C 3 dX4_post_109 rfl rfl (pc2 := 110) rfl ?_
    refine pk_aload C 0 dX4_post_110 rfl (pc2 := 112) rfl ?_
    refine pk_get (v := .ref q) C i2_ (pw_atP hw10_.1.1 hw10_.1.2) (ci := 2) rfl 8 (by decide) w1_ rfl rfl dX4_post_112 (pc2 := 115) rfl ?_
    refine pk_iload_n C 2 dX4_post_115 rfl rfl (pc2 := 116) rfl ?_
    refine pk_lald (v := ((vp_updL ps (Int32.toNatClampNeg mo) n5_) (Int32.toNatClampNeg mo))) C (pw_atP hw10_.2.2.2.1.1 hw10_.2.2.2.1.2) hm36 rfl dX4_post_116 (pc2 := 117) rfl ?_
    refine pk_ladd C dX4_post_117 (pc2 := 118) rfl ?_
    refine pk_topl (fun n8_ en8_ => ?_)
    refine pk_lstore_n (lv' := [(2, .long n8_), (5, .ref P), (0, .ref x), (1, .int mo), (4, .int pi)]) C dX4_post_118 rfl (by decide) rfl (pc2 := 119) rfl ?_
    refine pw_lv [2, 3, 0, 4] (lv' := [(0, .ref x), (1, .int mo), (2, .long n8_), (4, .int pi)]) rfl ?_
    subst en1_ en2_ en3_ en4_ en5_ en6_ en7_ en8_
    exact k2 h2_
theorem partOf_some {ar : AR} {pr er : Nat → Option Nat} {cf : CR} {tf : SR} {cb : CR} {tb : SR} {NP k P : Nat} {pi : Int32} (hN : NP ≤ 6) (hpc : A_pc ar = nI NP) (hk : k < NP) (hpi : pi = nI k) (h : pr k = some P) : m_X4_partOf ar pr er cf tf cb tb pi = some P := by
  unfold m_X4_partOf
  have h1 : ¬ pi < 0 := by
    rw [hpi, Int32.lt_iff_toInt_lt, nI_toInt (by omega)]
    have : (0 : Int32).toInt = 0 := rfl
    omega
  have h2 : ¬ A_pc ar ≤ pi := by
    rw [hpc, hpi, Int32.le_iff_toInt_le, nI_toInt (by omega), nI_toInt (by omega)]
    omega
  rw [if_neg h1, if_neg h2, hpi, nI_clamp (by omega)]
  exact h
/-- another part's posting leaves a part alone -/
theorem pA_oth {G : pw_G} {L : List Nat} {F : Nat → va_E} {P u w q P2 u2 w2 q2 : Nat} {pt pt2 : PR} {us us2 : Nat → Int32} {es es2 : Nat → Option Nat} {ps ps2 : Nat → Int64} {evf evf2 : Nat → ER} {cf : CR} {tf : SR} {cb : CR} {tb : SR} {mo : Int32} (h : pA G L F P u w q pt us es ps evf) (h2 : pA G L F P2 u2 w2 q2 pt2 us2 es2 ps2 evf2) (hP : P ≠ P2) (hq : q ≠ q2) : pA G L (pF G F P2 u2 w2 q2 pt2 us2 es2 ps2 evf2 cf tf cb tb mo) P u w q pt us es ps evf := by
  obtain ⟨⟨a1, a2⟩, ⟨b1, b2⟩, ⟨c1, c2⟩, ⟨d1, d2⟩, he⟩ := h
  obtain ⟨⟨-, x2⟩, -, -, ⟨-, y2⟩, -⟩ := h2
  unfold pF
  refine ⟨⟨a1, ?_⟩, ⟨b1, ?_⟩, ⟨c1, ?_⟩, ⟨d1, ?_⟩, fun i hi a ha => ?_⟩
  · rw [va_up_ne _ _ hP, va_up_ne _ _ (up_ne a2 y2 (by simp))]; exact a2
  · rw [va_up_ne _ _ (up_ne b2 x2 (by simp)), va_up_ne _ _ (up_ne b2 y2 (by simp))]; exact b2
  · rw [va_up_ne _ _ (up_ne c2 x2 (by simp)), va_up_ne _ _ (up_ne c2 y2 (by simp))]; exact c2
  · rw [va_up_ne _ _ (up_ne d2 x2 (by simp)), va_up_ne _ _ hq]; exact d2
  · obtain ⟨e1, e2⟩ := he i hi a ha
    exact ⟨e1, by rw [va_up_ne _ _ (up_ne e2 x2 (by simp)), va_up_ne _ _ (up_ne e2 y2 (by simp))]; exact e2⟩
/-- the parts' data, by number -/
abbrev pw_D : Type := (Nat → Nat) × (Nat → Nat) × (Nat → Nat) × (Nat → Nat) × (Nat → PR) × (Nat → Nat → Int32) × (Nat → Nat → Option Nat) × (Nat → Nat → Int64)
abbrev dP (D : pw_D) : Nat → Nat := D.1
abbrev dU (D : pw_D) : Nat → Nat := D.2.1
abbrev dW (D : pw_D) : Nat → Nat := D.2.2.1
abbrev dQ (D : pw_D) : Nat → Nat := D.2.2.2.1
abbrev dT (D : pw_D) : Nat → PR := D.2.2.2.2.1
abbrev dus (D : pw_D) : Nat → Nat → Int32 := D.2.2.2.2.2.1
abbrev des (D : pw_D) : Nat → Nat → Option Nat := D.2.2.2.2.2.2.1
abbrev dps (D : pw_D) : Nat → Nat → Int64 := D.2.2.2.2.2.2.2
/-- part a of the data lies in the pool -/
def pD (G : pw_G) (L : List Nat) (F : Nat → va_E) (D : pw_D) (evf : Nat → ER) (a : Nat) : Prop := pA G L F (dP D a) (dU D a) (dW D a) (dQ D a) (dT D a) (dus D a) (des D a) (dps D a) evf
def m_X4_post_l (G : pw_G) (D : pw_D) (evf : Nat → ER) (NP : Nat) (mo : Int32) : Nat → Nat → (Nat → va_E) → CR → SR → CR → SR → Int64 → Int64 × CR × SR × CR × SR × (Nat → va_E)
  | 0, _, F, cf, tf, cb, tb, _ => (0, cf, tf, cb, tb, F)
  | n + 1, k, F, cf, tf, cb, tb, all => if NP ≤ k then (all, cf, tf, cb, tb, F) else
    if mo < P_fi (dT D k) then m_X4_post_l G D evf NP mo n (k + 1) F cf tf cb tb all else
    m_X4_post_l G D evf NP mo n (k + 1) (pF G F (dP D k) (dU D k) (dW D k) (dQ D k) (dT D k) (dus D k) (des D k) (dps D k) evf cf tf cb tb mo) (m_X4_follow (dT D k) (dus D k) (des D k) evf cf tf cb tb mo).1 (m_X4_follow (dT D k) (dus D k) (des D k) evf cf tf cb tb mo).2.1 (m_X4_follow (dT D k) (dus D k) (des D k) evf cf tf cb tb mo).2.2.1 (m_X4_follow (dT D k) (dus D k) (des D k) evf cf tf cb tb mo).2.2.2 (pS (dT D k) (dus D k) (des D k) (dps D k) evf cf tf cb tb mo all)
theorem m_X4_post_l_s (G : pw_G) (D : pw_D) (evf : Nat → ER) (NP : Nat) (mo : Int32) (n k : Nat) (F : Nat → va_E) (cf : CR) (tf : SR) (cb : CR) (tb : SR) (all : Int64) : m_X4_post_l G D evf NP mo (n + 1) k F cf tf cb tb all = (if NP ≤ k then (all, cf, tf, cb, tb, F) else
    if mo < P_fi (dT D k) then m_X4_post_l G D evf NP mo n (k + 1) F cf tf cb tb all else
    m_X4_post_l G D evf NP mo n (k + 1) (pF G F (dP D k) (dU D k) (dW D k) (dQ D k) (dT D k) (dus D k) (des D k) (dps D k) evf cf tf cb tb mo) (m_X4_follow (dT D k) (dus D k) (des D k) evf cf tf cb tb mo).1 (m_X4_follow (dT D k) (dus D k) (des D k) evf cf tf cb tb mo).2.1 (m_X4_follow (dT D k) (dus D k) (des D k) evf cf tf cb tb mo).2.2.1 (m_X4_follow (dT D k) (dus D k) (des D k) evf cf tf cb tb mo).2.2.2 (pS (dT D k) (dus D k) (des D k) (dps D k) evf cf tf cb tb mo all)) := rfl
def m_X4_post (G : pw_G) (D : pw_D) (evf : Nat → ER) (NP : Nat) (ar : AR) (F : Nat → va_E) (cf : CR) (tf : SR) (cb : CR) (tb : SR) : Int32 × Int64 × AR × CR × SR × CR × SR × (Nat → va_E) :=
  if (A_mc ar) < 36 then (0, (m_X4_post_l G D evf NP (A_mc ar) 7 0 F cf tf cb tb 0).1, A_mk (A_pc ar) (A_ec ar) ((A_mc ar) + 1), (m_X4_post_l G D evf NP (A_mc ar) 7 0 F cf tf cb tb 0).2) else (2, 0, ar, cf, tf, cb, tb, F)
set_option maxRecDepth 100000 in
set_option maxHeartbeats 2000000 in
theorem l_X4_post {Z : pw_Z} {Q : State → Prop} {L : List Nat} {x : Nat} {rf : Nat → Nat} {ar : AR} {pr er : Nat → Option Nat} {D : pw_D} {evf : Nat → ER} {NP : Nat} {mo : Int32} (C : pw_C Z cX4_post 6 RX4 wsX4_post ⟨6, 1, 6, 129⟩ (some .long)) {X9 : va_W} {F9 : Nat → va_E} {R : Int32 × Int64 × AR × CR × SR × CR × SR × (Nat → va_E)} (hE : pw_EndX Z Q X9 L F9 (ox_d R.1 (some (.long R.2.1)) (aX (zG Z) x rf R.2.2.1 pr er R.2.2.2.1 R.2.2.2.2.1 R.2.2.2.2.2.1 R.2.2.2.2.2.2.1) L R.2.2.2.2.2.2.2) 1 6) (hN : NP ≤ 6) (hpc : A_pc ar = nI NP) (hrow : ∀ a, a < NP → pr a = some (dP D a)) (hfi : ∀ a, a < NP → ∃ fm : Nat, fm ≤ 35 ∧ P_fi (dT D a) = nI fm) (hip : ∀ a b, a < NP → b < NP → dP D a = dP D b → a = b) (hiq : ∀ a b, a < NP → b < NP → dQ D a = dQ D b → a = b) (hm36 : vp_in mo 36) (hmo35 : mo.toInt ≤ 35) : ∀ (n k : Nat) (F : Nat → va_E) (cf : CR) (tf : SR) (cb : CR) (tb : SR) (all : Int64) (pi : Int32), NP < k + n → k ≤ NP → pi = nI k → (∀ a, k ≤ a → a < NP → pD (zG Z) L F D evf a) → (0, (m_X4_post_l (zG Z) D evf NP mo n k F cf tf cb tb all).1, ar, (m_X4_post_l (zG Z) D evf NP mo n k F cf tf cb tb all).2) = R → PW Z (aX (zG Z) x rf ar pr er cf tf cb tb) L F 0 0 Q 39 [(0, .ref x), (1, .int mo), (2, .long all), (4, .int pi)] [] := by
  have i4_ : ∀ w ∈ wsX40, w ∈ wsX4_post := by decide +kernel
  have w54 : Cond.fieldLink RX4 54 "AgedAssets" "partCount" "I" ∈ wsX4_post := by decide +kernel
  intro n
  induction n with
  | zero => intro k F cf tf cb tb all pi h1 h2; exact absurd h1 (by omega)
  | succ n ih =>
    intro k F cf tf cb tb all pi h1 h2 he hD hR
    rw [m_X4_post_l_s] at hR
    refine pk_iload C 3 dX4_post_39 rfl (pc2 := 41) rfl ?_
    refine pk_aload_n C 0 dX4_post_41 rfl rfl (pc2 := 42) rfl ?_
    refine pk_get (v := .int (A_pc ar)) C i4_ (pw_atX 0 rfl) (ci := 4) rfl 4 (by decide) w54 rfl rfl dX4_post_42 (pc2 := 45) rfl ?_
    refine pk_icmp_ge (tgt := 125) C dX4_post_45 (by decide) (pc2 := 48) rfl (fun h9 => ?_) (fun h9 => ?_)
    · have hk : NP ≤ k := by
        rcases Nat.lt_or_ge k NP with z | z
        · rw [hpc, he, Int32.le_iff_toInt_le, nI_toInt (by omega), nI_toInt (by omega)] at h9
          omega
        · exact z
      rw [if_pos hk] at hR
      subst hR
      refine pk_lload_n C 2 dX4_post_125 rfl rfl (pc2 := 126) rfl ?_
      exact px_ret hE (Nat.le_of_ble_eq_true rfl) (Nat.le_of_ble_eq_true rfl) (fun Q' hE' => pr_long C hE' ⟨⟨rfl, rfl⟩, rfl, rfl, rfl⟩ dX4_post_126)
    · have hk : k < NP := lp_lt hpc (by omega) he h2 h9
      rw [if_neg (Nat.not_le.mpr hk)] at hR
      obtain ⟨fm, hf1, hf2⟩ := hfi k hk
      refine s_post4_B C (by rw [hpc, nI_toInt (by omega)]; omega) (partOf_some hN hpc hk he (hrow k hk)) (hD k (Nat.le_refl _) hk) hf1 hf2 hm36 hmo35 (fun h3 => ?_) (fun h3 => ?_)
      · rw [if_pos h3] at hR
        refine pk_iinc (v := (pi + 1)) (lv' := [(4, .int (pi + 1)), (0, .ref x), (1, .int mo), (2, .long all)]) C 3 dX4_post_119 rfl rfl (by decide) rfl (pc2 := 122) rfl ?_
        refine pk_goto (tgt := 39) C dX4_post_122 (by decide) ?_
        refine pw_lv [1, 2, 3, 0] (lv' := [(0, .ref x), (1, .int mo), (2, .long all), (4, .int (pi + 1))]) rfl ?_
        exact ih (k + 1) F cf tf cb tb all (pi + 1) (by omega) (by omega) (by rw [he, nI_1]) (fun a h4 h5 => hD a (by omega) h5) hR
      · rw [if_neg h3] at hR
        refine pk_iinc (v := (pi + 1)) (lv' := [(4, .int (pi + 1)), (0, .ref x), (1, .int mo), (2, .long (pS (dT D k) (dus D k) (des D k) (dps D k) evf cf tf cb tb mo all))]) C 3 dX4_post_119 rfl rfl (by decide) rfl (pc2 := 122) rfl ?_
        refine pk_goto (tgt := 39) C dX4_post_122 (by decide) ?_
        refine pw_lv [1, 2, 3, 0] (lv' := [(0, .ref x), (1, .int mo), (2, .long (pS (dT D k) (dus D k) (des D k) (dps D k) evf cf tf cb tb mo all)), (4, .int (pi + 1))]) rfl ?_
        exact ih (k + 1) _ _ _ _ _ _ (pi + 1) (by omega) (by omega) (by rw [he, nI_1]) (fun a h4 h5 => pA_oth (hD a (by omega) h5) (hD k (Nat.le_refl _) hk) (fun e => by have := hip a k h5 hk e; omega) (fun e => by have := hiq a k h5 hk e; omega)) hR
set_option maxRecDepth 100000 in
set_option maxHeartbeats 2000000 in
theorem t_X4_post {Z : pw_Z} {Q : State → Prop} {L : List Nat} {F : Nat → va_E} {x : Nat} {rf : Nat → Nat} {ar : AR} {pr : (Nat → Option Nat)} {er : (Nat → Option Nat)} {cf : CR} {tf : SR} {cb : CR} {tb : SR} {D : pw_D} {evf : Nat → ER} {NP : Nat} (C : pw_C Z cX4_post 6 RX4 wsX4_post ⟨6, 1, 6, 129⟩ (some .long)) (hX : pw_CX Z) {X9 : va_W} {F9 : Nat → va_E} {R : Int32 × Int64 × AR × CR × SR × CR × SR × (Nat → va_E)} (hE : pw_EndX Z Q X9 L F9 (ox_d R.1 (some (.long R.2.1)) (aX (zG Z) x rf R.2.2.1 pr er R.2.2.2.1 R.2.2.2.2.1 R.2.2.2.2.2.1 R.2.2.2.2.2.2.1) L R.2.2.2.2.2.2.2) 1 6) (hN : NP ≤ 6) (hpc : A_pc ar = nI NP) (hrow : ∀ a, a < NP → pr a = some (dP D a)) (hfi : ∀ a, a < NP → ∃ fm : Nat, fm ≤ 35 ∧ P_fi (dT D a) = nI fm) (hip : ∀ a b, a < NP → b < NP → dP D a = dP D b → a = b) (hiq : ∀ a b, a < NP → b < NP → dQ D a = dQ D b → a = b) (hmc : (A_mc ar) < 36 → vp_in (A_mc ar) 36 ∧ (A_mc ar).toInt ≤ 35) (hD : ∀ a, a < NP → pD (zG Z) L F D evf a) (hR : m_X4_post (zG Z) D evf NP ar F cf tf cb tb = R) : PW Z (aX (zG Z) x rf ar pr er cf tf cb tb) L F 0 0 Q 0 [(0, .ref x)] [] := by
  have i4_ : ∀ w ∈ wsX40, w ∈ wsX4_post := by decide +kernel
  have w0_ : Cond.fieldLink RX4 162 "AgedAssets" "monthCount" "I" ∈ wsX4_post := by decide +kernel
  have w1_ : Cond.classLink RX4 58 nISE ∈ wsX4_post := by decide +kernel
  have w2_ : Cond.initialized nISE ∈ wsX4_post := by decide +kernel
  refine pk_aload_n C 0 dX4_post_0 rfl rfl (pc2 := 1) rfl ?_
  refine pk_get (v := .int (A_mc ar)) C i4_ (pw_atX 0 rfl) (ci := 4) rfl 6 (by decide) w0_ rfl rfl dX4_post_1 (pc2 := 4) rfl ?_
  refine pk_bipush (v := 36) C dX4_post_4 (by decide) (pc2 := 6) rfl ?_
  refine pk_icmp_lt (tgt := 19) C dX4_post_6 (by decide) (pc2 := 9) rfl (fun h1_ => ?_) (fun h1_ => ?_)
  ·
    refine pk_aload_n C 0 dX4_post_19 rfl rfl (pc2 := 20) rfl ?_
    refine pk_get (v := .int (A_mc ar)) C i4_ (pw_atX 0 rfl) (ci := 4) rfl 6 (by decide) w0_ rfl rfl dX4_post_20 (pc2 := 23) rfl ?_
    refine pk_istore_n (lv' := [(1, .int (A_mc ar)), (0, .ref x)]) C dX4_post_23 rfl (by decide) rfl (pc2 := 24) rfl ?_
    refine pk_aload_n C 1 dX4_post_24 rfl rfl (pc2 := 25) rfl ?_
    refine pk_dup C dX4_post_25 rfl (pc2 := 26) rfl ?_
    refine pk_get (v := .int (A_mc ar)) C i4_ (pw_atX 0 rfl) (ci := 4) rfl 6 (by decide) w0_ rfl rfl dX4_post_26 (pc2 := 29) rfl ?_
    refine pk_iconst (v := 1) C dX4_post_29 (by decide) (pc2 := 30) rfl ?_
    refine pk_iadd C dX4_post_30 (pc2 := 31) rfl ?_
    refine pk_topi (fun n1_ en1_ => ?_)
    refine pk_putX (X' := [(x, kA rf (A_pc ar) (A_ec ar) n1_), ((rf 0), .inl ((zG Z).2.2.2.2, 6, .inr (.inr (.inr (.inr pr))))), ((rf 1), .inl ((zG Z).2.2.2.1, 40, .inr (.inr (.inr (.inr er))))), ((rf 2), cC (rf 4) cf), ((rf 4), cS tf), ((rf 3), cC (rf 5) cb), ((rf 5), cS tb)]) C i4_ tyX4_ok nmX4 0 rfl (ci := 4) rfl 6 (by decide) w0_ rfl rfl rfl rfl rfl (Nat.le_of_ble_eq_true rfl) rfl dX4_post_31 (pc2 := 34) rfl ?_
    refine pk_lconst (v := 0) C dX4_post_34 (by decide) (pc2 := 35) rfl ?_
    refine pk_lstore_n (lv' := [(2, .long 0), (1, .int (A_mc ar)), (0, .ref x)]) C dX4_post_35 rfl (by decide) rfl (pc2 := 36) rfl ?_
    refine pk_iconst (v := 0) C dX4_post_36 (by decide) (pc2 := 37) rfl ?_
    refine pk_istore (lv' := [(4, .int 0), (2, .long 0), (1, .int (A_mc ar)), (0, .ref x)]) C dX4_post_37 (by decide) rfl (pc2 := 39) rfl ?_
    refine pw_conv (X' := (aX (zG Z) x rf (A_mk (A_pc ar) (A_ec ar) n1_) pr er cf tf cb tb)) rfl ?_
    refine pw_lv [3, 2, 1, 0] (lv' := [(0, .ref x), (1, .int (A_mc ar)), (2, .long 0), (4, .int 0)]) rfl ?_
    subst en1_
    unfold m_X4_post at hR
    rw [if_pos h1_] at hR
    obtain ⟨hm1, hm2⟩ := hmc h1_
    exact l_X4_post C hE hN (by rw [A_pc_mk]; exact hpc) hrow hfi hip hiq hm1 hm2 7 0 F cf tf cb tb 0 0 (by omega) (Nat.zero_le _) rfl (fun a _ h5 => hD a h5) hR
  ·
    unfold m_X4_post at hR
    rw [if_neg h1_] at hR
    subst hR
    exact px_throw (E := nISE) C hX hE rfl (is := 165) (text := "all months are posted") (by decide) (Or.inr rfl) w1_ w2_ (fun w h => List.mem_cons_of_mem _ (List.mem_append_right _ h)) xt_62 xg_62 (by decide +kernel) (by decide +kernel) dX4_post_9 dX4_post_12 dX4_post_13 dX4_post_15 dX4_post_18 (Nat.le_of_ble_eq_true rfl) (Nat.le_of_ble_eq_true rfl) (Nat.le_of_ble_eq_true rfl) (Nat.le_of_ble_eq_true rfl) (Nat.le_of_ble_eq_true rfl) (Nat.le_of_ble_eq_true rfl) ⟨Or.inr ⟨rfl, rfl⟩, rfl, rfl, rfl⟩
theorem c_X4_post (l : Launch) (hst : l.stackTraces = false) (G : pw_G) (L : List Nat) (F : Nat → va_E) (x : Nat) (rf : Nat → Nat) (ar : AR) (pr : (Nat → Option Nat)) (er : (Nat → Option Nat)) (cf : CR) (tf : SR) (cb : CR) (tb : SR) (D : pw_D) (evf : Nat → ER) (NP : Nat) (hN : NP ≤ 6) (hpc : A_pc ar = nI NP) (hrow : ∀ a, a < NP → pr a = some (dP D a)) (hfi : ∀ a, a < NP → ∃ fm : Nat, fm ≤ 35 ∧ P_fi (dT D a) = nI fm) (hip : ∀ a b, a < NP → b < NP → dP D a = dP D b → a = b) (hiq : ∀ a b, a < NP → b < NP → dQ D a = dQ D b → a = b) (hmc : (A_mc ar) < 36 → vp_in (A_mc ar) 36 ∧ (A_mc ar).toInt ≤ 35) (hD : ∀ a, a < NP → pD G L F D evf a) : XM l yX4_post wsX4_post ⟨6, 1, 6, 129⟩ G [.ref x] (aX G x rf ar pr er cf tf cb tb) L F 1 6 (ox_d (m_X4_post G D evf NP ar F cf tf cb tb).1 (some (.long (m_X4_post G D evf NP ar F cf tf cb tb).2.1)) (aX G x rf (m_X4_post G D evf NP ar F cf tf cb tb).2.2.1 pr er (m_X4_post G D evf NP ar F cf tf cb tb).2.2.2.1 (m_X4_post G D evf NP ar F cf tf cb tb).2.2.2.2.1 (m_X4_post G D evf NP ar F cf tf cb tb).2.2.2.2.2.1 (m_X4_post G D evf NP ar F cf tf cb tb).2.2.2.2.2.2.1) L (m_X4_post G D evf NP ar F cf tf cb tb).2.2.2.2.2.2.2) := by
  refine xm_entry hst (by decide) rfl rfl (Nat.le_of_ble_eq_true rfl) ?_
  intro Z Q C hl0 hG0 hX hE
  subst hl0
  subst hG0
  exact t_X4_post C hX hE hN hpc hrow hfi hip hiq hmc hD rfl

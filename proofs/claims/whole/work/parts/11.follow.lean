theorem po_in {i n : Int32} {N : Nat} (h1 : ¬ i < 0) (h2 : ¬ n ≤ i) (h3 : n.toInt ≤ N) : vp_in i N := by
  rw [Int32.lt_iff_toInt_lt] at h1
  rw [Int32.le_iff_toInt_le] at h2
  have h0 : (0 : Int32).toInt = 0 := rfl
  exact vp_in_iff.mpr ⟨by omega, by omega⟩
theorem fl_lt {mm last : Int32} {k : Nat} (he : mm = nI k) (hk : k ≤ 36) (hla : last.toInt ≤ 35) (h : ¬ last < mm) : k < 36 := by
  rw [he, Int32.lt_iff_toInt_lt, nI_toInt (by omega)] at h
  omega
def m_X4_partOf (ar : AR) (pr : (Nat → Option Nat)) (er : (Nat → Option Nat)) (cf : CR) (tf : SR) (cb : CR) (tb : SR) (i : Int32) : Option Nat :=
  if i < 0 then none else if (A_pc ar) ≤ i then none else (pr (Int32.toNatClampNeg i))
set_option maxRecDepth 100000 in
set_option maxHeartbeats 2000000 in
theorem c_X4_partOf (l : Launch) (G : pw_G) (L : List Nat) (F : Nat → va_E) (x : Nat) (rf : Nat → Nat) (ar : AR) (pr er : Nat → Option Nat) (cf : CR) (tf : SR) (cb : CR) (tb : SR) (i : Int32) (hpc : (A_pc ar).toInt ≤ 6) : PM l yX4_partOf wsX4_partOf ⟨0, 0, 0, 0⟩ G [.ref x, .int i] (aX G x rf ar pr er cf tf cb tb) L F 0 0 (po_d (some (va_rf (m_X4_partOf ar pr er cf tf cb tb i))) (aX G x rf ar pr er cf tf cb tb) L F) := by
  refine pm_entry (by decide) rfl rfl (Nat.le_of_ble_eq_true rfl) ?_
  intro Z Q C hl0 hG0 hnm hE
  subst hl0
  subst hG0
  have i4_ : ∀ w ∈ wsX40, w ∈ wsX4_partOf := by decide +kernel
  have w0_ : Cond.fieldLink RX4 54 "AgedAssets" "partCount" "I" ∈ wsX4_partOf := by decide +kernel
  have w1_ : Cond.fieldLink RX4 11 "AgedAssets" "partRow" "[LAgedAssets$Part;" ∈ wsX4_partOf := by decide +kernel
  show PW Z (aX (zG Z) x rf ar pr er cf tf cb tb) L F 0 0 Q 0 [(0, .ref x), (1, .int i)] []
  refine pk_iload_n C 1 dX4_partOf_0 rfl rfl (pc2 := 1) rfl ?_
  refine pk_if_lt (tgt := 21) C dX4_partOf_1 (by decide) (pc2 := 4) rfl (fun h1_ => ?_) (fun h1_ => ?_)
  ·
    refine pk_null C dX4_partOf_21 (pc2 := 22) rfl ?_
    exact pr_ref C hE none (po_d_rfl (by first | with_reducible rfl | (unfold m_X4_partOf; rw [if_pos h1_])) (by first | with_reducible rfl | (unfold m_X4_partOf; rw [if_pos h1_]))) dX4_partOf_22
  ·
    refine pk_iload_n C 1 dX4_partOf_4 rfl rfl (pc2 := 5) rfl ?_
    refine pk_aload_n C 0 dX4_partOf_5 rfl rfl (pc2 := 6) rfl ?_
    refine pk_get (v := .int (A_pc ar)) C i4_ (pw_atX 0 rfl) (ci := 4) rfl 4 (by decide) w0_ rfl rfl dX4_partOf_6 (pc2 := 9) rfl ?_
    refine pk_icmp_ge (tgt := 21) C dX4_partOf_9 (by decide) (pc2 := 12) rfl (fun h2_ => ?_) (fun h2_ => ?_)
    ·
      refine pk_null C dX4_partOf_21 (pc2 := 22) rfl ?_
      exact pr_ref C hE none (po_d_rfl (by first | with_reducible rfl | (unfold m_X4_partOf; rw [if_neg h1_, if_pos h2_])) (by first | with_reducible rfl | (unfold m_X4_partOf; rw [if_neg h1_, if_pos h2_]))) dX4_partOf_22
    ·
      refine pk_aload_n C 0 dX4_partOf_12 rfl rfl (pc2 := 13) rfl ?_
      refine pk_get (v := .ref (rf 0)) C i4_ (pw_atX 0 rfl) (ci := 4) rfl 0 (by decide) w1_ rfl rfl dX4_partOf_13 (pc2 := 16) rfl ?_
      refine pk_iload_n C 1 dX4_partOf_16 rfl rfl (pc2 := 17) rfl ?_
      refine pk_aldP (r := (pr (Int32.toNatClampNeg i))) C (pw_atX 1 rfl) (po_in h1_ h2_ hpc) rfl dX4_partOf_17 (pc2 := 18) rfl ?_
      refine pk_goto (tgt := 22) C dX4_partOf_18 (by decide) ?_
      exact pr_ref C hE (pr (Int32.toNatClampNeg i)) (po_d_rfl (by first | with_reducible rfl | (unfold m_X4_partOf; rw [if_neg h1_, if_neg h2_])) (by first | with_reducible rfl | (unfold m_X4_partOf; rw [if_neg h1_, if_neg h2_]))) dX4_partOf_22
def m_X4_eventOf (ar : AR) (pr : (Nat → Option Nat)) (er : (Nat → Option Nat)) (cf : CR) (tf : SR) (cb : CR) (tb : SR) (i : Int32) : Option Nat :=
  if i < 0 then none else if (A_ec ar) ≤ i then none else (er (Int32.toNatClampNeg i))
set_option maxRecDepth 100000 in
set_option maxHeartbeats 2000000 in
theorem c_X4_eventOf (l : Launch) (G : pw_G) (L : List Nat) (F : Nat → va_E) (x : Nat) (rf : Nat → Nat) (ar : AR) (pr er : Nat → Option Nat) (cf : CR) (tf : SR) (cb : CR) (tb : SR) (i : Int32) (hec : (A_ec ar).toInt ≤ 40) : PM l yX4_eventOf wsX4_eventOf ⟨0, 0, 0, 0⟩ G [.ref x, .int i] (aX G x rf ar pr er cf tf cb tb) L F 0 0 (po_d (some (va_rf (m_X4_eventOf ar pr er cf tf cb tb i))) (aX G x rf ar pr er cf tf cb tb) L F) := by
  refine pm_entry (by decide) rfl rfl (Nat.le_of_ble_eq_true rfl) ?_
  intro Z Q C hl0 hG0 hnm hE
  subst hl0
  subst hG0
  have i4_ : ∀ w ∈ wsX40, w ∈ wsX4_eventOf := by decide +kernel
  have w0_ : Cond.fieldLink RX4 99 "AgedAssets" "eventCount" "I" ∈ wsX4_eventOf := by decide +kernel
  have w1_ : Cond.fieldLink RX4 17 "AgedAssets" "eventRow" "[LAgedAssets$Event;" ∈ wsX4_eventOf := by decide +kernel
  show PW Z (aX (zG Z) x rf ar pr er cf tf cb tb) L F 0 0 Q 0 [(0, .ref x), (1, .int i)] []
  refine pk_iload_n C 1 dX4_eventOf_0 rfl rfl (pc2 := 1) rfl ?_
  refine pk_if_lt (tgt := 21) C dX4_eventOf_1 (by decide) (pc2 := 4) rfl (fun h1_ => ?_) (fun h1_ => ?_)
  ·
    refine pk_null C dX4_eventOf_21 (pc2 := 22) rfl ?_
    exact pr_ref C hE none (po_d_rfl (by first | with_reducible rfl | (unfold m_X4_eventOf; rw [if_pos h1_])) (by first | with_reducible rfl | (unfold m_X4_eventOf; rw [if_pos h1_]))) dX4_eventOf_22
  ·
    refine pk_iload_n C 1 dX4_eventOf_4 rfl rfl (pc2 := 5) rfl ?_
    refine pk_aload_n C 0 dX4_eventOf_5 rfl rfl (pc2 := 6) rfl ?_
    refine pk_get (v := .int (A_ec ar)) C i4_ (pw_atX 0 rfl) (ci := 4) rfl 5 (by decide) w0_ rfl rfl dX4_eventOf_6 (pc2 := 9) rfl ?_
    refine pk_icmp_ge (tgt := 21) C dX4_eventOf_9 (by decide) (pc2 := 12) rfl (fun h2_ => ?_) (fun h2_ => ?_)
    ·
      refine pk_null C dX4_eventOf_21 (pc2 := 22) rfl ?_
      exact pr_ref C hE none (po_d_rfl (by first | with_reducible rfl | (unfold m_X4_eventOf; rw [if_neg h1_, if_pos h2_])) (by first | with_reducible rfl | (unfold m_X4_eventOf; rw [if_neg h1_, if_pos h2_]))) dX4_eventOf_22
    ·
      refine pk_aload_n C 0 dX4_eventOf_12 rfl rfl (pc2 := 13) rfl ?_
      refine pk_get (v := .ref (rf 1)) C i4_ (pw_atX 0 rfl) (ci := 4) rfl 1 (by decide) w1_ rfl rfl dX4_eventOf_13 (pc2 := 16) rfl ?_
      refine pk_iload_n C 1 dX4_eventOf_16 rfl rfl (pc2 := 17) rfl ?_
      refine pk_aldE (r := (er (Int32.toNatClampNeg i))) C (pw_atX 2 rfl) (po_in h1_ h2_ hec) rfl dX4_eventOf_17 (pc2 := 18) rfl ?_
      refine pk_goto (tgt := 22) C dX4_eventOf_18 (by decide) ?_
      exact pr_ref C hE (er (Int32.toNatClampNeg i)) (po_d_rfl (by first | with_reducible rfl | (unfold m_X4_eventOf; rw [if_neg h1_, if_neg h2_])) (by first | with_reducible rfl | (unfold m_X4_eventOf; rw [if_neg h1_, if_neg h2_]))) dX4_eventOf_22
def m_X4_follow_l (us : Nat → Int32) (es : Nat → Option Nat) (evf : Nat → ER) (last : Int32) : Nat → CR → SR → CR → SR → Int32 → CR × SR × CR × SR
  | 0, c1, t1, c2, t2, _ => (c1, t1, c2, t2)
  | n + 1, c1, t1, c2, t2, mm => if last < mm then (c1, t1, c2, t2) else (match (es (Int32.toNatClampNeg mm)) with | none => m_X4_follow_l us es evf last n ((m_X0_chargeMonth c1 t1 (us (Int32.toNatClampNeg mm))).1) ((m_X0_chargeMonth c1 t1 (us (Int32.toNatClampNeg mm))).2) ((m_X0_chargeMonth c2 t2 (us (Int32.toNatClampNeg mm))).1) ((m_X0_chargeMonth c2 t2 (us (Int32.toNatClampNeg mm))).2) (mm + 1) | some e2_ => if (E_ki (evf e2_)) = 3 then m_X4_follow_l us es evf last n ((m_X0_chargeMonth ((m_X0_meet c1 t1 (evf e2_) (m_X0_bookOrNone c2 t2)).1) ((m_X0_meet c1 t1 (evf e2_) (m_X0_bookOrNone c2 t2)).2) (us (Int32.toNatClampNeg mm))).1) ((m_X0_chargeMonth ((m_X0_meet c1 t1 (evf e2_) (m_X0_bookOrNone c2 t2)).1) ((m_X0_meet c1 t1 (evf e2_) (m_X0_bookOrNone c2 t2)).2) (us (Int32.toNatClampNeg mm))).2) ((m_X0_chargeMonth c2 t2 (us (Int32.toNatClampNeg mm))).1) ((m_X0_chargeMonth c2 t2 (us (Int32.toNatClampNeg mm))).2) (mm + 1) else if (E_ki (evf e2_)) = 4 then m_X4_follow_l us es evf last n ((m_X0_chargeMonth ((m_X0_meet c1 t1 (evf e2_) (m_X0_bookOrNone c2 t2)).1) ((m_X0_meet c1 t1 (evf e2_) (m_X0_bookOrNone c2 t2)).2) (us (Int32.toNatClampNeg mm))).1) ((m_X0_chargeMonth ((m_X0_meet c1 t1 (evf e2_) (m_X0_bookOrNone c2 t2)).1) ((m_X0_meet c1 t1 (evf e2_) (m_X0_bookOrNone c2 t2)).2) (us (Int32.toNatClampNeg mm))).2) ((m_X0_chargeMonth c2 t2 (us (Int32.toNatClampNeg mm))).1) ((m_X0_chargeMonth c2 t2 (us (Int32.toNatClampNeg mm))).2) (mm + 1) else m_X4_follow_l us es evf last n ((m_X0_chargeMonth ((m_X0_meet c1 t1 (evf e2_) (m_X0_bookOrNone c2 t2)).1) ((m_X0_meet c1 t1 (evf e2_) (m_X0_bookOrNone c2 t2)).2) (us (Int32.toNatClampNeg mm))).1) ((m_X0_chargeMonth ((m_X0_meet c1 t1 (evf e2_) (m_X0_bookOrNone c2 t2)).1) ((m_X0_meet c1 t1 (evf e2_) (m_X0_bookOrNone c2 t2)).2) (us (Int32.toNatClampNeg mm))).2) ((m_X0_chargeMonth ((m_X0_meet c2 t2 (evf e2_) (-1)).1) ((m_X0_meet c2 t2 (evf e2_) (-1)).2) (us (Int32.toNatClampNeg mm))).1) ((m_X0_chargeMonth ((m_X0_meet c2 t2 (evf e2_) (-1)).1) ((m_X0_meet c2 t2 (evf e2_) (-1)).2) (us (Int32.toNatClampNeg mm))).2) (mm + 1))
theorem m_X4_follow_l_s (us : Nat → Int32) (es : Nat → Option Nat) (evf : Nat → ER) (last : Int32) (n : Nat) (c1 : CR) (t1 : SR) (c2 : CR) (t2 : SR) (mm : Int32) : m_X4_follow_l us es evf last (n + 1) c1 t1 c2 t2 mm = if last < mm then (c1, t1, c2, t2) else (match (es (Int32.toNatClampNeg mm)) with | none => m_X4_follow_l us es evf last n ((m_X0_chargeMonth c1 t1 (us (Int32.toNatClampNeg mm))).1) ((m_X0_chargeMonth c1 t1 (us (Int32.toNatClampNeg mm))).2) ((m_X0_chargeMonth c2 t2 (us (Int32.toNatClampNeg mm))).1) ((m_X0_chargeMonth c2 t2 (us (Int32.toNatClampNeg mm))).2) (mm + 1) | some e2_ => if (E_ki (evf e2_)) = 3 then m_X4_follow_l us es evf last n ((m_X0_chargeMonth ((m_X0_meet c1 t1 (evf e2_) (m_X0_bookOrNone c2 t2)).1) ((m_X0_meet c1 t1 (evf e2_) (m_X0_bookOrNone c2 t2)).2) (us (Int32.toNatClampNeg mm))).1) ((m_X0_chargeMonth ((m_X0_meet c1 t1 (evf e2_) (m_X0_bookOrNone c2 t2)).1) ((m_X0_meet c1 t1 (evf e2_) (m_X0_bookOrNone c2 t2)).2) (us (Int32.toNatClampNeg mm))).2) ((m_X0_chargeMonth c2 t2 (us (Int32.toNatClampNeg mm))).1) ((m_X0_chargeMonth c2 t2 (us (Int32.toNatClampNeg mm))).2) (mm + 1) else if (E_ki (evf e2_)) = 4 then m_X4_follow_l us es evf last n ((m_X0_chargeMonth ((m_X0_meet c1 t1 (evf e2_) (m_X0_bookOrNone c2 t2)).1) ((m_X0_meet c1 t1 (evf e2_) (m_X0_bookOrNone c2 t2)).2) (us (Int32.toNatClampNeg mm))).1) ((m_X0_chargeMonth ((m_X0_meet c1 t1 (evf e2_) (m_X0_bookOrNone c2 t2)).1) ((m_X0_meet c1 t1 (evf e2_) (m_X0_bookOrNone c2 t2)).2) (us (Int32.toNatClampNeg mm))).2) ((m_X0_chargeMonth c2 t2 (us (Int32.toNatClampNeg mm))).1) ((m_X0_chargeMonth c2 t2 (us (Int32.toNatClampNeg mm))).2) (mm + 1) else m_X4_follow_l us es evf last n ((m_X0_chargeMonth ((m_X0_meet c1 t1 (evf e2_) (m_X0_bookOrNone c2 t2)).1) ((m_X0_meet c1 t1 (evf e2_) (m_X0_bookOrNone c2 t2)).2) (us (Int32.toNatClampNeg mm))).1) ((m_X0_chargeMonth ((m_X0_meet c1 t1 (evf e2_) (m_X0_bookOrNone c2 t2)).1) ((m_X0_meet c1 t1 (evf e2_) (m_X0_bookOrNone c2 t2)).2) (us (Int32.toNatClampNeg mm))).2) ((m_X0_chargeMonth ((m_X0_meet c2 t2 (evf e2_) (-1)).1) ((m_X0_meet c2 t2 (evf e2_) (-1)).2) (us (Int32.toNatClampNeg mm))).1) ((m_X0_chargeMonth ((m_X0_meet c2 t2 (evf e2_) (-1)).1) ((m_X0_meet c2 t2 (evf e2_) (-1)).2) (us (Int32.toNatClampNeg mm))).2) (mm + 1)) := rfl
def m_X4_follow (pt : PR) (us : Nat → Int32) (es : Nat → Option Nat) (evf : Nat → ER) (cf : CR) (tf : SR) (cb : CR) (tb : SR) (last : Int32) : CR × SR × CR × SR := m_X4_follow_l us es evf last 37 ((m_X0_open cf tf pt).1) ((m_X0_open cf tf pt).2) ((m_X0_open cb tb pt).1) ((m_X0_open cb tb pt).2) (P_fi pt)
set_option maxRecDepth 100000 in
set_option maxHeartbeats 2000000 in
theorem l_X4_follow {Z : pw_Z} {Q : State → Prop} {L : List Nat} {F : Nat → va_E} {x : Nat} {rf : Nat → Nat} {ar : AR} {pr er : Nat → Option Nat} {p u w q : Nat} {pt : PR} {us : Nat → Int32} {es : Nat → Option Nat} {ps : Nat → Int64} {evf : Nat → ER} {last : Int32} {X9 : va_W} {R : CR × SR × CR × SR} (C : pw_C Z cX4_follow 5 RX4 wsX4_follow ⟨5, 0, 0, 105⟩ none) (hE : pw_End Z Q X9 L F (po_d none (aX (zG Z) x rf ar pr er R.1 R.2.1 R.2.2.1 R.2.2.2) L F) 0 0) (hp : pA (zG Z) L F p u w q pt us es ps evf) (hla : last.toInt ≤ 35) : ∀ (n k : Nat) (c1 : CR) (t1 : SR) (c2 : CR) (t2 : SR) (mm : Int32), 36 < k + n → k ≤ 36 → mm = nI k → m_X4_follow_l us es evf last n c1 t1 c2 t2 mm = R → PW Z (aX (zG Z) x rf ar pr er c1 t1 c2 t2) L F 0 0 Q 21 [(0, .ref x), (1, .ref p), (2, .int last), (3, .int mm)] [] := by
  intro n
  induction n with
  | zero =>
    intro k c1 t1 c2 t2 mm hfu hk36 he hR
    exact absurd hfu (by omega)
  | succ n ih =>
    intro k c1 t1 c2 t2 mm hfu hk36 he hR
    have i2_ : ∀ w ∈ wsX20, w ∈ wsX4_follow := by decide +kernel
    have i4_ : ∀ w ∈ wsX40, w ∈ wsX4_follow := by decide +kernel
    have i1_ : ∀ w ∈ wsX10, w ∈ wsX4_follow := by decide +kernel
    have w0_ : Cond.fieldLink RX4 93 "AgedAssets$Part" "eventIn" "[LAgedAssets$Event;" ∈ wsX4_follow := by decide +kernel
    have w1_ : Cond.fieldLink RX4 24 "AgedAssets" "full" "LAgedAssets$Course;" ∈ wsX4_follow := by decide +kernel
    have w2_ : Cond.fieldLink RX4 74 "AgedAssets$Part" "unitsIn" "[I" ∈ wsX4_follow := by decide +kernel
    have w3_ : Cond.fieldLink RX4 28 "AgedAssets" "bare" "LAgedAssets$Course;" ∈ wsX4_follow := by decide +kernel
    have w4_ : Cond.fieldLink RX4 117 "AgedAssets$Event" "kind" "I" ∈ wsX4_follow := by decide +kernel
    have w5_ : Cond.constantLong RX4 191 (-1) ∈ wsX4_follow := by decide +kernel
    refine pk_iload_n C 3 dX4_follow_21 rfl rfl (pc2 := 22) rfl ?_
    refine pk_iload_n C 2 dX4_follow_22 rfl rfl (pc2 := 23) rfl ?_
    refine pk_icmp_gt (tgt := 117) C dX4_follow_23 (by decide) (pc2 := 26) rfl (fun h1_ => ?_) (fun h1_ => ?_)
    ·
      rw [m_X4_follow_l_s, if_pos h1_] at hR
      subst hR
      exact pr_void C hE (po_d_rfl rfl rfl) dX4_follow_117
    ·
      have hk_ : k < 36 := fl_lt he hk36 hla h1_
      have hmi : vp_in mm 36 := by rw [he]; exact vp_in_nI hk_ (by decide)
      have hmc : Int32.toNatClampNeg mm < 36 := by rw [he, nI_clamp (by omega)]; exact hk_
      refine pk_aload_n C 1 dX4_follow_26 rfl rfl (pc2 := 27) rfl ?_
      refine pk_get (v := .ref w) C i2_ (pw_atP hp.1.1 hp.1.2) (ci := 2) rfl 7 (by decide) w0_ rfl rfl dX4_follow_27 (pc2 := 30) rfl ?_
      refine pk_iload_n C 3 dX4_follow_30 rfl rfl (pc2 := 31) rfl ?_
      refine pk_aldE (r := (es (Int32.toNatClampNeg mm))) C (pw_atP hp.2.2.1.1 hp.2.2.1.2) hmi rfl dX4_follow_31 (pc2 := 32) rfl ?_
      rcases h2_ : (es (Int32.toNatClampNeg mm)) with _ | e2_
      ·
        refine pk_astoreN (lv' := [(4, .null), (0, .ref x), (1, .ref p), (2, .int last), (3, .int mm)]) C dX4_follow_32 (by decide) rfl (pc2 := 34) rfl ?_
        refine pk_aloadN C 0 dX4_follow_34 rfl (pc2 := 36) rfl ?_
        refine pk_ifnull_n (tgt := 85) C dX4_follow_36 (by decide) ?_
        refine pk_aload_n C 1 dX4_follow_85 rfl rfl (pc2 := 86) rfl ?_
        refine pk_get (v := .ref (rf 2)) C i4_ (pw_atX 0 rfl) (ci := 4) rfl 2 (by decide) w1_ rfl rfl dX4_follow_86 (pc2 := 89) rfl ?_
        refine pk_aload_n C 2 dX4_follow_89 rfl rfl (pc2 := 90) rfl ?_
        refine pk_get (v := .ref u) C i2_ (pw_atP hp.1.1 hp.1.2) (ci := 2) rfl 6 (by decide) w2_ rfl rfl dX4_follow_90 (pc2 := 93) rfl ?_
        refine pk_iload_n C 4 dX4_follow_93 rfl rfl (pc2 := 94) rfl ?_
        refine pk_iald (v := (us (Int32.toNatClampNeg mm))) C (pw_atP hp.2.1.1 hp.2.1.2) hmi rfl dX4_follow_94 (pc2 := 95) rfl ?_
        refine pk_dV (cx := [((rf 2), cC (rf 4) c1), ((rf 4), cS t1)]) (wr := [(x, cA rf ar), ((rf 0), .inl ((zG Z).2.2.2.2, 6, .inr (.inr (.inr (.inr pr))))), ((rf 1), .inl ((zG Z).2.2.2.1, 40, .inr (.inr (.inr (.inr er))))), ((rf 3), cC (rf 5) c2), ((rf 5), cS t2)]) (X2 := (aX (zG Z) x rf ar pr er ((m_X0_chargeMonth c1 t1 (us (Int32.toNatClampNeg mm))).1) ((m_X0_chargeMonth c1 t1 (us (Int32.toNatClampNeg mm))).2) c2 t2)) (st := []) (st2 := []) (As := [.int (us (Int32.toNatClampNeg mm))]) C (c_X0_chargeMonth (zl Z) (zG Z) L F (rf 2) (rf 4) c1 t1 (us (Int32.toNatClampNeg mm))) gX4_follow_X0_chargeMonth rfl rfl rfl 1 (by decide +kernel) ⟨Nat.le_of_ble_eq_true rfl, Nat.le_of_ble_eq_true rfl⟩ (pw_atX 3 rfl) rfl rfl rfl (Nat.le_of_ble_eq_true rfl) ⟨Nat.le_of_ble_eq_true rfl, Nat.le_of_ble_eq_true rfl⟩ [3, 4] [0, 1, 2, 5, 6] [0, 1, 2, 5, 6, 3, 4] rfl rfl rfl rfl (by decide) rfl rfl dX4_follow_95 (pc2 := 98) rfl rfl ?_
        generalize en1_ : ((m_X0_chargeMonth c1 t1 (us (Int32.toNatClampNeg mm))).1) = n1_
        generalize en2_ : ((m_X0_chargeMonth c1 t1 (us (Int32.toNatClampNeg mm))).2) = n2_
        refine pk_aload_n C 1 dX4_follow_98 rfl rfl (pc2 := 99) rfl ?_
        refine pk_get (v := .ref (rf 3)) C i4_ (pw_atX 0 rfl) (ci := 4) rfl 3 (by decide) w3_ rfl rfl dX4_follow_99 (pc2 := 102) rfl ?_
        refine pk_aload_n C 2 dX4_follow_102 rfl rfl (pc2 := 103) rfl ?_
        refine pk_get (v := .ref u) C i2_ (pw_atP hp.1.1 hp.1.2) (ci := 2) rfl 6 (by decide) w2_ rfl rfl dX4_follow_103 (pc2 := 106) rfl ?_
        refine pk_iload_n C 4 dX4_follow_106 rfl rfl (pc2 := 107) rfl ?_
        refine pk_iald (v := (us (Int32.toNatClampNeg mm))) C (pw_atP hp.2.1.1 hp.2.1.2) hmi rfl dX4_follow_107 (pc2 := 108) rfl ?_
        refine pk_dV (cx := [((rf 3), cC (rf 5) c2), ((rf 5), cS t2)]) (wr := [(x, cA rf ar), ((rf 0), .inl ((zG Z).2.2.2.2, 6, .inr (.inr (.inr (.inr pr))))), ((rf 1), .inl ((zG Z).2.2.2.1, 40, .inr (.inr (.inr (.inr er))))), ((rf 2), cC (rf 4) n1_), ((rf 4), cS n2_)]) (X2 := (aX (zG Z) x rf ar pr er n1_ n2_ ((m_X0_chargeMonth c2 t2 (us (Int32.toNatClampNeg mm))).1) ((m_X0_chargeMonth c2 t2 (us (Int32.toNatClampNeg mm))).2))) (st := []) (st2 := []) (As := [.int (us (Int32.toNatClampNeg mm))]) C (c_X0_chargeMonth (zl Z) (zG Z) L F (rf 3) (rf 5) c2 t2 (us (Int32.toNatClampNeg mm))) gX4_follow_X0_chargeMonth rfl rfl rfl 1 (by decide +kernel) ⟨Nat.le_of_ble_eq_true rfl, Nat.le_of_ble_eq_true rfl⟩ (pw_atX 5 rfl) rfl rfl rfl (Nat.le_of_ble_eq_true rfl) ⟨Nat.le_of_ble_eq_true rfl, Nat.le_of_ble_eq_true rfl⟩ [5, 6] [0, 1, 2, 3, 4] [0, 1, 2, 3, 4, 5, 6] rfl rfl rfl rfl (by decide) rfl rfl dX4_follow_108 (pc2 := 111) rfl rfl ?_
        generalize en3_ : ((m_X0_chargeMonth c2 t2 (us (Int32.toNatClampNeg mm))).1) = n3_
        generalize en4_ : ((m_X0_chargeMonth c2 t2 (us (Int32.toNatClampNeg mm))).2) = n4_
        refine pk_iinc (v := (mm + 1)) (lv' := [(3, .int (mm + 1)), (4, .null), (0, .ref x), (1, .ref p), (2, .int last)]) C 4 dX4_follow_111 rfl rfl (by decide) rfl (pc2 := 114) rfl ?_
        refine pk_goto (tgt := 21) C dX4_follow_114 (by decide) ?_
        refine pw_lv [2, 3, 4, 0] (lv' := [(0, .ref x), (1, .ref p), (2, .int last), (3, .int (mm + 1))]) rfl ?_
        subst en1_ en2_ en3_ en4_
        rw [m_X4_follow_l_s, if_neg h1_] at hR
        simp only [h2_] at hR
        exact ih (k + 1) ((m_X0_chargeMonth c1 t1 (us (Int32.toNatClampNeg mm))).1) ((m_X0_chargeMonth c1 t1 (us (Int32.toNatClampNeg mm))).2) ((m_X0_chargeMonth c2 t2 (us (Int32.toNatClampNeg mm))).1) ((m_X0_chargeMonth c2 t2 (us (Int32.toNatClampNeg mm))).2) (mm + 1) (by omega) (by omega) (by rw [he, nI_1]) hR
      ·
        have heve2_ := hp.2.2.2.2 _ hmc _ h2_
        refine pk_astore (lv' := [(4, .ref e2_), (0, .ref x), (1, .ref p), (2, .int last), (3, .int mm)]) C dX4_follow_32 (by decide) rfl (pc2 := 34) rfl ?_
        refine pk_aload C 0 dX4_follow_34 rfl (pc2 := 36) rfl ?_
        refine pk_ifnull_r C dX4_follow_36 (pc2 := 39) rfl ?_
        refine pk_aload_n C 1 dX4_follow_39 rfl rfl (pc2 := 40) rfl ?_
        refine pk_get (v := .ref (rf 2)) C i4_ (pw_atX 0 rfl) (ci := 4) rfl 2 (by decide) w1_ rfl rfl dX4_follow_40 (pc2 := 43) rfl ?_
        refine pk_aload C 0 dX4_follow_43 rfl (pc2 := 45) rfl ?_
        refine pk_aload_n C 1 dX4_follow_45 rfl rfl (pc2 := 46) rfl ?_
        refine pk_get (v := .ref (rf 3)) C i4_ (pw_atX 0 rfl) (ci := 4) rfl 3 (by decide) w3_ rfl rfl dX4_follow_46 (pc2 := 49) rfl ?_
        refine pk_dV (cx := [((rf 3), cC (rf 5) c2), ((rf 5), cS t2)]) (wr := [(x, cA rf ar), ((rf 0), .inl ((zG Z).2.2.2.2, 6, .inr (.inr (.inr (.inr pr))))), ((rf 1), .inl ((zG Z).2.2.2.1, 40, .inr (.inr (.inr (.inr er))))), ((rf 2), cC (rf 4) c1), ((rf 4), cS t1)]) (X2 := (aX (zG Z) x rf ar pr er c1 t1 c2 t2)) (st := [.ref e2_, .ref (rf 2)]) (st2 := [.long (m_X0_bookOrNone c2 t2), .ref e2_, .ref (rf 2)]) (As := []) C (c_X0_bookOrNone (zl Z) (zG Z) L F (rf 3) (rf 5) c2 t2) gX4_follow_X0_bookOrNone rfl rfl rfl 0 (by decide +kernel) ⟨Nat.le_of_ble_eq_true rfl, Nat.le_of_ble_eq_true rfl⟩ (pw_atX 5 rfl) rfl rfl rfl (Nat.le_of_ble_eq_true rfl) ⟨Nat.le_of_ble_eq_true rfl, Nat.le_of_ble_eq_true rfl⟩ [5, 6] [0, 1, 2, 3, 4] [0, 1, 2, 3, 4, 5, 6] rfl rfl rfl rfl (by decide) rfl rfl dX4_follow_49 (pc2 := 52) rfl rfl ?_
        refine pk_topl (fun n5_ en5_ => ?_)
        refine pk_dV (cx := [((rf 2), cC (rf 4) c1), ((rf 4), cS t1)]) (wr := [(x, cA rf ar), ((rf 0), .inl ((zG Z).2.2.2.2, 6, .inr (.inr (.inr (.inr pr))))), ((rf 1), .inl ((zG Z).2.2.2.1, 40, .inr (.inr (.inr (.inr er))))), ((rf 3), cC (rf 5) c2), ((rf 5), cS t2)]) (X2 := (aX (zG Z) x rf ar pr er ((m_X0_meet c1 t1 (evf e2_) n5_).1) ((m_X0_meet c1 t1 (evf e2_) n5_).2) c2 t2)) (st := []) (st2 := []) (As := [.ref e2_, .long n5_]) C (c_X0_meet (zl Z) (zG Z) L F (rf 2) (rf 4) c1 t1 e2_ (evf e2_) heve2_.1 heve2_.2 n5_) gX4_follow_X0_meet rfl rfl rfl 2 (by decide +kernel) ⟨Nat.le_of_ble_eq_true rfl, Nat.le_of_ble_eq_true rfl⟩ (pw_atX 3 rfl) rfl rfl rfl (Nat.le_of_ble_eq_true rfl) ⟨Nat.le_of_ble_eq_true rfl, Nat.le_of_ble_eq_true rfl⟩ [3, 4] [0, 1, 2, 5, 6] [0, 1, 2, 5, 6, 3, 4] rfl rfl rfl rfl (by decide) rfl rfl dX4_follow_52 (pc2 := 55) rfl rfl ?_
        generalize en6_ : ((m_X0_meet c1 t1 (evf e2_) n5_).1) = n6_
        generalize en7_ : ((m_X0_meet c1 t1 (evf e2_) n5_).2) = n7_
        refine pk_aload C 0 dX4_follow_55 rfl (pc2 := 57) rfl ?_
        refine pk_get (v := .int (E_ki (evf e2_))) C i1_ (pw_atP heve2_.1 heve2_.2) (ci := 1) rfl 2 (by decide) w4_ rfl rfl dX4_follow_57 (pc2 := 60) rfl ?_
        refine pk_iconst (v := 3) C dX4_follow_60 (by decide) (pc2 := 61) rfl ?_
        refine pk_icmp_eq (tgt := 85) C dX4_follow_61 (by decide) (pc2 := 64) rfl (fun h3_ => ?_) (fun h3_ => ?_)
        ·
          refine pk_aload_n C 1 dX4_follow_85 rfl rfl (pc2 := 86) rfl ?_
          refine pk_get (v := .ref (rf 2)) C i4_ (pw_atX 0 rfl) (ci := 4) rfl 2 (by decide) w1_ rfl rfl dX4_follow_86 (pc2 := 89) rfl ?_
          refine pk_aload_n C 2 dX4_follow_89 rfl rfl (pc2 := 90) rfl ?_
          refine pk_get (v := .ref u) C i2_ (pw_atP hp.1.1 hp.1.2) (ci := 2) rfl 6 (by decide) w2_ rfl rfl dX4_follow_90 (pc2 := 93) rfl ?_
          refine pk_iload_n C 4 dX4_follow_93 rfl rfl (pc2 := 94) rfl ?_
          refine pk_iald (v := (us (Int32.toNatClampNeg mm))) C (pw_atP hp.2.1.1 hp.2.1.2) hmi rfl dX4_follow_94 (pc2 := 95) rfl ?_
          refine pk_dV (cx := [((rf 2), cC (rf 4) n6_), ((rf 4), cS n7_)]) (wr := [(x, cA rf ar), ((rf 0), .inl ((zG Z).2.2.2.2, 6, .inr (.inr (.inr (.inr pr))))), ((rf 1), .inl ((zG Z).2.2.2.1, 40, .inr (.inr (.inr (.inr er))))), ((rf 3), cC (rf 5) c2), ((rf 5), cS t2)]) (X2 := (aX (zG Z) x rf ar pr er ((m_X0_chargeMonth n6_ n7_ (us (Int32.toNatClampNeg mm))).1) ((m_X0_chargeMonth n6_ n7_ (us (Int32.toNatClampNeg mm))).2) c2 t2)) (st := []) (st2 := []) (As := [.int (us (Int32.toNatClampNeg mm))]) C (c_X0_chargeMonth (zl Z) (zG Z) L F (rf 2) (rf 4) n6_ n7_ (us (Int32.toNatClampNeg mm))) gX4_follow_X0_chargeMonth rfl rfl rfl 1 (by decide +kernel) ⟨Nat.le_of_ble_eq_true rfl, Nat.le_of_ble_eq_true rfl⟩ (pw_atX 3 rfl) rfl rfl rfl (Nat.le_of_ble_eq_true rfl) ⟨Nat.le_of_ble_eq_true rfl, Nat.le_of_ble_eq_true rfl⟩ [3, 4] [0, 1, 2, 5, 6] [0, 1, 2, 5, 6, 3, 4] rfl rfl rfl rfl (by decide) rfl rfl dX4_follow_95 (pc2 := 98) rfl rfl ?_
          generalize en8_ : ((m_X0_chargeMonth n6_ n7_ (us (Int32.toNatClampNeg mm))).1) = n8_
          generalize en9_ : ((m_X0_chargeMonth n6_ n7_ (us (Int32.toNatClampNeg mm))).2) = n9_
          refine pk_aload_n C 1 dX4_follow_98 rfl rfl (pc2 := 99) rfl ?_
          refine pk_get (v := .ref (rf 3)) C i4_ (pw_atX 0 rfl) (ci := 4) rfl 3 (by decide) w3_ rfl rfl dX4_follow_99 (pc2 := 102) rfl ?_
          refine pk_aload_n C 2 dX4_follow_102 rfl rfl (pc2 := 103) rfl ?_
          refine pk_get (v := .ref u) C i2_ (pw_atP hp.1.1 hp.1.2) (ci := 2) rfl 6 (by decide) w2_ rfl rfl dX4_follow_103 (pc2 := 106) rfl ?_
          refine pk_iload_n C 4 dX4_follow_106 rfl rfl (pc2 := 107) rfl ?_
          refine pk_iald (v := (us (Int32.toNatClampNeg mm))) C (pw_atP hp.2.1.1 hp.2.1.2) hmi rfl dX4_follow_107 (pc2 := 108) rfl ?_
          refine pk_dV (cx := [((rf 3), cC (rf 5) c2), ((rf 5), cS t2)]) (wr := [(x, cA rf ar), ((rf 0), .inl ((zG Z).2.2.2.2, 6, .inr (.inr (.inr (.inr pr))))), ((rf 1), .inl ((zG Z).2.2.2.1, 40, .inr (.inr (.inr (.inr er))))), ((rf 2), cC (rf 4) n8_), ((rf 4), cS n9_)]) (X2 := (aX (zG Z) x rf ar pr er n8_ n9_ ((m_X0_chargeMonth c2 t2 (us (Int32.toNatClampNeg mm))).1) ((m_X0_chargeMonth c2 t2 (us (Int32.toNatClampNeg mm))).2))) (st := []) (st2 := []) (As := [.int (us (Int32.toNatClampNeg mm))]) C (c_X0_chargeMonth (zl Z) (zG Z) L F (rf 3) (rf 5) c2 t2 (us (Int32.toNatClampNeg mm))) gX4_follow_X0_chargeMonth rfl rfl rfl 1 (by decide +kernel) ⟨Nat.le_of_ble_eq_true rfl, Nat.le_of_ble_eq_true rfl⟩ (pw_atX 5 rfl) rfl rfl rfl (Nat.le_of_ble_eq_true rfl) ⟨Nat.le_of_ble_eq_true rfl, Nat.le_of_ble_eq_true rfl⟩ [5, 6] [0, 1, 2, 3, 4] [0, 1, 2, 3, 4, 5, 6] rfl rfl rfl rfl (by decide) rfl rfl dX4_follow_108 (pc2 := 111) rfl rfl ?_
          generalize en10_ : ((m_X0_chargeMonth c2 t2 (us (Int32.toNatClampNeg mm))).1) = n10_
          generalize en11_ : ((m_X0_chargeMonth c2 t2 (us (Int32.toNatClampNeg mm))).2) = n11_
          refine pk_iinc (v := (mm + 1)) (lv' := [(3, .int (mm + 1)), (4, .ref e2_), (0, .ref x), (1, .ref p), (2, .int last)]) C 4 dX4_follow_111 rfl rfl (by decide) rfl (pc2 := 114) rfl ?_
          refine pk_goto (tgt := 21) C dX4_follow_114 (by decide) ?_
          refine pw_lv [2, 3, 4, 0] (lv' := [(0, .ref x), (1, .ref p), (2, .int last), (3, .int (mm + 1))]) rfl ?_
          subst en5_ en6_ en7_ en8_ en9_ en10_ en11_
          rw [m_X4_follow_l_s, if_neg h1_] at hR
          simp only [h2_] at hR
          rw [if_pos h3_] at hR
          exact ih (k + 1) ((m_X0_chargeMonth ((m_X0_meet c1 t1 (evf e2_) (m_X0_bookOrNone c2 t2)).1) ((m_X0_meet c1 t1 (evf e2_) (m_X0_bookOrNone c2 t2)).2) (us (Int32.toNatClampNeg mm))).1) ((m_X0_chargeMonth ((m_X0_meet c1 t1 (evf e2_) (m_X0_bookOrNone c2 t2)).1) ((m_X0_meet c1 t1 (evf e2_) (m_X0_bookOrNone c2 t2)).2) (us (Int32.toNatClampNeg mm))).2) ((m_X0_chargeMonth c2 t2 (us (Int32.toNatClampNeg mm))).1) ((m_X0_chargeMonth c2 t2 (us (Int32.toNatClampNeg mm))).2) (mm + 1) (by omega) (by omega) (by rw [he, nI_1]) hR
        ·
          refine pk_aload C 0 dX4_follow_64 rfl (pc2 := 66) rfl ?_
          refine pk_get (v := .int (E_ki (evf e2_))) C i1_ (pw_atP heve2_.1 heve2_.2) (ci := 1) rfl 2 (by decide) w4_ rfl rfl dX4_follow_66 (pc2 := 69) rfl ?_
          refine pk_iconst (v := 4) C dX4_follow_69 (by decide) (pc2 := 70) rfl ?_
          refine pk_icmp_eq (tgt := 85) C dX4_follow_70 (by decide) (pc2 := 73) rfl (fun h4_ => ?_) (fun h4_ => ?_)
          ·
            refine pk_aload_n C 1 dX4_follow_85 rfl rfl (pc2 := 86) rfl ?_
            refine pk_get (v := .ref (rf 2)) C i4_ (pw_atX 0 rfl) (ci := 4) rfl 2 (by decide) w1_ rfl rfl dX4_follow_86 (pc2 := 89) rfl ?_
            refine pk_aload_n C 2 dX4_follow_89 rfl rfl (pc2 := 90) rfl ?_
            refine pk_get (v := .ref u) C i2_ (pw_atP hp.1.1 hp.1.2) (ci := 2) rfl 6 (by decide) w2_ rfl rfl dX4_follow_90 (pc2 := 93) rfl ?_
            refine pk_iload_n C 4 dX4_follow_93 rfl rfl (pc2 := 94) rfl ?_
            refine pk_iald (v := (us (Int32.toNatClampNeg mm))) C (pw_atP hp.2.1.1 hp.2.1.2) hmi rfl dX4_follow_94 (pc2 := 95) rfl ?_
            refine pk_dV (cx := [((rf 2), cC (rf 4) n6_), ((rf 4), cS n7_)]) (wr := [(x, cA rf ar), ((rf 0), .inl ((zG Z).2.2.2.2, 6, .inr (.inr (.inr (.inr pr))))), ((rf 1), .inl ((zG Z).2.2.2.1, 40, .inr (.inr (.inr (.inr er))))), ((rf 3), cC (rf 5) c2), ((rf 5), cS t2)]) (X2 := (aX (zG Z) x rf ar pr er ((m_X0_chargeMonth n6_ n7_ (us (Int32.toNatClampNeg mm))).1) ((m_X0_chargeMonth n6_ n7_ (us (Int32.toNatClampNeg mm))).2) c2 t2)) (st := []) (st2 := []) (As := [.int (us (Int32.toNatClampNeg mm))]) C (c_X0_chargeMonth (zl Z) (zG Z) L F (rf 2) (rf 4) n6_ n7_ (us (Int32.toNatClampNeg mm))) gX4_follow_X0_chargeMonth rfl rfl rfl 1 (by decide +kernel) ⟨Nat.le_of_ble_eq_true rfl, Nat.le_of_ble_eq_true rfl⟩ (pw_atX 3 rfl) rfl rfl rfl (Nat.le_of_ble_eq_true rfl) ⟨Nat.le_of_ble_eq_true rfl, Nat.le_of_ble_eq_true rfl⟩ [3, 4] [0, 1, 2, 5, 6] [0, 1, 2, 5, 6, 3, 4] rfl rfl rfl rfl (by decide) rfl rfl dX4_follow_95 (pc2 := 98) rfl rfl ?_
            generalize en12_ : ((m_X0_chargeMonth n6_ n7_ (us (Int32.toNatClampNeg mm))).1) = n12_
            generalize en13_ : ((m_X0_chargeMonth n6_ n7_ (us (Int32.toNatClampNeg mm))).2) = n13_
            refine pk_aload_n C 1 dX4_follow_98 rfl rfl (pc2 := 99) rfl ?_
            refine pk_get (v := .ref (rf 3)) C i4_ (pw_atX 0 rfl) (ci := 4) rfl 3 (by decide) w3_ rfl rfl dX4_follow_99 (pc2 := 102) rfl ?_
            refine pk_aload_n C 2 dX4_follow_102 rfl rfl (pc2 := 103) rfl ?_
            refine pk_get (v := .ref u) C i2_ (pw_atP hp.1.1 hp.1.2) (ci := 2) rfl 6 (by decide) w2_ rfl rfl dX4_follow_103 (pc2 := 106) rfl ?_
            refine pk_iload_n C 4 dX4_follow_106 rfl rfl (pc2 := 107) rfl ?_
            refine pk_iald (v := (us (Int32.toNatClampNeg mm))) C (pw_atP hp.2.1.1 hp.2.1.2) hmi rfl dX4_follow_107 (pc2 := 108) rfl ?_
            refine pk_dV (cx := [((rf 3), cC (rf 5) c2), ((rf 5), cS t2)]) (wr := [(x, cA rf ar), ((rf 0), .inl ((zG Z).2.2.2.2, 6, .inr (.inr (.inr (.inr pr))))), ((rf 1), .inl ((zG Z).2.2.2.1, 40, .inr (.inr (.inr (.inr er))))), ((rf 2), cC (rf 4) n12_), ((rf 4), cS n13_)]) (X2 := (aX (zG Z) x rf ar pr er n12_ n13_ ((m_X0_chargeMonth c2 t2 (us (Int32.toNatClampNeg mm))).1) ((m_X0_chargeMonth c2 t2 (us (Int32.toNatClampNeg mm))).2))) (st := []) (st2 := []) (As := [.int (us (Int32.toNatClampNeg mm))]) C (c_X0_chargeMonth (zl Z) (zG Z) L F (rf 3) (rf 5) c2 t2 (us (Int32.toNatClampNeg mm))) gX4_follow_X0_chargeMonth rfl rfl rfl 1 (by decide +kernel) ⟨Nat.le_of_ble_eq_true rfl, Nat.le_of_ble_eq_true rfl⟩ (pw_atX 5 rfl) rfl rfl rfl (Nat.le_of_ble_eq_true rfl) ⟨Nat.le_of_ble_eq_true rfl, Nat.le_of_ble_eq_true rfl⟩ [5, 6] [0, 1, 2, 3, 4] [0, 1, 2, 3, 4, 5, 6] rfl rfl rfl rfl (by decide) rfl rfl dX4_follow_108 (pc2 := 111) rfl rfl ?_
            generalize en14_ : ((m_X0_chargeMonth c2 t2 (us (Int32.toNatClampNeg mm))).1) = n14_
            generalize en15_ : ((m_X0_chargeMonth c2 t2 (us (Int32.toNatClampNeg mm))).2) = n15_
            refine pk_iinc (v := (mm + 1)) (lv' := [(3, .int (mm + 1)), (4, .ref e2_), (0, .ref x), (1, .ref p), (2, .int last)]) C 4 dX4_follow_111 rfl rfl (by decide) rfl (pc2 := 114) rfl ?_
            refine pk_goto (tgt := 21) C dX4_follow_114 (by decide) ?_
            refine pw_lv [2, 3, 4, 0] (lv' := [(0, .ref x), (1, .ref p), (2, .int last), (3, .int (mm + 1))]) rfl ?_
            subst en5_ en6_ en7_ en12_ en13_ en14_ en15_
            rw [m_X4_follow_l_s, if_neg h1_] at hR
            simp only [h2_] at hR
            rw [if_neg h3_, if_pos h4_] at hR
            exact ih (k + 1) ((m_X0_chargeMonth ((m_X0_meet c1 t1 (evf e2_) (m_X0_bookOrNone c2 t2)).1) ((m_X0_meet c1 t1 (evf e2_) (m_X0_bookOrNone c2 t2)).2) (us (Int32.toNatClampNeg mm))).1) ((m_X0_chargeMonth ((m_X0_meet c1 t1 (evf e2_) (m_X0_bookOrNone c2 t2)).1) ((m_X0_meet c1 t1 (evf e2_) (m_X0_bookOrNone c2 t2)).2) (us (Int32.toNatClampNeg mm))).2) ((m_X0_chargeMonth c2 t2 (us (Int32.toNatClampNeg mm))).1) ((m_X0_chargeMonth c2 t2 (us (Int32.toNatClampNeg mm))).2) (mm + 1) (by omega) (by omega) (by rw [he, nI_1]) hR
          ·
            refine pk_aload_n C 1 dX4_follow_73 rfl rfl (pc2 := 74) rfl ?_
            refine pk_get (v := .ref (rf 3)) C i4_ (pw_atX 0 rfl) (ci := 4) rfl 3 (by decide) w3_ rfl rfl dX4_follow_74 (pc2 := 77) rfl ?_
            refine pk_aload C 0 dX4_follow_77 rfl (pc2 := 79) rfl ?_
            refine pk_ldc2 C w5_ dX4_follow_79 (pc2 := 82) rfl ?_
            refine pk_dV (cx := [((rf 3), cC (rf 5) c2), ((rf 5), cS t2)]) (wr := [(x, cA rf ar), ((rf 0), .inl ((zG Z).2.2.2.2, 6, .inr (.inr (.inr (.inr pr))))), ((rf 1), .inl ((zG Z).2.2.2.1, 40, .inr (.inr (.inr (.inr er))))), ((rf 2), cC (rf 4) n6_), ((rf 4), cS n7_)]) (X2 := (aX (zG Z) x rf ar pr er n6_ n7_ ((m_X0_meet c2 t2 (evf e2_) (-1)).1) ((m_X0_meet c2 t2 (evf e2_) (-1)).2))) (st := []) (st2 := []) (As := [.ref e2_, .long (-1)]) C (c_X0_meet (zl Z) (zG Z) L F (rf 3) (rf 5) c2 t2 e2_ (evf e2_) heve2_.1 heve2_.2 (-1)) gX4_follow_X0_meet rfl rfl rfl 2 (by decide +kernel) ⟨Nat.le_of_ble_eq_true rfl, Nat.le_of_ble_eq_true rfl⟩ (pw_atX 5 rfl) rfl rfl rfl (Nat.le_of_ble_eq_true rfl) ⟨Nat.le_of_ble_eq_true rfl, Nat.le_of_ble_eq_true rfl⟩ [5, 6] [0, 1, 2, 3, 4] [0, 1, 2, 3, 4, 5, 6] rfl rfl rfl rfl (by decide) rfl rfl dX4_follow_82 (pc2 := 85) rfl rfl ?_
            generalize en16_ : ((m_X0_meet c2 t2 (evf e2_) (-1)).1) = n16_
            generalize en17_ : ((m_X0_meet c2 t2 (evf e2_) (-1)).2) = n17_
            refine pk_aload_n C 1 dX4_follow_85 rfl rfl (pc2 := 86) rfl ?_
            refine pk_get (v := .ref (rf 2)) C i4_ (pw_atX 0 rfl) (ci := 4) rfl 2 (by decide) w1_ rfl rfl dX4_follow_86 (pc2 := 89) rfl ?_
            refine pk_aload_n C 2 dX4_follow_89 rfl rfl (pc2 := 90) rfl ?_
            refine pk_get (v := .ref u) C i2_ (pw_atP hp.1.1 hp.1.2) (ci := 2) rfl 6 (by decide) w2_ rfl rfl dX4_follow_90 (pc2 := 93) rfl ?_
            refine pk_iload_n C 4 dX4_follow_93 rfl rfl (pc2 := 94) rfl ?_
            refine pk_iald (v := (us (Int32.toNatClampNeg mm))) C (pw_atP hp.2.1.1 hp.2.1.2) hmi rfl dX4_follow_94 (pc2 := 95) rfl ?_
            refine pk_dV (cx := [((rf 2), cC (rf 4) n6_), ((rf 4), cS n7_)]) (wr := [(x, cA rf ar), ((rf 0), .inl ((zG Z).2.2.2.2, 6, .inr (.inr (.inr (.inr pr))))), ((rf 1), .inl ((zG Z).2.2.2.1, 40, .inr (.inr (.inr (.inr er))))), ((rf 3), cC (rf 5) n16_), ((rf 5), cS n17_)]) (X2 := (aX (zG Z) x rf ar pr er ((m_X0_chargeMonth n6_ n7_ (us (Int32.toNatClampNeg mm))).1) ((m_X0_chargeMonth n6_ n7_ (us (Int32.toNatClampNeg mm))).2) n16_ n17_)) (st := []) (st2 := []) (As := [.int (us (Int32.toNatClampNeg mm))]) C (c_X0_chargeMonth (zl Z) (zG Z) L F (rf 2) (rf 4) n6_ n7_ (us (Int32.toNatClampNeg mm))) gX4_follow_X0_chargeMonth rfl rfl rfl 1 (by decide +kernel) ⟨Nat.le_of_ble_eq_true rfl, Nat.le_of_ble_eq_true rfl⟩ (pw_atX 3 rfl) rfl rfl rfl (Nat.le_of_ble_eq_true rfl) ⟨Nat.le_of_ble_eq_true rfl, Nat.le_of_ble_eq_true rfl⟩ [3, 4] [0, 1, 2, 5, 6] [0, 1, 2, 5, 6, 3, 4] rfl rfl rfl rfl (by decide) rfl rfl dX4_follow_95 (pc2 := 98) rfl rfl ?_
            generalize en18_ : ((m_X0_chargeMonth n6_ n7_ (us (Int32.toNatClampNeg mm))).1) = n18_
            generalize en19_ : ((m_X0_chargeMonth n6_ n7_ (us (Int32.toNatClampNeg mm))).2) = n19_
            refine pk_aload_n C 1 dX4_follow_98 rfl rfl (pc2 := 99) rfl ?_
            refine pk_get (v := .ref (rf 3)) C i4_ (pw_atX 0 rfl) (ci := 4) rfl 3 (by decide) w3_ rfl rfl dX4_follow_99 (pc2 := 102) rfl ?_
            refine pk_aload_n C 2 dX4_follow_102 rfl rfl (pc2 := 103) rfl ?_
            refine pk_get (v := .ref u) C i2_ (pw_atP hp.1.1 hp.1.2) (ci := 2) rfl 6 (by decide) w2_ rfl rfl dX4_follow_103 (pc2 := 106) rfl ?_
            refine pk_iload_n C 4 dX4_follow_106 rfl rfl (pc2 := 107) rfl ?_
            refine pk_iald (v := (us (Int32.toNatClampNeg mm))) C (pw_atP hp.2.1.1 hp.2.1.2) hmi rfl dX4_follow_107 (pc2 := 108) rfl ?_
            refine pk_dV (cx := [((rf 3), cC (rf 5) n16_), ((rf 5), cS n17_)]) (wr := [(x, cA rf ar), ((rf 0), .inl ((zG Z).2.2.2.2, 6, .inr (.inr (.inr (.inr pr))))), ((rf 1), .inl ((zG Z).2.2.2.1, 40, .inr (.inr (.inr (.inr er))))), ((rf 2), cC (rf 4) n18_), ((rf 4), cS n19_)]) (X2 := (aX (zG Z) x rf ar pr er n18_ n19_ ((m_X0_chargeMonth n16_ n17_ (us (Int32.toNatClampNeg mm))).1) ((m_X0_chargeMonth n16_ n17_ (us (Int32.toNatClampNeg mm))).2))) (st := []) (st2 := []) (As := [.int (us (Int32.toNatClampNeg mm))]) C (c_X0_chargeMonth (zl Z) (zG Z) L F (rf 3) (rf 5) n16_ n17_ (us (Int32.toNatClampNeg mm))) gX4_follow_X0_chargeMonth rfl rfl rfl 1 (by decide +kernel) ⟨Nat.le_of_ble_eq_true rfl, Nat.le_of_ble_eq_true rfl⟩ (pw_atX 5 rfl) rfl rfl rfl (Nat.le_of_ble_eq_true rfl) ⟨Nat.le_of_ble_eq_true rfl, Nat.le_of_ble_eq_true rfl⟩ [5, 6] [0, 1, 2, 3, 4] [0, 1, 2, 3, 4, 5, 6] rfl rfl rfl rfl (by decide) rfl rfl dX4_follow_108 (pc2 := 111) rfl rfl ?_
            generalize en20_ : ((m_X0_chargeMonth n16_ n17_ (us (Int32.toNatClampNeg mm))).1) = n20_
            generalize en21_ : ((m_X0_chargeMonth n16_ n17_ (us (Int32.toNatClampNeg mm))).2) = n21_
            refine pk_iinc (v := (mm + 1)) (lv' := [(3, .int (mm + 1)), (4, .ref e2_), (0, .ref x), (1, .ref p), (2, .int last)]) C 4 dX4_follow_111 rfl rfl (by decide) rfl (pc2 := 114) rfl ?_
            refine pk_goto (tgt := 21) C dX4_follow_114 (by decide) ?_
            refine pw_lv [2, 3, 4, 0] (lv' := [(0, .ref x), (1, .ref p), (2, .int last), (3, .int (mm + 1))]) rfl ?_
            subst en5_ en6_ en7_ en16_ en17_ en18_ en19_ en20_ en21_
            rw [m_X4_follow_l_s, if_neg h1_] at hR
            simp only [h2_] at hR
            rw [if_neg h3_, if_neg h4_] at hR
            exact ih (k + 1) ((m_X0_chargeMonth ((m_X0_meet c1 t1 (evf e2_) (m_X0_bookOrNone c2 t2)).1) ((m_X0_meet c1 t1 (evf e2_) (m_X0_bookOrNone c2 t2)).2) (us (Int32.toNatClampNeg mm))).1) ((m_X0_chargeMonth ((m_X0_meet c1 t1 (evf e2_) (m_X0_bookOrNone c2 t2)).1) ((m_X0_meet c1 t1 (evf e2_) (m_X0_bookOrNone c2 t2)).2) (us (Int32.toNatClampNeg mm))).2) ((m_X0_chargeMonth ((m_X0_meet c2 t2 (evf e2_) (-1)).1) ((m_X0_meet c2 t2 (evf e2_) (-1)).2) (us (Int32.toNatClampNeg mm))).1) ((m_X0_chargeMonth ((m_X0_meet c2 t2 (evf e2_) (-1)).1) ((m_X0_meet c2 t2 (evf e2_) (-1)).2) (us (Int32.toNatClampNeg mm))).2) (mm + 1) (by omega) (by omega) (by rw [he, nI_1]) hR
set_option maxRecDepth 100000 in
set_option maxHeartbeats 2000000 in
theorem c_X4_follow (l : Launch) (G : pw_G) (L : List Nat) (F : Nat → va_E) (x : Nat) (rf : Nat → Nat) (ar : AR) (pr er : Nat → Option Nat) (cf : CR) (tf : SR) (cb : CR) (tb : SR) (p u w q : Nat) (pt : PR) (us : Nat → Int32) (es : Nat → Option Nat) (ps : Nat → Int64) (evf : Nat → ER) (hp : pA G L F p u w q pt us es ps evf) (fm : Nat) (hfm : fm ≤ 35) (hfi : P_fi pt = nI fm) (last : Int32) (hla : last.toInt ≤ 35) : PM l yX4_follow wsX4_follow ⟨5, 0, 0, 105⟩ G [.ref x, .ref p, .int last] (aX G x rf ar pr er cf tf cb tb) L F 0 0 (po_d none (aX G x rf ar pr er ((m_X4_follow pt us es evf cf tf cb tb last).1) ((m_X4_follow pt us es evf cf tf cb tb last).2.1) ((m_X4_follow pt us es evf cf tf cb tb last).2.2.1) ((m_X4_follow pt us es evf cf tf cb tb last).2.2.2)) L F) := by
  refine pm_entry (by decide) rfl rfl (Nat.le_of_ble_eq_true rfl) ?_
  intro Z Q C hl0 hG0 hnm hE
  subst hl0
  subst hG0
  have i4_ : ∀ w ∈ wsX40, w ∈ wsX4_follow := by decide +kernel
  have i2_ : ∀ w ∈ wsX20, w ∈ wsX4_follow := by decide +kernel
  have w0_ : Cond.fieldLink RX4 24 "AgedAssets" "full" "LAgedAssets$Course;" ∈ wsX4_follow := by decide +kernel
  have w1_ : Cond.fieldLink RX4 28 "AgedAssets" "bare" "LAgedAssets$Course;" ∈ wsX4_follow := by decide +kernel
  have w2_ : Cond.fieldLink RX4 84 "AgedAssets$Part" "firstMonth" "I" ∈ wsX4_follow := by decide +kernel
  show PW Z (aX (zG Z) x rf ar pr er cf tf cb tb) L F 0 0 Q 0 [(0, .ref x), (1, .ref p), (2, .int last)] []
  refine pk_aload_n C 0 dX4_follow_0 rfl rfl (pc2 := 1) rfl ?_
  refine pk_get (v := .ref (rf 2)) C i4_ (pw_atX 0 rfl) (ci := 4) rfl 2 (by decide) w0_ rfl rfl dX4_follow_1 (pc2 := 4) rfl ?_
  refine pk_aload_n C 1 dX4_follow_4 rfl rfl (pc2 := 5) rfl ?_
  refine pk_dV (cx := [((rf 2), cC (rf 4) cf), ((rf 4), cS tf)]) (wr := [(x, cA rf ar), ((rf 0), .inl ((zG Z).2.2.2.2, 6, .inr (.inr (.inr (.inr pr))))), ((rf 1), .inl ((zG Z).2.2.2.1, 40, .inr (.inr (.inr (.inr er))))), ((rf 3), cC (rf 5) cb), ((rf 5), cS tb)]) (X2 := (aX (zG Z) x rf ar pr er ((m_X0_open cf tf pt).1) ((m_X0_open cf tf pt).2) cb tb)) (st := []) (st2 := []) (As := [.ref p]) C (c_X0_open (zl Z) (zG Z) L F (rf 2) (rf 4) cf tf p u w q pt hp.1.1 hp.1.2) gX4_follow_X0_open rfl rfl rfl 1 (by decide +kernel) ⟨Nat.le_of_ble_eq_true rfl, Nat.le_of_ble_eq_true rfl⟩ (pw_atX 3 rfl) rfl rfl rfl (Nat.le_of_ble_eq_true rfl) ⟨Nat.le_of_ble_eq_true rfl, Nat.le_of_ble_eq_true rfl⟩ [3, 4] [0, 1, 2, 5, 6] [0, 1, 2, 5, 6, 3, 4] rfl rfl rfl rfl (by decide) rfl rfl dX4_follow_5 (pc2 := 8) rfl rfl ?_
  generalize en1_ : ((m_X0_open cf tf pt).1) = n1_
  generalize en2_ : ((m_X0_open cf tf pt).2) = n2_
  refine pk_aload_n C 0 dX4_follow_8 rfl rfl (pc2 := 9) rfl ?_
  refine pk_get (v := .ref (rf 3)) C i4_ (pw_atX 0 rfl) (ci := 4) rfl 3 (by decide) w1_ rfl rfl dX4_follow_9 (pc2 := 12) rfl ?_
  refine pk_aload_n C 1 dX4_follow_12 rfl rfl (pc2 := 13) rfl ?_
  refine pk_dV (cx := [((rf 3), cC (rf 5) cb), ((rf 5), cS tb)]) (wr := [(x, cA rf ar), ((rf 0), .inl ((zG Z).2.2.2.2, 6, .inr (.inr (.inr (.inr pr))))), ((rf 1), .inl ((zG Z).2.2.2.1, 40, .inr (.inr (.inr (.inr er))))), ((rf 2), cC (rf 4) n1_), ((rf 4), cS n2_)]) (X2 := (aX (zG Z) x rf ar pr er n1_ n2_ ((m_X0_open cb tb pt).1) ((m_X0_open cb tb pt).2))) (st := []) (st2 := []) (As := [.ref p]) C (c_X0_open (zl Z) (zG Z) L F (rf 3) (rf 5) cb tb p u w q pt hp.1.1 hp.1.2) gX4_follow_X0_open rfl rfl rfl 1 (by decide +kernel) ⟨Nat.le_of_ble_eq_true rfl, Nat.le_of_ble_eq_true rfl⟩ (pw_atX 5 rfl) rfl rfl rfl (Nat.le_of_ble_eq_true rfl) ⟨Nat.le_of_ble_eq_true rfl, Nat.le_of_ble_eq_true rfl⟩ [5, 6] [0, 1, 2, 3, 4] [0, 1, 2, 3, 4, 5, 6] rfl rfl rfl rfl (by decide) rfl rfl dX4_follow_13 (pc2 := 16) rfl rfl ?_
  generalize en3_ : ((m_X0_open cb tb pt).1) = n3_
  generalize en4_ : ((m_X0_open cb tb pt).2) = n4_
  refine pk_aload_n C 1 dX4_follow_16 rfl rfl (pc2 := 17) rfl ?_
  refine pk_get (v := .int (P_fi pt)) C i2_ (pw_atP hp.1.1 hp.1.2) (ci := 2) rfl 2 (by decide) w2_ rfl rfl dX4_follow_17 (pc2 := 20) rfl ?_
  refine pk_istore_n (lv' := [(3, .int (P_fi pt)), (0, .ref x), (1, .ref p), (2, .int last)]) C dX4_follow_20 rfl (by decide) rfl (pc2 := 21) rfl ?_
  refine pw_lv [1, 2, 3, 0] (lv' := [(0, .ref x), (1, .ref p), (2, .int last), (3, .int (P_fi pt))]) rfl ?_
  subst en1_ en2_ en3_ en4_
  exact l_X4_follow C hE hp hla 37 fm ((m_X0_open cf tf pt).1) ((m_X0_open cf tf pt).2) ((m_X0_open cb tb pt).1) ((m_X0_open cb tb pt).2) (P_fi pt) (by omega) (by omega) hfi rfl

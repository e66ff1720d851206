def m_X4_isWithin (v : Int64) (lo : Int64) (hi : Int64) : Int32 :=
  if v < lo then 0 else if hi < v then 0 else 1
set_option maxRecDepth 100000 in
set_option maxHeartbeats 2000000 in
theorem c_X4_isWithin (l : Launch) (G : pw_G) (L : List Nat) (F : Nat → va_E)  (v : Int64) (lo : Int64) (hi : Int64) : PM l yX4_isWithin wsX4_isWithin ⟨0, 0, 0, 0⟩ G [.long v, .long lo, .long hi] [] L F 0 0 (po_d (some (.int (m_X4_isWithin v lo hi))) [] L F) := by
  refine pm_entry (by decide) rfl rfl (Nat.le_of_ble_eq_true rfl) ?_
  intro Z Q C hl0 hG0 hnm hE
  subst hl0
  subst hG0
  show PW Z [] L F 0 0 Q 0 [(0, .long v), (2, .long lo), (4, .long hi)] []
  refine pk_lload_n C 0 dX4_isWithin_0 rfl rfl (pc2 := 1) rfl ?_
  refine pk_lload_n C 1 dX4_isWithin_1 rfl rfl (pc2 := 2) rfl ?_
  refine pk_lcmp_lt (tgt := 17) C dX4_isWithin_2 dX4_isWithin_3 (pc1 := 3) rfl (by decide) (pc2 := 6) rfl (fun h1_ => ?_) (fun h1_ => ?_)
  ·
    refine pk_iconst (v := 0) C dX4_isWithin_17 (by decide) (pc2 := 18) rfl ?_
    exact pr_int (ty := .boolean) C hE rfl rfl (po_d_rfl (by first | with_reducible rfl | (unfold m_X4_isWithin; rw [if_pos h1_])) (by first | with_reducible rfl | (unfold m_X4_isWithin; rw [if_pos h1_]))) dX4_isWithin_18
  ·
    refine pk_lload_n C 0 dX4_isWithin_6 rfl rfl (pc2 := 7) rfl ?_
    refine pk_lload C 2 dX4_isWithin_7 rfl (pc2 := 9) rfl ?_
    refine pk_lcmp_gt (tgt := 17) C dX4_isWithin_9 dX4_isWithin_10 (pc1 := 10) rfl (by decide) (pc2 := 13) rfl (fun h2_ => ?_) (fun h2_ => ?_)
    ·
      refine pk_iconst (v := 0) C dX4_isWithin_17 (by decide) (pc2 := 18) rfl ?_
      exact pr_int (ty := .boolean) C hE rfl rfl (po_d_rfl (by first | with_reducible rfl | (unfold m_X4_isWithin; rw [if_neg h1_, if_pos h2_])) (by first | with_reducible rfl | (unfold m_X4_isWithin; rw [if_neg h1_, if_pos h2_]))) dX4_isWithin_18
    ·
      refine pk_iconst (v := 1) C dX4_isWithin_13 (by decide) (pc2 := 14) rfl ?_
      refine pk_goto (tgt := 18) C dX4_isWithin_14 (by decide) ?_
      exact pr_int (ty := .boolean) C hE rfl rfl (po_d_rfl (by first | with_reducible rfl | (unfold m_X4_isWithin; rw [if_neg h1_, if_neg h2_])) (by first | with_reducible rfl | (unfold m_X4_isWithin; rw [if_neg h1_, if_neg h2_]))) dX4_isWithin_18
theorem zb_m_X4_isWithin (v : Int64) (lo : Int64) (hi : Int64) : (m_X4_isWithin v lo hi) = 0 ∨ (m_X4_isWithin v lo hi) = 1 := by
  unfold m_X4_isWithin
  repeat (first | split | (exact Or.inl rfl) | (exact Or.inr rfl) | assumption)
def m_X4_isMonth (mm : Int32) : Int32 :=
  if mm < 0 then 0 else if 36 ≤ mm then 0 else 1
set_option maxRecDepth 100000 in
set_option maxHeartbeats 2000000 in
theorem c_X4_isMonth (l : Launch) (G : pw_G) (L : List Nat) (F : Nat → va_E)  (mm : Int32) : PM l yX4_isMonth wsX4_isMonth ⟨0, 0, 0, 0⟩ G [.int mm] [] L F 0 0 (po_d (some (.int (m_X4_isMonth mm))) [] L F) := by
  refine pm_entry (by decide) rfl rfl (Nat.le_of_ble_eq_true rfl) ?_
  intro Z Q C hl0 hG0 hnm hE
  subst hl0
  subst hG0
  show PW Z [] L F 0 0 Q 0 [(0, .int mm)] []
  refine pk_iload_n C 0 dX4_isMonth_0 rfl rfl (pc2 := 1) rfl ?_
  refine pk_if_lt (tgt := 14) C dX4_isMonth_1 (by decide) (pc2 := 4) rfl (fun h1_ => ?_) (fun h1_ => ?_)
  ·
    refine pk_iconst (v := 0) C dX4_isMonth_14 (by decide) (pc2 := 15) rfl ?_
    exact pr_int (ty := .boolean) C hE rfl rfl (po_d_rfl (by first | with_reducible rfl | (unfold m_X4_isMonth; rw [if_pos h1_])) (by first | with_reducible rfl | (unfold m_X4_isMonth; rw [if_pos h1_]))) dX4_isMonth_15
  ·
    refine pk_iload_n C 0 dX4_isMonth_4 rfl rfl (pc2 := 5) rfl ?_
    refine pk_bipush (v := 36) C dX4_isMonth_5 (by decide) (pc2 := 7) rfl ?_
    refine pk_icmp_ge (tgt := 14) C dX4_isMonth_7 (by decide) (pc2 := 10) rfl (fun h2_ => ?_) (fun h2_ => ?_)
    ·
      refine pk_iconst (v := 0) C dX4_isMonth_14 (by decide) (pc2 := 15) rfl ?_
      exact pr_int (ty := .boolean) C hE rfl rfl (po_d_rfl (by first | with_reducible rfl | (unfold m_X4_isMonth; rw [if_neg h1_, if_pos h2_])) (by first | with_reducible rfl | (unfold m_X4_isMonth; rw [if_neg h1_, if_pos h2_]))) dX4_isMonth_15
    ·
      refine pk_iconst (v := 1) C dX4_isMonth_10 (by decide) (pc2 := 11) rfl ?_
      refine pk_goto (tgt := 15) C dX4_isMonth_11 (by decide) ?_
      exact pr_int (ty := .boolean) C hE rfl rfl (po_d_rfl (by first | with_reducible rfl | (unfold m_X4_isMonth; rw [if_neg h1_, if_neg h2_])) (by first | with_reducible rfl | (unfold m_X4_isMonth; rw [if_neg h1_, if_neg h2_]))) dX4_isMonth_15
theorem zb_m_X4_isMonth (mm : Int32) : (m_X4_isMonth mm) = 0 ∨ (m_X4_isMonth mm) = 1 := by
  unfold m_X4_isMonth
  repeat (first | split | (exact Or.inl rfl) | (exact Or.inr rfl) | assumption)
def m_X4_isRateOf (me : Int32) (ra : Int32) : Int32 :=
  if me = 0 then if ra = 0 then 1 else 0 else if me = 1 then (m_X4_isWithin (Int32.toInt64 ra) 1 (1000000)) else if me = 2 then if ra = 0 then 1 else 0 else if me = 3 then (m_X4_isWithin (Int32.toInt64 ra) 1 (1000000)) else 0
set_option maxRecDepth 100000 in
set_option maxHeartbeats 2000000 in
theorem c_X4_isRateOf (l : Launch) (G : pw_G) (L : List Nat) (F : Nat → va_E)  (me : Int32) (ra : Int32) : PM l yX4_isRateOf wsX4_isRateOf ⟨1, 0, 0, 25⟩ G [.int me, .int ra] [] L F 0 0 (po_d (some (.int (m_X4_isRateOf me ra))) [] L F) := by
  refine pm_entry (by decide) rfl rfl (Nat.le_of_ble_eq_true rfl) ?_
  intro Z Q C hl0 hG0 hnm hE
  subst hl0
  subst hG0
  have w0_ : Cond.constantLong RX4 70 (1000000) ∈ wsX4_isRateOf := by decide +kernel
  show PW Z [] L F 0 0 Q 0 [(0, .int me), (1, .int ra)] []
  refine pk_iload_n C 0 dX4_isRateOf_0 rfl rfl (pc2 := 1) rfl ?_
  by_cases h1_ : me = 0
  ·
    refine pk_tableIn (tgt := 32) C dX4_isRateOf_1 (by rw [h1_]; decide) (by rw [h1_]; decide) (by rw [h1_]; first | done | rfl) (by decide) ?_
    refine pk_iload_n C 1 dX4_isRateOf_32 rfl rfl (pc2 := 33) rfl ?_
    refine pk_if_ne (tgt := 40) C dX4_isRateOf_33 (by decide) (pc2 := 36) rfl (fun h2_ => ?_) (fun h2_ => ?_)
    ·
      refine pk_iconst (v := 0) C dX4_isRateOf_40 (by decide) (pc2 := 41) rfl ?_
      exact pr_int (ty := .boolean) C hE rfl rfl (po_d_rfl (by first | with_reducible rfl | (unfold m_X4_isRateOf; rw [if_pos h1_, if_neg h2_])) (by first | with_reducible rfl | (unfold m_X4_isRateOf; rw [if_pos h1_, if_neg h2_]))) dX4_isRateOf_41
    ·
      refine pk_iconst (v := 1) C dX4_isRateOf_36 (by decide) (pc2 := 37) rfl ?_
      refine pk_goto (tgt := 41) C dX4_isRateOf_37 (by decide) ?_
      exact pr_int (ty := .boolean) C hE rfl rfl (po_d_rfl (by first | with_reducible rfl | (unfold m_X4_isRateOf; rw [if_pos h1_, if_pos h2_])) (by first | with_reducible rfl | (unfold m_X4_isRateOf; rw [if_pos h1_, if_pos h2_]))) dX4_isRateOf_41
  by_cases h3_ : me = 1
  ·
    refine pk_tableIn (tgt := 42) C dX4_isRateOf_1 (by rw [h3_]; decide) (by rw [h3_]; decide) (by rw [h3_]; first | done | rfl) (by decide) ?_
    refine pk_iload_n C 1 dX4_isRateOf_42 rfl rfl (pc2 := 43) rfl ?_
    refine pk_i2l C dX4_isRateOf_43 (pc2 := 44) rfl ?_
    refine pk_lconst (v := 1) C dX4_isRateOf_44 (by decide) (pc2 := 45) rfl ?_
    refine pk_ldc2 C w0_ dX4_isRateOf_45 (pc2 := 48) rfl ?_
    refine pk_dS (cx := []) (wr := []) (X2 := []) (st := []) (st2 := [.int (m_X4_isWithin (Int32.toInt64 ra) 1 (1000000))]) (As := [.long (Int32.toInt64 ra), .long 1, .long (1000000)]) C (c_X4_isWithin (zl Z) (zG Z) L F (Int32.toInt64 ra) 1 (1000000)) gX4_isRateOf_X4_isWithin rfl rfl rfl 3 (by decide +kernel) ⟨Nat.le_of_ble_eq_true rfl, Nat.le_of_ble_eq_true rfl⟩ rfl rfl (Nat.le_of_ble_eq_true rfl) ⟨Nat.le_of_ble_eq_true rfl, Nat.le_of_ble_eq_true rfl⟩ [] [] [] rfl rfl rfl rfl (by decide) rfl rfl dX4_isRateOf_48 (pc2 := 51) rfl rfl ?_
    refine pk_topi (fun n1_ en1_ => ?_)
    subst en1_
    exact pr_int (ty := .boolean) C hE rfl (zb_n (zb_m_X4_isWithin _ _ _)) (po_d_rfl (by first | with_reducible rfl | (unfold m_X4_isRateOf; rw [if_neg h1_, if_pos h3_])) (by first | with_reducible rfl | (unfold m_X4_isRateOf; rw [if_neg h1_, if_pos h3_]))) dX4_isRateOf_51
  by_cases h4_ : me = 2
  ·
    refine pk_tableIn (tgt := 32) C dX4_isRateOf_1 (by rw [h4_]; decide) (by rw [h4_]; decide) (by rw [h4_]; first | done | rfl) (by decide) ?_
    refine pk_iload_n C 1 dX4_isRateOf_32 rfl rfl (pc2 := 33) rfl ?_
    refine pk_if_ne (tgt := 40) C dX4_isRateOf_33 (by decide) (pc2 := 36) rfl (fun h5_ => ?_) (fun h5_ => ?_)
    ·
      refine pk_iconst (v := 0) C dX4_isRateOf_40 (by decide) (pc2 := 41) rfl ?_
      exact pr_int (ty := .boolean) C hE rfl rfl (po_d_rfl (by first | with_reducible rfl | (unfold m_X4_isRateOf; rw [if_neg h1_, if_neg h3_, if_pos h4_, if_neg h5_])) (by first | with_reducible rfl | (unfold m_X4_isRateOf; rw [if_neg h1_, if_neg h3_, if_pos h4_, if_neg h5_]))) dX4_isRateOf_41
    ·
      refine pk_iconst (v := 1) C dX4_isRateOf_36 (by decide) (pc2 := 37) rfl ?_
      refine pk_goto (tgt := 41) C dX4_isRateOf_37 (by decide) ?_
      exact pr_int (ty := .boolean) C hE rfl rfl (po_d_rfl (by first | with_reducible rfl | (unfold m_X4_isRateOf; rw [if_neg h1_, if_neg h3_, if_pos h4_, if_pos h5_])) (by first | with_reducible rfl | (unfold m_X4_isRateOf; rw [if_neg h1_, if_neg h3_, if_pos h4_, if_pos h5_]))) dX4_isRateOf_41
  by_cases h6_ : me = 3
  ·
    refine pk_tableIn (tgt := 42) C dX4_isRateOf_1 (by rw [h6_]; decide) (by rw [h6_]; decide) (by rw [h6_]; first | done | rfl) (by decide) ?_
    refine pk_iload_n C 1 dX4_isRateOf_42 rfl rfl (pc2 := 43) rfl ?_
    refine pk_i2l C dX4_isRateOf_43 (pc2 := 44) rfl ?_
    refine pk_lconst (v := 1) C dX4_isRateOf_44 (by decide) (pc2 := 45) rfl ?_
    refine pk_ldc2 C w0_ dX4_isRateOf_45 (pc2 := 48) rfl ?_
    refine pk_dS (cx := []) (wr := []) (X2 := []) (st := []) (st2 := [.int (m_X4_isWithin (Int32.toInt64 ra) 1 (1000000))]) (As := [.long (Int32.toInt64 ra), .long 1, .long (1000000)]) C (c_X4_isWithin (zl Z) (zG Z) L F (Int32.toInt64 ra) 1 (1000000)) gX4_isRateOf_X4_isWithin rfl rfl rfl 3 (by decide +kernel) ⟨Nat.le_of_ble_eq_true rfl, Nat.le_of_ble_eq_true rfl⟩ rfl rfl (Nat.le_of_ble_eq_true rfl) ⟨Nat.le_of_ble_eq_true rfl, Nat.le_of_ble_eq_true rfl⟩ [] [] [] rfl rfl rfl rfl (by decide) rfl rfl dX4_isRateOf_48 (pc2 := 51) rfl rfl ?_
    refine pk_topi (fun n2_ en2_ => ?_)
    subst en2_
    exact pr_int (ty := .boolean) C hE rfl (zb_n (zb_m_X4_isWithin _ _ _)) (po_d_rfl (by first | with_reducible rfl | (unfold m_X4_isRateOf; rw [if_neg h1_, if_neg h3_, if_neg h4_, if_pos h6_])) (by first | with_reducible rfl | (unfold m_X4_isRateOf; rw [if_neg h1_, if_neg h3_, if_neg h4_, if_pos h6_]))) dX4_isRateOf_51
  refine pk_tableOut (tgt := 52) C dX4_isRateOf_1 (sw_3 h1_ h3_ h4_ h6_) (by decide) ?_
  refine pk_iconst (v := 0) C dX4_isRateOf_52 (by decide) (pc2 := 53) rfl ?_
  exact pr_int (ty := .boolean) C hE rfl rfl (po_d_rfl (by first | with_reducible rfl | (unfold m_X4_isRateOf; rw [if_neg h1_, if_neg h3_, if_neg h4_, if_neg h6_])) (by first | with_reducible rfl | (unfold m_X4_isRateOf; rw [if_neg h1_, if_neg h3_, if_neg h4_, if_neg h6_]))) dX4_isRateOf_53
theorem zb_m_X4_isRateOf (me : Int32) (ra : Int32) : (m_X4_isRateOf me ra) = 0 ∨ (m_X4_isRateOf me ra) = 1 := by
  unfold m_X4_isRateOf
  repeat (first | split | (exact Or.inl rfl) | (exact Or.inr rfl) | assumption | (exact (zb_m_X4_isWithin _ _ _)))
def m_X4_isEvent (ki : Int32) (v : Int64) (n : Int32) : Int32 :=
  if ki = 0 then if (m_X4_isWithin v 1 (1000000000)) = 0 then 0 else if n = 0 then 1 else 0 else if ki = 1 then if (m_X4_isWithin v 0 (1000000000)) = 0 then 0 else if (m_X4_isWithin (Int32.toInt64 n) 1 (36)) = 0 then 0 else 1 else if ki = 2 then if (m_X4_isWithin v 0 (1000000000)) = 0 then 0 else if n = 0 then 1 else 0 else if ki = 3 then if (m_X4_isWithin v 0 (1000000000)) = 0 then 0 else if n = 0 then 1 else 0 else if ki = 4 then if (m_X4_isWithin v 0 (1000000000)) = 0 then 0 else if n = 0 then 1 else 0 else if ki = 5 then if v = 0 then if (m_X4_isWithin (Int32.toInt64 n) 1 (1000000)) = 0 then 0 else 1 else 0 else if ki = 6 then if v = 0 then if n = 0 then 1 else 0 else 0 else if ki = 7 then if v = 0 then if n = 0 then 1 else 0 else 0 else 0
set_option maxRecDepth 100000 in
set_option maxHeartbeats 2000000 in
theorem c_X4_isEvent (l : Launch) (G : pw_G) (L : List Nat) (F : Nat → va_E)  (ki : Int32) (v : Int64) (n : Int32) : PM l yX4_isEvent wsX4_isEvent ⟨1, 0, 0, 25⟩ G [.int ki, .long v, .int n] [] L F 0 0 (po_d (some (.int (m_X4_isEvent ki v n))) [] L F) := by
  refine pm_entry (by decide) rfl rfl (Nat.le_of_ble_eq_true rfl) ?_
  intro Z Q C hl0 hG0 hnm hE
  subst hl0
  subst hG0
  have w0_ : Cond.constantLong RX4 31 (1000000000) ∈ wsX4_isEvent := by decide +kernel
  have w1_ : Cond.constantLong RX4 41 (36) ∈ wsX4_isEvent := by decide +kernel
  have w2_ : Cond.constantLong RX4 70 (1000000) ∈ wsX4_isEvent := by decide +kernel
  show PW Z [] L F 0 0 Q 0 [(0, .int ki), (1, .long v), (3, .int n)] []
  refine pk_iload_n C 0 dX4_isEvent_0 rfl rfl (pc2 := 1) rfl ?_
  by_cases h1_ : ki = 0
  ·
    refine pk_tableIn (tgt := 48) C dX4_isEvent_1 (by rw [h1_]; decide) (by rw [h1_]; decide) (by rw [h1_]; first | done | rfl) (by decide) ?_
    refine pk_lload_n C 1 dX4_isEvent_48 rfl rfl (pc2 := 49) rfl ?_
    refine pk_lconst (v := 1) C dX4_isEvent_49 (by decide) (pc2 := 50) rfl ?_
    refine pk_ldc2 C w0_ dX4_isEvent_50 (pc2 := 53) rfl ?_
    refine pk_dS (cx := []) (wr := []) (X2 := []) (st := []) (st2 := [.int (m_X4_isWithin v 1 (1000000000))]) (As := [.long v, .long 1, .long (1000000000)]) C (c_X4_isWithin (zl Z) (zG Z) L F v 1 (1000000000)) gX4_isEvent_X4_isWithin rfl rfl rfl 3 (by decide +kernel) ⟨Nat.le_of_ble_eq_true rfl, Nat.le_of_ble_eq_true rfl⟩ rfl rfl (Nat.le_of_ble_eq_true rfl) ⟨Nat.le_of_ble_eq_true rfl, Nat.le_of_ble_eq_true rfl⟩ [] [] [] rfl rfl rfl rfl (by decide) rfl rfl dX4_isEvent_53 (pc2 := 56) rfl rfl ?_
    refine pk_topi (fun n1_ en1_ => ?_)
    refine pk_if_eq (tgt := 67) C dX4_isEvent_56 (by decide) (pc2 := 59) rfl (fun h2_ => ?_) (fun h2_ => ?_)
    ·
      refine pk_iconst (v := 0) C dX4_isEvent_67 (by decide) (pc2 := 68) rfl ?_
      subst en1_
      exact pr_int (ty := .boolean) C hE rfl rfl (po_d_rfl (by first | with_reducible rfl | (unfold m_X4_isEvent; rw [if_pos h1_, if_pos h2_])) (by first | with_reducible rfl | (unfold m_X4_isEvent; rw [if_pos h1_, if_pos h2_]))) dX4_isEvent_68
    ·
      refine pk_iload_n C 2 dX4_isEvent_59 rfl rfl (pc2 := 60) rfl ?_
      refine pk_if_ne (tgt := 67) C dX4_isEvent_60 (by decide) (pc2 := 63) rfl (fun h3_ => ?_) (fun h3_ => ?_)
      ·
        refine pk_iconst (v := 0) C dX4_isEvent_67 (by decide) (pc2 := 68) rfl ?_
        subst en1_
        exact pr_int (ty := .boolean) C hE rfl rfl (po_d_rfl (by first | with_reducible rfl | (unfold m_X4_isEvent; rw [if_pos h1_, if_neg h2_, if_neg h3_])) (by first | with_reducible rfl | (unfold m_X4_isEvent; rw [if_pos h1_, if_neg h2_, if_neg h3_]))) dX4_isEvent_68
      ·
        refine pk_iconst (v := 1) C dX4_isEvent_63 (by decide) (pc2 := 64) rfl ?_
        refine pk_goto (tgt := 68) C dX4_isEvent_64 (by decide) ?_
        subst en1_
        exact pr_int (ty := .boolean) C hE rfl rfl (po_d_rfl (by first | with_reducible rfl | (unfold m_X4_isEvent; rw [if_pos h1_, if_neg h2_, if_pos h3_])) (by first | with_reducible rfl | (unfold m_X4_isEvent; rw [if_pos h1_, if_neg h2_, if_pos h3_]))) dX4_isEvent_68
  by_cases h4_ : ki = 1
  ·
    refine pk_tableIn (tgt := 69) C dX4_isEvent_1 (by rw [h4_]; decide) (by rw [h4_]; decide) (by rw [h4_]; first | done | rfl) (by decide) ?_
    refine pk_lload_n C 1 dX4_isEvent_69 rfl rfl (pc2 := 70) rfl ?_
    refine pk_lconst (v := 0) C dX4_isEvent_70 (by decide) (pc2 := 71) rfl ?_
    refine pk_ldc2 C w0_ dX4_isEvent_71 (pc2 := 74) rfl ?_
    refine pk_dS (cx := []) (wr := []) (X2 := []) (st := []) (st2 := [.int (m_X4_isWithin v 0 (1000000000))]) (As := [.long v, .long 0, .long (1000000000)]) C (c_X4_isWithin (zl Z) (zG Z) L F v 0 (1000000000)) gX4_isEvent_X4_isWithin rfl rfl rfl 3 (by decide +kernel) ⟨Nat.le_of_ble_eq_true rfl, Nat.le_of_ble_eq_true rfl⟩ rfl rfl (Nat.le_of_ble_eq_true rfl) ⟨Nat.le_of_ble_eq_true rfl, Nat.le_of_ble_eq_true rfl⟩ [] [] [] rfl rfl rfl rfl (by decide) rfl rfl dX4_isEvent_74 (pc2 := 77) rfl rfl ?_
    refine pk_topi (fun n2_ en2_ => ?_)
    refine pk_if_eq (tgt := 96) C dX4_isEvent_77 (by decide) (pc2 := 80) rfl (fun h5_ => ?_) (fun h5_ => ?_)
    ·
      refine pk_iconst (v := 0) C dX4_isEvent_96 (by decide) (pc2 := 97) rfl ?_
      subst en2_
      exact pr_int (ty := .boolean) C hE rfl rfl (po_d_rfl (by first | with_reducible rfl | (unfold m_X4_isEvent; rw [if_neg h1_, if_pos h4_, if_pos h5_])) (by first | with_reducible rfl | (unfold m_X4_isEvent; rw [if_neg h1_, if_pos h4_, if_pos h5_]))) dX4_isEvent_97
    ·
      refine pk_iload_n C 2 dX4_isEvent_80 rfl rfl (pc2 := 81) rfl ?_
      refine pk_i2l C dX4_isEvent_81 (pc2 := 82) rfl ?_
      refine pk_lconst (v := 1) C dX4_isEvent_82 (by decide) (pc2 := 83) rfl ?_
      refine pk_ldc2 C w1_ dX4_isEvent_83 (pc2 := 86) rfl ?_
      refine pk_dS (cx := []) (wr := []) (X2 := []) (st := []) (st2 := [.int (m_X4_isWithin (Int32.toInt64 n) 1 (36))]) (As := [.long (Int32.toInt64 n), .long 1, .long (36)]) C (c_X4_isWithin (zl Z) (zG Z) L F (Int32.toInt64 n) 1 (36)) gX4_isEvent_X4_isWithin rfl rfl rfl 3 (by decide +kernel) ⟨Nat.le_of_ble_eq_true rfl, Nat.le_of_ble_eq_true rfl⟩ rfl rfl (Nat.le_of_ble_eq_true rfl) ⟨Nat.le_of_ble_eq_true rfl, Nat.le_of_ble_eq_true rfl⟩ [] [] [] rfl rfl rfl rfl (by decide) rfl rfl dX4_isEvent_86 (pc2 := 89) rfl rfl ?_
      refine pk_topi (fun n3_ en3_ => ?_)
      refine pk_if_eq (tgt := 96) C dX4_isEvent_89 (by decide) (pc2 := 92) rfl (fun h6_ => ?_) (fun h6_ => ?_)
      ·
        refine pk_iconst (v := 0) C dX4_isEvent_96 (by decide) (pc2 := 97) rfl ?_
        subst en2_ en3_
        exact pr_int (ty := .boolean) C hE rfl rfl (po_d_rfl (by first | with_reducible rfl | (unfold m_X4_isEvent; rw [if_neg h1_, if_pos h4_, if_neg h5_, if_pos h6_])) (by first | with_reducible rfl | (unfold m_X4_isEvent; rw [if_neg h1_, if_pos h4_, if_neg h5_, if_pos h6_]))) dX4_isEvent_97
      ·
        refine pk_iconst (v := 1) C dX4_isEvent_92 (by decide) (pc2 := 93) rfl ?_
        refine pk_goto (tgt := 97) C dX4_isEvent_93 (by decide) ?_
        subst en2_ en3_
        exact pr_int (ty := .boolean) C hE rfl rfl (po_d_rfl (by first | with_reducible rfl | (unfold m_X4_isEvent; rw [if_neg h1_, if_pos h4_, if_neg h5_, if_neg h6_])) (by first | with_reducible rfl | (unfold m_X4_isEvent; rw [if_neg h1_, if_pos h4_, if_neg h5_, if_neg h6_]))) dX4_isEvent_97
  by_cases h7_ : ki = 2
  ·
    refine pk_tableIn (tgt := 98) C dX4_isEvent_1 (by rw [h7_]; decide) (by rw [h7_]; decide) (by rw [h7_]; first | done | rfl) (by decide) ?_
    refine pk_lload_n C 1 dX4_isEvent_98 rfl rfl (pc2 := 99) rfl ?_
    refine pk_lconst (v := 0) C dX4_isEvent_99 (by decide) (pc2 := 100) rfl ?_
    refine pk_ldc2 C w0_ dX4_isEvent_100 (pc2 := 103) rfl ?_
    refine pk_dS (cx := []) (wr := []) (X2 := []) (st := []) (st2 := [.int (m_X4_isWithin v 0 (1000000000))]) (As := [.long v, .long 0, .long (1000000000)]) C (c_X4_isWithin (zl Z) (zG Z) L F v 0 (1000000000)) gX4_isEvent_X4_isWithin rfl rfl rfl 3 (by decide +kernel) ⟨Nat.le_of_ble_eq_true rfl, Nat.le_of_ble_eq_true rfl⟩ rfl rfl (Nat.le_of_ble_eq_true rfl) ⟨Nat.le_of_ble_eq_true rfl, Nat.le_of_ble_eq_true rfl⟩ [] [] [] rfl rfl rfl rfl (by decide) rfl rfl dX4_isEvent_103 (pc2 := 106) rfl rfl ?_
    refine pk_topi (fun n4_ en4_ => ?_)
    refine pk_if_eq (tgt := 117) C dX4_isEvent_106 (by decide) (pc2 := 109) rfl (fun h8_ => ?_) (fun h8_ => ?_)
    ·
      refine pk_iconst (v := 0) C dX4_isEvent_117 (by decide) (pc2 := 118) rfl ?_
      subst en4_
      exact pr_int (ty := .boolean) C hE rfl rfl (po_d_rfl (by first | with_reducible rfl | (unfold m_X4_isEvent; rw [if_neg h1_, if_neg h4_, if_pos h7_, if_pos h8_])) (by first | with_reducible rfl | (unfold m_X4_isEvent; rw [if_neg h1_, if_neg h4_, if_pos h7_, if_pos h8_]))) dX4_isEvent_118
    ·
      refine pk_iload_n C 2 dX4_isEvent_109 rfl rfl (pc2 := 110) rfl ?_
      refine pk_if_ne (tgt := 117) C dX4_isEvent_110 (by decide) (pc2 := 113) rfl (fun h9_ => ?_) (fun h9_ => ?_)
      ·
        refine pk_iconst (v := 0) C dX4_isEvent_117 (by decide) (pc2 := 118) rfl ?_
        subst en4_
        exact pr_int (ty := .boolean) C hE rfl rfl (po_d_rfl (by first | with_reducible rfl | (unfold m_X4_isEvent; rw [if_neg h1_, if_neg h4_, if_pos h7_, if_neg h8_, if_neg h9_])) (by first | with_reducible rfl | (unfold m_X4_isEvent; rw [if_neg h1_, if_neg h4_, if_pos h7_, if_neg h8_, if_neg h9_]))) dX4_isEvent_118
      ·
        refine pk_iconst (v := 1) C dX4_isEvent_113 (by decide) (pc2 := 114) rfl ?_
        refine pk_goto (tgt := 118) C dX4_isEvent_114 (by decide) ?_
        subst en4_
        exact pr_int (ty := .boolean) C hE rfl rfl (po_d_rfl (by first | with_reducible rfl | (unfold m_X4_isEvent; rw [if_neg h1_, if_neg h4_, if_pos h7_, if_neg h8_, if_pos h9_])) (by first | with_reducible rfl | (unfold m_X4_isEvent; rw [if_neg h1_, if_neg h4_, if_pos h7_, if_neg h8_, if_pos h9_]))) dX4_isEvent_118
  by_cases h10_ : ki = 3
  ·
    refine pk_tableIn (tgt := 98) C dX4_isEvent_1 (by rw [h10_]; decide) (by rw [h10_]; decide) (by rw [h10_]; first | done | rfl) (by decide) ?_
    refine pk_lload_n C 1 dX4_isEvent_98 rfl rfl (pc2 := 99) rfl ?_
    refine pk_lconst (v := 0) C dX4_isEvent_99 (by decide) (pc2 := 100) rfl ?_
    refine pk_ldc2 C w0_ dX4_isEvent_100 (pc2 := 103) rfl ?_
    refine pk_dS (cx := []) (wr := []) (X2 := []) (st := []) (st2 := [.int (m_X4_isWithin v 0 (1000000000))]) (As := [.long v, .long 0, .long (1000000000)]) C (c_X4_isWithin (zl Z) (zG Z) L F v 0 (1000000000)) gX4_isEvent_X4_isWithin rfl rfl rfl 3 (by decide +kernel) ⟨Nat.le_of_ble_eq_true rfl, Nat.le_of_ble_eq_true rfl⟩ rfl rfl (Nat.le_of_ble_eq_true rfl) ⟨Nat.le_of_ble_eq_true rfl, Nat.le_of_ble_eq_true rfl⟩ [] [] [] rfl rfl rfl rfl (by decide) rfl rfl dX4_isEvent_103 (pc2 := 106) rfl rfl ?_
    refine pk_topi (fun n5_ en5_ => ?_)
    refine pk_if_eq (tgt := 117) C dX4_isEvent_106 (by decide) (pc2 := 109) rfl (fun h11_ => ?_) (fun h11_ => ?_)
    ·
      refine pk_iconst (v := 0) C dX4_isEvent_117 (by decide) (pc2 := 118) rfl ?_
      subst en5_
      exact pr_int (ty := .boolean) C hE rfl rfl (po_d_rfl (by first | with_reducible rfl | (unfold m_X4_isEvent; rw [if_neg h1_, if_neg h4_, if_neg h7_, if_pos h10_, if_pos h11_])) (by first | with_reducible rfl | (unfold m_X4_isEvent; rw [if_neg h1_, if_neg h4_, if_neg h7_, if_pos h10_, if_pos h11_]))) dX4_isEvent_118
    ·
      refine pk_iload_n C 2 dX4_isEvent_109 rfl rfl (pc2 := 110) rfl ?_
      refine pk_if_ne (tgt := 117) C dX4_isEvent_110 (by decide) (pc2 := 113) rfl (fun h12_ => ?_) (fun h12_ => ?_)
      ·
        refine pk_iconst (v := 0) C dX4_isEvent_117 (by decide) (pc2 := 118) rfl ?_
        subst en5_
        exact pr_int (ty := .boolean) C hE rfl rfl (po_d_rfl (by first | with_reducible rfl | (unfold m_X4_isEvent; rw [if_neg h1_, if_neg h4_, if_neg h7_, if_pos h10_, if_neg h11_, if_neg h12_])) (by first | with_reducible rfl | (unfold m_X4_isEvent; rw [if_neg h1_, if_neg h4_, if_neg h7_, if_pos h10_, if_neg h11_, if_neg h12_]))) dX4_isEvent_118
      ·
        refine pk_iconst (v := 1) C dX4_isEvent_113 (by decide) (pc2 := 114) rfl ?_
        refine pk_goto (tgt := 118) C dX4_isEvent_114 (by decide) ?_
        subst en5_
        exact pr_int (ty := .boolean) C hE rfl rfl (po_d_rfl (by first | with_reducible rfl | (unfold m_X4_isEvent; rw [if_neg h1_, if_neg h4_, if_neg h7_, if_pos h10_, if_neg h11_, if_pos h12_])) (by first | with_reducible rfl | (unfold m_X4_isEvent; rw [if_neg h1_, if_neg h4_, if_neg h7_, if_pos h10_, if_neg h11_, if_pos h12_]))) dX4_isEvent_118
  by_cases h13_ : ki = 4
  ·
    refine pk_tableIn (tgt := 98) C dX4_isEvent_1 (by rw [h13_]; decide) (by rw [h13_]; decide) (by rw [h13_]; first | done | rfl) (by decide) ?_
    refine pk_lload_n C 1 dX4_isEvent_98 rfl rfl (pc2 := 99) rfl ?_
    refine pk_lconst (v := 0) C dX4_isEvent_99 (by decide) (pc2 := 100) rfl ?_
    refine pk_ldc2 C w0_ dX4_isEvent_100 (pc2 := 103) rfl ?_
    refine pk_dS (cx := []) (wr := []) (X2 := []) (st := []) (st2 := [.int (m_X4_isWithin v 0 (1000000000))]) (As := [.long v, .long 0, .long (1000000000)]) C (c_X4_isWithin (zl Z) (zG Z) L F v 0 (1000000000)) gX4_isEvent_X4_isWithin rfl rfl rfl 3 (by decide +kernel) ⟨Nat.le_of_ble_eq_true rfl, Nat.le_of_ble_eq_true rfl⟩ rfl rfl (Nat.le_of_ble_eq_true rfl) ⟨Nat.le_of_ble_eq_true rfl, Nat.le_of_ble_eq_true rfl⟩ [] [] [] rfl rfl rfl rfl (by decide) rfl rfl dX4_isEvent_103 (pc2 := 106) rfl rfl ?_
    refine pk_topi (fun n6_ en6_ => ?_)
    refine pk_if_eq (tgt := 117) C dX4_isEvent_106 (by decide) (pc2 := 109) rfl (fun h14_ => ?_) (fun h14_ => ?_)
    ·
      refine pk_iconst (v := 0) C dX4_isEvent_117 (by decide) (pc2 := 118) rfl ?_
      subst en6_
      exact pr_int (ty := .boolean) C hE rfl rfl (po_d_rfl (by first | with_reducible rfl | (unfold m_X4_isEvent; rw [if_neg h1_, if_neg h4_, if_neg h7_, if_neg h10_, if_pos h13_, if_pos h14_])) (by first | with_reducible rfl | (unfold m_X4_isEvent; rw [if_neg h1_, if_neg h4_, if_neg h7_, if_neg h10_, if_pos h13_, if_pos h14_]))) dX4_isEvent_118
    ·
      refine pk_iload_n C 2 dX4_isEvent_109 rfl rfl (pc2 := 110) rfl ?_
      refine pk_if_ne (tgt := 117) C dX4_isEvent_110 (by decide) (pc2 := 113) rfl (fun h15_ => ?_) (fun h15_ => ?_)
      ·
        refine pk_iconst (v := 0) C dX4_isEvent_117 (by decide) (pc2 := 118) rfl ?_
        subst en6_
        exact pr_int (ty := .boolean) C hE rfl rfl (po_d_rfl (by first | with_reducible rfl | (unfold m_X4_isEvent; rw [if_neg h1_, if_neg h4_, if_neg h7_, if_neg h10_, if_pos h13_, if_neg h14_, if_neg h15_])) (by first | with_reducible rfl | (unfold m_X4_isEvent; rw [if_neg h1_, if_neg h4_, if_neg h7_, if_neg h10_, if_pos h13_, if_neg h14_, if_neg h15_]))) dX4_isEvent_118
      ·
        refine pk_iconst (v := 1) C dX4_isEvent_113 (by decide) (pc2 := 114) rfl ?_
        refine pk_goto (tgt := 118) C dX4_isEvent_114 (by decide) ?_
        subst en6_
        exact pr_int (ty := .boolean) C hE rfl rfl (po_d_rfl (by first | with_reducible rfl | (unfold m_X4_isEvent; rw [if_neg h1_, if_neg h4_, if_neg h7_, if_neg h10_, if_pos h13_, if_neg h14_, if_pos h15_])) (by first | with_reducible rfl | (unfold m_X4_isEvent; rw [if_neg h1_, if_neg h4_, if_neg h7_, if_neg h10_, if_pos h13_, if_neg h14_, if_pos h15_]))) dX4_isEvent_118
  by_cases h16_ : ki = 5
  ·
    refine pk_tableIn (tgt := 119) C dX4_isEvent_1 (by rw [h16_]; decide) (by rw [h16_]; decide) (by rw [h16_]; first | done | rfl) (by decide) ?_
    refine pk_lload_n C 1 dX4_isEvent_119 rfl rfl (pc2 := 120) rfl ?_
    refine pk_lconst (v := 0) C dX4_isEvent_120 (by decide) (pc2 := 121) rfl ?_
    refine pk_lcmp_ne (tgt := 141) C dX4_isEvent_121 dX4_isEvent_122 (pc1 := 122) rfl (by decide) (pc2 := 125) rfl (fun h17_ => ?_) (fun h17_ => ?_)
    ·
      refine pk_iconst (v := 0) C dX4_isEvent_141 (by decide) (pc2 := 142) rfl ?_
      exact pr_int (ty := .boolean) C hE rfl rfl (po_d_rfl (by first | with_reducible rfl | (unfold m_X4_isEvent; rw [if_neg h1_, if_neg h4_, if_neg h7_, if_neg h10_, if_neg h13_, if_pos h16_, if_neg h17_])) (by first | with_reducible rfl | (unfold m_X4_isEvent; rw [if_neg h1_, if_neg h4_, if_neg h7_, if_neg h10_, if_neg h13_, if_pos h16_, if_neg h17_]))) dX4_isEvent_142
    ·
      refine pk_iload_n C 2 dX4_isEvent_125 rfl rfl (pc2 := 126) rfl ?_
      refine pk_i2l C dX4_isEvent_126 (pc2 := 127) rfl ?_
      refine pk_lconst (v := 1) C dX4_isEvent_127 (by decide) (pc2 := 128) rfl ?_
      refine pk_ldc2 C w2_ dX4_isEvent_128 (pc2 := 131) rfl ?_
      refine pk_dS (cx := []) (wr := []) (X2 := []) (st := []) (st2 := [.int (m_X4_isWithin (Int32.toInt64 n) 1 (1000000))]) (As := [.long (Int32.toInt64 n), .long 1, .long (1000000)]) C (c_X4_isWithin (zl Z) (zG Z) L F (Int32.toInt64 n) 1 (1000000)) gX4_isEvent_X4_isWithin rfl rfl rfl 3 (by decide +kernel) ⟨Nat.le_of_ble_eq_true rfl, Nat.le_of_ble_eq_true rfl⟩ rfl rfl (Nat.le_of_ble_eq_true rfl) ⟨Nat.le_of_ble_eq_true rfl, Nat.le_of_ble_eq_true rfl⟩ [] [] [] rfl rfl rfl rfl (by decide) rfl rfl dX4_isEvent_131 (pc2 := 134) rfl rfl ?_
      refine pk_topi (fun n7_ en7_ => ?_)
      refine pk_if_eq (tgt := 141) C dX4_isEvent_134 (by decide) (pc2 := 137) rfl (fun h18_ => ?_) (fun h18_ => ?_)
      ·
        refine pk_iconst (v := 0) C dX4_isEvent_141 (by decide) (pc2 := 142) rfl ?_
        subst en7_
        exact pr_int (ty := .boolean) C hE rfl rfl (po_d_rfl (by first | with_reducible rfl | (unfold m_X4_isEvent; rw [if_neg h1_, if_neg h4_, if_neg h7_, if_neg h10_, if_neg h13_, if_pos h16_, if_pos h17_, if_pos h18_])) (by first | with_reducible rfl | (unfold m_X4_isEvent; rw [if_neg h1_, if_neg h4_, if_neg h7_, if_neg h10_, if_neg h13_, if_pos h16_, if_pos h17_, if_pos h18_]))) dX4_isEvent_142
      ·
        refine pk_iconst (v := 1) C dX4_isEvent_137 (by decide) (pc2 := 138) rfl ?_
        refine pk_goto (tgt := 142) C dX4_isEvent_138 (by decide) ?_
        subst en7_
        exact pr_int (ty := .boolean) C hE rfl rfl (po_d_rfl (by first | with_reducible rfl | (unfold m_X4_isEvent; rw [if_neg h1_, if_neg h4_, if_neg h7_, if_neg h10_, if_neg h13_, if_pos h16_, if_pos h17_, if_neg h18_])) (by first | with_reducible rfl | (unfold m_X4_isEvent; rw [if_neg h1_, if_neg h4_, if_neg h7_, if_neg h10_, if_neg h13_, if_pos h16_, if_pos h17_, if_neg h18_]))) dX4_isEvent_142
  by_cases h19_ : ki = 6
  ·
    refine pk_tableIn (tgt := 143) C dX4_isEvent_1 (by rw [h19_]; decide) (by rw [h19_]; decide) (by rw [h19_]; first | done | rfl) (by decide) ?_
    refine pk_lload_n C 1 dX4_isEvent_143 rfl rfl (pc2 := 144) rfl ?_
    refine pk_lconst (v := 0) C dX4_isEvent_144 (by decide) (pc2 := 145) rfl ?_
    refine pk_lcmp_ne (tgt := 157) C dX4_isEvent_145 dX4_isEvent_146 (pc1 := 146) rfl (by decide) (pc2 := 149) rfl (fun h20_ => ?_) (fun h20_ => ?_)
    ·
      refine pk_iconst (v := 0) C dX4_isEvent_157 (by decide) (pc2 := 158) rfl ?_
      exact pr_int (ty := .boolean) C hE rfl rfl (po_d_rfl (by first | with_reducible rfl | (unfold m_X4_isEvent; rw [if_neg h1_, if_neg h4_, if_neg h7_, if_neg h10_, if_neg h13_, if_neg h16_, if_pos h19_, if_neg h20_])) (by first | with_reducible rfl | (unfold m_X4_isEvent; rw [if_neg h1_, if_neg h4_, if_neg h7_, if_neg h10_, if_neg h13_, if_neg h16_, if_pos h19_, if_neg h20_]))) dX4_isEvent_158
    ·
      refine pk_iload_n C 2 dX4_isEvent_149 rfl rfl (pc2 := 150) rfl ?_
      refine pk_if_ne (tgt := 157) C dX4_isEvent_150 (by decide) (pc2 := 153) rfl (fun h21_ => ?_) (fun h21_ => ?_)
      ·
        refine pk_iconst (v := 0) C dX4_isEvent_157 (by decide) (pc2 := 158) rfl ?_
        exact pr_int (ty := .boolean) C hE rfl rfl (po_d_rfl (by first | with_reducible rfl | (unfold m_X4_isEvent; rw [if_neg h1_, if_neg h4_, if_neg h7_, if_neg h10_, if_neg h13_, if_neg h16_, if_pos h19_, if_pos h20_, if_neg h21_])) (by first | with_reducible rfl | (unfold m_X4_isEvent; rw [if_neg h1_, if_neg h4_, if_neg h7_, if_neg h10_, if_neg h13_, if_neg h16_, if_pos h19_, if_pos h20_, if_neg h21_]))) dX4_isEvent_158
      ·
        refine pk_iconst (v := 1) C dX4_isEvent_153 (by decide) (pc2 := 154) rfl ?_
        refine pk_goto (tgt := 158) C dX4_isEvent_154 (by decide) ?_
        exact pr_int (ty := .boolean) C hE rfl rfl (po_d_rfl (by first | with_reducible rfl | (unfold m_X4_isEvent; rw [if_neg h1_, if_neg h4_, if_neg h7_, if_neg h10_, if_neg h13_, if_neg h16_, if_pos h19_, if_pos h20_, if_pos h21_])) (by first | with_reducible rfl | (unfold m_X4_isEvent; rw [if_neg h1_, if_neg h4_, if_neg h7_, if_neg h10_, if_neg h13_, if_neg h16_, if_pos h19_, if_pos h20_, if_pos h21_]))) dX4_isEvent_158
  by_cases h22_ : ki = 7
  ·
    refine pk_tableIn (tgt := 143) C dX4_isEvent_1 (by rw [h22_]; decide) (by rw [h22_]; decide) (by rw [h22_]; first | done | rfl) (by decide) ?_
    refine pk_lload_n C 1 dX4_isEvent_143 rfl rfl (pc2 := 144) rfl ?_
    refine pk_lconst (v := 0) C dX4_isEvent_144 (by decide) (pc2 := 145) rfl ?_
    refine pk_lcmp_ne (tgt := 157) C dX4_isEvent_145 dX4_isEvent_146 (pc1 := 146) rfl (by decide) (pc2 := 149) rfl (fun h23_ => ?_) (fun h23_ => ?_)
    ·
      refine pk_iconst (v := 0) C dX4_isEvent_157 (by decide) (pc2 := 158) rfl ?_
      exact pr_int (ty := .boolean) C hE rfl rfl (po_d_rfl (by first | with_reducible rfl | (unfold m_X4_isEvent; rw [if_neg h1_, if_neg h4_, if_neg h7_, if_neg h10_, if_neg h13_, if_neg h16_, if_neg h19_, if_pos h22_, if_neg h23_])) (by first | with_reducible rfl | (unfold m_X4_isEvent; rw [if_neg h1_, if_neg h4_, if_neg h7_, if_neg h10_, if_neg h13_, if_neg h16_, if_neg h19_, if_pos h22_, if_neg h23_]))) dX4_isEvent_158
    ·
      refine pk_iload_n C 2 dX4_isEvent_149 rfl rfl (pc2 := 150) rfl ?_
      refine pk_if_ne (tgt := 157) C dX4_isEvent_150 (by decide) (pc2 := 153) rfl (fun h24_ => ?_) (fun h24_ => ?_)
      ·
        refine pk_iconst (v := 0) C dX4_isEvent_157 (by decide) (pc2 := 158) rfl ?_
        exact pr_int (ty := .boolean) C hE rfl rfl (po_d_rfl (by first | with_reducible rfl | (unfold m_X4_isEvent; rw [if_neg h1_, if_neg h4_, if_neg h7_, if_neg h10_, if_neg h13_, if_neg h16_, if_neg h19_, if_pos h22_, if_pos h23_, if_neg h24_])) (by first | with_reducible rfl | (unfold m_X4_isEvent; rw [if_neg h1_, if_neg h4_, if_neg h7_, if_neg h10_, if_neg h13_, if_neg h16_, if_neg h19_, if_pos h22_, if_pos h23_, if_neg h24_]))) dX4_isEvent_158
      ·
        refine pk_iconst (v := 1) C dX4_isEvent_153 (by decide) (pc2 := 154) rfl ?_
        refine pk_goto (tgt := 158) C dX4_isEvent_154 (by decide) ?_
        exact pr_int (ty := .boolean) C hE rfl rfl (po_d_rfl (by first | with_reducible rfl | (unfold m_X4_isEvent; rw [if_neg h1_, if_neg h4_, if_neg h7_, if_neg h10_, if_neg h13_, if_neg h16_, if_neg h19_, if_pos h22_, if_pos h23_, if_pos h24_])) (by first | with_reducible rfl | (unfold m_X4_isEvent; rw [if_neg h1_, if_neg h4_, if_neg h7_, if_neg h10_, if_neg h13_, if_neg h16_, if_neg h19_, if_pos h22_, if_pos h23_, if_pos h24_]))) dX4_isEvent_158
  refine pk_tableOut (tgt := 159) C dX4_isEvent_1 (sw_7 h1_ h4_ h7_ h10_ h13_ h16_ h19_ h22_) (by decide) ?_
  refine pk_iconst (v := 0) C dX4_isEvent_159 (by decide) (pc2 := 160) rfl ?_
  exact pr_int (ty := .boolean) C hE rfl rfl (po_d_rfl (by first | with_reducible rfl | (unfold m_X4_isEvent; rw [if_neg h1_, if_neg h4_, if_neg h7_, if_neg h10_, if_neg h13_, if_neg h16_, if_neg h19_, if_neg h22_])) (by first | with_reducible rfl | (unfold m_X4_isEvent; rw [if_neg h1_, if_neg h4_, if_neg h7_, if_neg h10_, if_neg h13_, if_neg h16_, if_neg h19_, if_neg h22_]))) dX4_isEvent_160
theorem zb_m_X4_isEvent (ki : Int32) (v : Int64) (n : Int32) : (m_X4_isEvent ki v n) = 0 ∨ (m_X4_isEvent ki v n) = 1 := by
  unfold m_X4_isEvent
  repeat (first | split | (exact Or.inl rfl) | (exact Or.inr rfl) | assumption | (exact (zb_m_X4_isWithin _ _ _)))
theorem isMonth4_in {p : Int32} (hp : ¬ m_X4_isMonth p = 0) : ∃ a, a < 36 ∧ p = nI a := by
  unfold m_X4_isMonth at hp
  by_cases a0 : p < 0
  · rw [if_pos a0] at hp; exact absurd rfl hp
  · rw [if_neg a0] at hp
    by_cases a1 : 36 ≤ p
    · rw [if_pos a1] at hp; exact absurd rfl hp
    · exact re_int a0 a1 (by decide)
theorem mi_36 {p : Int32} (h : ∃ a, a < 36 ∧ p = nI a) : vp_in p 36 := by
  obtain ⟨a, h1, rfl⟩ := h
  exact vp_in_nI h1 (by decide)
theorem mi_35 {p : Int32} (h : ∃ a, a < 36 ∧ p = nI a) : p.toInt ≤ 35 := by
  obtain ⟨a, h1, rfl⟩ := h
  rw [nI_toInt (by omega)]
  omega

theorem ld_i {x : Int32} (h : ¬ x = 0) : ¬ ((2) * (Int32.toInt64 x)) = 0 := by
  intro e
  have h2 := congrArg Int64.toInt e
  rw [Int64.toInt_mul, Int32.toInt_toInt64] at h2
  have h4 : (2 : Int64).toInt = 2 := rfl
  have h5 : (0 : Int64).toInt = 0 := rfl
  rw [h4, h5, Int.bmod_def] at h2
  have h6 := x.toInt_lt
  have h7 := x.le_toInt
  have h8 : ¬ x.toInt = 0 := fun z => h (Int32.toInt_inj.mp (by rw [z]; rfl))
  omega
theorem ld_b {x : Int32} (h : 1 ≤ x.toInt) : ¬ ((2) * (Int32.toInt64 x)) = 0 := ld_i (fun z => by rw [z] at h; exact absurd h (by decide))
theorem ld_l {x : Int32} (h : 1 ≤ x.toInt ∧ x.toInt ≤ 36) : ¬ ((2) * (Int32.toInt64 x)) = 0 := ld_b h.1
theorem ld_t {x : Int32} (h : 1 ≤ x.toInt ∧ x.toInt ≤ 36) : ¬ ((2) * (((Int32.toInt64 x) * (Int32.toInt64 (x + 1))) / (2))) = 0 := by
  obtain ⟨h1, h2⟩ := h
  obtain ⟨k, hk, rfl⟩ : ∃ k : Nat, k < 37 ∧ x = nI k := ⟨x.toInt.toNat, by omega, Int32.toInt_inj.mp (by rw [nI_toInt (by omega)]; omega)⟩
  rw [nI_toInt (by omega)] at h1
  have key : ∀ k : Nat, k < 37 → 1 ≤ k → ¬ ((2) * (((Int32.toInt64 (nI k)) * (Int32.toInt64 (nI k + 1))) / (2))) = 0 := by decide +kernel
  exact key k hk (by omega)
theorem wo_lb {x : Int32} (h : ¬ x = 0) (h2 : 0 ≤ x.toInt) : 1 ≤ ((x - 1) + 1).toInt := by
  have e : (x - 1) + 1 = x := by rw [Int32.sub_add_cancel]
  rw [e]
  have h8 : ¬ x.toInt = 0 := fun z => h (Int32.toInt_inj.mp (by rw [z]; rfl))
  omega
def m_X5_thrown (c : MR) (T : TR) : Int32 :=
  (M_cd c)
set_option maxRecDepth 100000 in
set_option maxHeartbeats 2000000 in
theorem c_X5_thrown (l : Launch) (G : pw_G) (L : List Nat) (F : Nat → va_E) (m : Nat) (rf : Nat → Nat) (c : MR) (T : TR) : PM l yX5_thrown wsX5_thrown ⟨0, 0, 0, 0⟩ G [.ref m] (mX G m rf c T) L F 0 0 (po_d (some (.int (m_X5_thrown c T))) (mX G m rf c T) L F) := by
  refine pm_entry (by decide) rfl rfl (Nat.le_of_ble_eq_true rfl) ?_
  intro Z Q C hl0 hG0 hnm hE
  subst hl0
  subst hG0
  have i5_ : ∀ w ∈ wsX50, w ∈ wsX5_thrown := by decide +kernel
  have w0_ : Cond.fieldLink RX5 56 "AgedAssetsModel" "code" "I" ∈ wsX5_thrown := by decide +kernel
  show PW Z (mX (zG Z) m rf c T) L F 0 0 Q 0 [(0, .ref m)] []
  refine pk_aload_n C 0 dX5_thrown_0 rfl rfl (pc2 := 1) rfl ?_
  refine pk_get (v := .int (M_cd c)) C i5_ (pw_atX 0 rfl) (ci := 5) rfl 0 (by decide) w0_ rfl rfl dX5_thrown_1 (pc2 := 4) rfl ?_
  exact pr_int (ty := .int) C hE rfl rfl (po_d_rfl (by first | with_reducible rfl | (unfold m_X5_thrown; with_reducible rfl)) (by first | with_reducible rfl | (unfold m_X5_thrown; with_reducible rfl))) dX5_thrown_4
def m_X5_isIn (v : Int64) (lo : Int64) (hi : Int64) : Int32 :=
  if v < lo then 0 else if hi < v then 0 else 1
set_option maxRecDepth 100000 in
set_option maxHeartbeats 2000000 in
theorem c_X5_isIn (l : Launch) (G : pw_G) (L : List Nat) (F : Nat → va_E)  (v : Int64) (lo : Int64) (hi : Int64) : PM l yX5_isIn wsX5_isIn ⟨0, 0, 0, 0⟩ G [.long v, .long lo, .long hi] [] L F 0 0 (po_d (some (.int (m_X5_isIn v lo hi))) [] L F) := by
  refine pm_entry (by decide) rfl rfl (Nat.le_of_ble_eq_true rfl) ?_
  intro Z Q C hl0 hG0 hnm hE
  subst hl0
  subst hG0
  show PW Z [] L F 0 0 Q 0 [(0, .long v), (2, .long lo), (4, .long hi)] []
  refine pk_lload_n C 0 dX5_isIn_0 rfl rfl (pc2 := 1) rfl ?_
  refine pk_lload_n C 1 dX5_isIn_1 rfl rfl (pc2 := 2) rfl ?_
  refine pk_lcmp_lt (tgt := 17) C dX5_isIn_2 dX5_isIn_3 (pc1 := 3) rfl (by decide) (pc2 := 6) rfl (fun h1_ => ?_) (fun h1_ => ?_)
  ·
    refine pk_iconst (v := 0) C dX5_isIn_17 (by decide) (pc2 := 18) rfl ?_
    exact pr_int (ty := .boolean) C hE rfl rfl (po_d_rfl (by first | with_reducible rfl | (unfold m_X5_isIn; rw [if_pos h1_])) (by first | with_reducible rfl | (unfold m_X5_isIn; rw [if_pos h1_]))) dX5_isIn_18
  ·
    refine pk_lload_n C 0 dX5_isIn_6 rfl rfl (pc2 := 7) rfl ?_
    refine pk_lload C 2 dX5_isIn_7 rfl (pc2 := 9) rfl ?_
    refine pk_lcmp_gt (tgt := 17) C dX5_isIn_9 dX5_isIn_10 (pc1 := 10) rfl (by decide) (pc2 := 13) rfl (fun h2_ => ?_) (fun h2_ => ?_)
    ·
      refine pk_iconst (v := 0) C dX5_isIn_17 (by decide) (pc2 := 18) rfl ?_
      exact pr_int (ty := .boolean) C hE rfl rfl (po_d_rfl (by first | with_reducible rfl | (unfold m_X5_isIn; rw [if_neg h1_, if_pos h2_])) (by first | with_reducible rfl | (unfold m_X5_isIn; rw [if_neg h1_, if_pos h2_]))) dX5_isIn_18
    ·
      refine pk_iconst (v := 1) C dX5_isIn_13 (by decide) (pc2 := 14) rfl ?_
      refine pk_goto (tgt := 18) C dX5_isIn_14 (by decide) ?_
      exact pr_int (ty := .boolean) C hE rfl rfl (po_d_rfl (by first | with_reducible rfl | (unfold m_X5_isIn; rw [if_neg h1_, if_neg h2_])) (by first | with_reducible rfl | (unfold m_X5_isIn; rw [if_neg h1_, if_neg h2_]))) dX5_isIn_18
theorem zb_m_X5_isIn (v : Int64) (lo : Int64) (hi : Int64) : (m_X5_isIn v lo hi) = 0 ∨ (m_X5_isIn v lo hi) = 1 := by
  unfold m_X5_isIn
  repeat (first | split | (exact Or.inl rfl) | (exact Or.inr rfl) | assumption)
def m_X5_rounded (x : Int64) (y : Int64) : Int64 :=
  ((((2) * x) + y) / ((2) * y))
set_option maxRecDepth 100000 in
set_option maxHeartbeats 2000000 in
theorem c_X5_rounded (l : Launch) (G : pw_G) (L : List Nat) (F : Nat → va_E)  (x : Int64) (y : Int64) (hy : ¬ ((2) * y) = 0) : PM l yX5_rounded wsX5_rounded ⟨0, 0, 0, 0⟩ G [.long x, .long y] [] L F 0 0 (po_d (some (.long (m_X5_rounded x y))) [] L F) := by
  refine pm_entry (by decide) rfl rfl (Nat.le_of_ble_eq_true rfl) ?_
  intro Z Q C hl0 hG0 hnm hE
  subst hl0
  subst hG0
  have w0_ : Cond.constantLong RX5 60 (2) ∈ wsX5_rounded := by decide +kernel
  show PW Z [] L F 0 0 Q 0 [(0, .long x), (2, .long y)] []
  refine pk_ldc2 C w0_ dX5_rounded_0 (pc2 := 3) rfl ?_
  refine pk_lload_n C 0 dX5_rounded_3 rfl rfl (pc2 := 4) rfl ?_
  refine pk_lmul C dX5_rounded_4 (pc2 := 5) rfl ?_
  refine pk_lload_n C 1 dX5_rounded_5 rfl rfl (pc2 := 6) rfl ?_
  refine pk_ladd C dX5_rounded_6 (pc2 := 7) rfl ?_
  refine pk_ldc2 C w0_ dX5_rounded_7 (pc2 := 10) rfl ?_
  refine pk_lload_n C 1 dX5_rounded_10 rfl rfl (pc2 := 11) rfl ?_
  refine pk_lmul C dX5_rounded_11 (pc2 := 12) rfl ?_
  refine pk_ldiv C dX5_rounded_12 hy (pc2 := 13) rfl ?_
  exact pr_long C hE (po_d_rfl (by first | with_reducible rfl | (unfold m_X5_rounded; with_reducible rfl)) (by first | with_reducible rfl | (unfold m_X5_rounded; with_reducible rfl))) dX5_rounded_13
def m_X5_isPart (c : MR) (T : TR) (p : Int32) : Int32 :=
  if p < 0 then 0 else if (M_pt c) ≤ p then 0 else 1
set_option maxRecDepth 100000 in
set_option maxHeartbeats 2000000 in
theorem c_X5_isPart (l : Launch) (G : pw_G) (L : List Nat) (F : Nat → va_E) (m : Nat) (rf : Nat → Nat) (c : MR) (T : TR) (p : Int32) : PM l yX5_isPart wsX5_isPart ⟨0, 0, 0, 0⟩ G [.ref m, .int p] (mX G m rf c T) L F 0 0 (po_d (some (.int (m_X5_isPart c T p))) (mX G m rf c T) L F) := by
  refine pm_entry (by decide) rfl rfl (Nat.le_of_ble_eq_true rfl) ?_
  intro Z Q C hl0 hG0 hnm hE
  subst hl0
  subst hG0
  have i5_ : ∀ w ∈ wsX50, w ∈ wsX5_isPart := by decide +kernel
  have w0_ : Cond.fieldLink RX5 62 "AgedAssetsModel" "parts" "I" ∈ wsX5_isPart := by decide +kernel
  show PW Z (mX (zG Z) m rf c T) L F 0 0 Q 0 [(0, .ref m), (1, .int p)] []
  refine pk_iload_n C 1 dX5_isPart_0 rfl rfl (pc2 := 1) rfl ?_
  refine pk_if_lt (tgt := 16) C dX5_isPart_1 (by decide) (pc2 := 4) rfl (fun h1_ => ?_) (fun h1_ => ?_)
  ·
    refine pk_iconst (v := 0) C dX5_isPart_16 (by decide) (pc2 := 17) rfl ?_
    exact pr_int (ty := .boolean) C hE rfl rfl (po_d_rfl (by first | with_reducible rfl | (unfold m_X5_isPart; rw [if_pos h1_])) (by first | with_reducible rfl | (unfold m_X5_isPart; rw [if_pos h1_]))) dX5_isPart_17
  ·
    refine pk_iload_n C 1 dX5_isPart_4 rfl rfl (pc2 := 5) rfl ?_
    refine pk_aload_n C 0 dX5_isPart_5 rfl rfl (pc2 := 6) rfl ?_
    refine pk_get (v := .int (M_pt c)) C i5_ (pw_atX 0 rfl) (ci := 5) rfl 1 (by decide) w0_ rfl rfl dX5_isPart_6 (pc2 := 9) rfl ?_
    refine pk_icmp_ge (tgt := 16) C dX5_isPart_9 (by decide) (pc2 := 12) rfl (fun h2_ => ?_) (fun h2_ => ?_)
    ·
      refine pk_iconst (v := 0) C dX5_isPart_16 (by decide) (pc2 := 17) rfl ?_
      exact pr_int (ty := .boolean) C hE rfl rfl (po_d_rfl (by first | with_reducible rfl | (unfold m_X5_isPart; rw [if_neg h1_, if_pos h2_])) (by first | with_reducible rfl | (unfold m_X5_isPart; rw [if_neg h1_, if_pos h2_]))) dX5_isPart_17
    ·
      refine pk_iconst (v := 1) C dX5_isPart_12 (by decide) (pc2 := 13) rfl ?_
      refine pk_goto (tgt := 17) C dX5_isPart_13 (by decide) ?_
      exact pr_int (ty := .boolean) C hE rfl rfl (po_d_rfl (by first | with_reducible rfl | (unfold m_X5_isPart; rw [if_neg h1_, if_neg h2_])) (by first | with_reducible rfl | (unfold m_X5_isPart; rw [if_neg h1_, if_neg h2_]))) dX5_isPart_17
theorem zb_m_X5_isPart (c : MR) (T : TR) (p : Int32) : (m_X5_isPart c T p) = 0 ∨ (m_X5_isPart c T p) = 1 := by
  unfold m_X5_isPart
  repeat (first | split | (exact Or.inl rfl) | (exact Or.inr rfl) | assumption)
def m_X5_isMonth (mm : Int32) : Int32 :=
  if mm < 0 then 0 else if 36 ≤ mm then 0 else 1
set_option maxRecDepth 100000 in
set_option maxHeartbeats 2000000 in
theorem c_X5_isMonth (l : Launch) (G : pw_G) (L : List Nat) (F : Nat → va_E)  (mm : Int32) : PM l yX5_isMonth wsX5_isMonth ⟨0, 0, 0, 0⟩ G [.int mm] [] L F 0 0 (po_d (some (.int (m_X5_isMonth mm))) [] L F) := by
  refine pm_entry (by decide) rfl rfl (Nat.le_of_ble_eq_true rfl) ?_
  intro Z Q C hl0 hG0 hnm hE
  subst hl0
  subst hG0
  show PW Z [] L F 0 0 Q 0 [(0, .int mm)] []
  refine pk_iload_n C 0 dX5_isMonth_0 rfl rfl (pc2 := 1) rfl ?_
  refine pk_if_lt (tgt := 14) C dX5_isMonth_1 (by decide) (pc2 := 4) rfl (fun h1_ => ?_) (fun h1_ => ?_)
  ·
    refine pk_iconst (v := 0) C dX5_isMonth_14 (by decide) (pc2 := 15) rfl ?_
    exact pr_int (ty := .boolean) C hE rfl rfl (po_d_rfl (by first | with_reducible rfl | (unfold m_X5_isMonth; rw [if_pos h1_])) (by first | with_reducible rfl | (unfold m_X5_isMonth; rw [if_pos h1_]))) dX5_isMonth_15
  ·
    refine pk_iload_n C 0 dX5_isMonth_4 rfl rfl (pc2 := 5) rfl ?_
    refine pk_bipush (v := 36) C dX5_isMonth_5 (by decide) (pc2 := 7) rfl ?_
    refine pk_icmp_ge (tgt := 14) C dX5_isMonth_7 (by decide) (pc2 := 10) rfl (fun h2_ => ?_) (fun h2_ => ?_)
    ·
      refine pk_iconst (v := 0) C dX5_isMonth_14 (by decide) (pc2 := 15) rfl ?_
      exact pr_int (ty := .boolean) C hE rfl rfl (po_d_rfl (by first | with_reducible rfl | (unfold m_X5_isMonth; rw [if_neg h1_, if_pos h2_])) (by first | with_reducible rfl | (unfold m_X5_isMonth; rw [if_neg h1_, if_pos h2_]))) dX5_isMonth_15
    ·
      refine pk_iconst (v := 1) C dX5_isMonth_10 (by decide) (pc2 := 11) rfl ?_
      refine pk_goto (tgt := 15) C dX5_isMonth_11 (by decide) ?_
      exact pr_int (ty := .boolean) C hE rfl rfl (po_d_rfl (by first | with_reducible rfl | (unfold m_X5_isMonth; rw [if_neg h1_, if_neg h2_])) (by first | with_reducible rfl | (unfold m_X5_isMonth; rw [if_neg h1_, if_neg h2_]))) dX5_isMonth_15
theorem zb_m_X5_isMonth (mm : Int32) : (m_X5_isMonth mm) = 0 ∨ (m_X5_isMonth mm) = 1 := by
  unfold m_X5_isMonth
  repeat (first | split | (exact Or.inl rfl) | (exact Or.inr rfl) | assumption)
def m_X5_book (c : MR) (T : TR) : Int64 :=
  ((M_co c) - (M_al c))
set_option maxRecDepth 100000 in
set_option maxHeartbeats 2000000 in
theorem c_X5_book (l : Launch) (G : pw_G) (L : List Nat) (F : Nat → va_E) (m : Nat) (rf : Nat → Nat) (c : MR) (T : TR) : PM l yX5_book wsX5_book ⟨0, 0, 0, 0⟩ G [.ref m] (mX G m rf c T) L F 0 0 (po_d (some (.long (m_X5_book c T))) (mX G m rf c T) L F) := by
  refine pm_entry (by decide) rfl rfl (Nat.le_of_ble_eq_true rfl) ?_
  intro Z Q C hl0 hG0 hnm hE
  subst hl0
  subst hG0
  have i5_ : ∀ w ∈ wsX50, w ∈ wsX5_book := by decide +kernel
  have w0_ : Cond.fieldLink RX5 65 "AgedAssetsModel" "cost" "J" ∈ wsX5_book := by decide +kernel
  have w1_ : Cond.fieldLink RX5 69 "AgedAssetsModel" "allowance" "J" ∈ wsX5_book := by decide +kernel
  show PW Z (mX (zG Z) m rf c T) L F 0 0 Q 0 [(0, .ref m)] []
  refine pk_aload_n C 0 dX5_book_0 rfl rfl (pc2 := 1) rfl ?_
  refine pk_get (v := .long (M_co c)) C i5_ (pw_atX 0 rfl) (ci := 5) rfl 17 (by decide) w0_ rfl rfl dX5_book_1 (pc2 := 4) rfl ?_
  refine pk_aload_n C 0 dX5_book_4 rfl rfl (pc2 := 5) rfl ?_
  refine pk_get (v := .long (M_al c)) C i5_ (pw_atX 0 rfl) (ci := 5) rfl 18 (by decide) w1_ rfl rfl dX5_book_5 (pc2 := 8) rfl ?_
  refine pk_lsub C dX5_book_8 (pc2 := 9) rfl ?_
  exact pr_long C hE (po_d_rfl (by first | with_reducible rfl | (unfold m_X5_book; with_reducible rfl)) (by first | with_reducible rfl | (unfold m_X5_book; with_reducible rfl))) dX5_book_9
def m_X5_stretch (c : MR) (T : TR) (p : Int32) : MR :=
  if (m_X5_book c T) ≤ (M_rs c) then if ((T_ra T) (Int32.toNatClampNeg p)) ≤ (M_sp c) then (M_mk (M_cd c) (M_pt c) (M_mn c) (M_ev c) (M_co c) (M_al c) (M_re c) (M_lo c) (M_rs c) (M_li c) (M_he c) (M_go c) (M_sp c) 0 (M_li c) 0 0 0 0 (M_lc c) (M_ac c) (M_bd c)) else (M_mk (M_cd c) (M_pt c) (M_mn c) (M_ev c) (M_co c) (M_al c) (M_re c) (M_lo c) (M_rs c) (M_li c) (M_he c) (M_go c) (M_sp c) 0 (M_li c) (((T_ra T) (Int32.toNatClampNeg p)) - (M_sp c)) 0 0 0 (M_lc c) (M_ac c) (M_bd c)) else if ((T_ra T) (Int32.toNatClampNeg p)) ≤ (M_sp c) then (M_mk (M_cd c) (M_pt c) (M_mn c) (M_ev c) (M_co c) (M_al c) (M_re c) (M_lo c) (M_rs c) (M_li c) (M_he c) (M_go c) (M_sp c) ((m_X5_book c T) - (M_rs c)) (M_li c) 0 0 0 0 (M_lc c) (M_ac c) (M_bd c)) else (M_mk (M_cd c) (M_pt c) (M_mn c) (M_ev c) (M_co c) (M_al c) (M_re c) (M_lo c) (M_rs c) (M_li c) (M_he c) (M_go c) (M_sp c) ((m_X5_book c T) - (M_rs c)) (M_li c) (((T_ra T) (Int32.toNatClampNeg p)) - (M_sp c)) 0 0 0 (M_lc c) (M_ac c) (M_bd c))
set_option maxRecDepth 100000 in
set_option maxHeartbeats 2000000 in
theorem c_X5_stretch (l : Launch) (G : pw_G) (L : List Nat) (F : Nat → va_E) (m : Nat) (rf : Nat → Nat) (c : MR) (T : TR) (p : Int32) (hp : vp_in p 6) : PM l yX5_stretch wsX5_stretch ⟨1, 0, 0, 20⟩ G [.ref m, .int p] (mX G m rf c T) L F 0 0 (po_d none (mX G m rf (m_X5_stretch c T p) T) L F) := by
  refine pm_entry (by decide) rfl rfl (Nat.le_of_ble_eq_true rfl) ?_
  intro Z Q C hl0 hG0 hnm hE
  subst hl0
  subst hG0
  have i5_ : ∀ w ∈ wsX50, w ∈ wsX5_stretch := by decide +kernel
  have w0_ : Cond.fieldLink RX5 79 "AgedAssetsModel" "residual" "J" ∈ wsX5_stretch := by decide +kernel
  have w1_ : Cond.fieldLink RX5 82 "AgedAssetsModel" "base" "J" ∈ wsX5_stretch := by decide +kernel
  have w2_ : Cond.fieldLink RX5 85 "AgedAssetsModel" "rest" "I" ∈ wsX5_stretch := by decide +kernel
  have w3_ : Cond.fieldLink RX5 88 "AgedAssetsModel" "length" "I" ∈ wsX5_stretch := by decide +kernel
  have w4_ : Cond.fieldLink RX5 26 "AgedAssetsModel" "rates" "[I" ∈ wsX5_stretch := by decide +kernel
  have w5_ : Cond.fieldLink RX5 91 "AgedAssetsModel" "spent" "I" ∈ wsX5_stretch := by decide +kernel
  have w6_ : Cond.fieldLink RX5 94 "AgedAssetsModel" "left" "I" ∈ wsX5_stretch := by decide +kernel
  have w7_ : Cond.fieldLink RX5 97 "AgedAssetsModel" "charged" "I" ∈ wsX5_stretch := by decide +kernel
  have w8_ : Cond.fieldLink RX5 100 "AgedAssetsModel" "stretchUnits" "I" ∈ wsX5_stretch := by decide +kernel
  have w9_ : Cond.fieldLink RX5 103 "AgedAssetsModel" "done" "J" ∈ wsX5_stretch := by decide +kernel
  show PW Z (mX (zG Z) m rf c T) L F 0 0 Q 0 [(0, .ref m), (1, .int p)] []
  refine pk_aload_n C 0 dX5_stretch_0 rfl rfl (pc2 := 1) rfl ?_
  refine pk_aload_n C 0 dX5_stretch_1 rfl rfl (pc2 := 2) rfl ?_
  refine pk_dV (cx := (mX (zG Z) m rf c T)) (wr := []) (X2 := (mX (zG Z) m rf c T)) (st := [.ref m]) (st2 := [.long (m_X5_book c T), .ref m]) (As := []) C (c_X5_book (zl Z) (zG Z) L F m rf c T) gX5_stretch_X5_book rfl rfl rfl 0 (by decide +kernel) ⟨Nat.le_of_ble_eq_true rfl, Nat.le_of_ble_eq_true rfl⟩ (pw_atX 0 rfl) rfl rfl rfl (Nat.le_of_ble_eq_true rfl) ⟨Nat.le_of_ble_eq_true rfl, Nat.le_of_ble_eq_true rfl⟩ [0, 1, 2, 3, 4, 5, 6, 7, 8, 9, 10, 11, 12, 13, 14, 15] [] [0, 1, 2, 3, 4, 5, 6, 7, 8, 9, 10, 11, 12, 13, 14, 15] rfl rfl rfl rfl (by decide) rfl rfl dX5_stretch_2 (pc2 := 5) rfl rfl ?_
  refine pk_topl (fun n1_ en1_ => ?_)
  refine pk_aload_n C 0 dX5_stretch_5 rfl rfl (pc2 := 6) rfl ?_
  refine pk_get (v := .long (M_rs c)) C i5_ (pw_atX 0 rfl) (ci := 5) rfl 21 (by decide) w0_ rfl rfl dX5_stretch_6 (pc2 := 9) rfl ?_
  refine pk_lcmp_le (tgt := 25) C dX5_stretch_9 dX5_stretch_10 (pc1 := 10) rfl (by decide) (pc2 := 13) rfl (fun h1_ => ?_) (fun h1_ => ?_)
  ·
    refine pk_lconst (v := 0) C dX5_stretch_25 (by decide) (pc2 := 26) rfl ?_
    refine pk_putX (X' := (mX (zG Z) m rf (M_mk (M_cd c) (M_pt c) (M_mn c) (M_ev c) (M_co c) (M_al c) (M_re c) (M_lo c) (M_rs c) (M_li c) (M_he c) (M_go c) (M_sp c) 0 (M_le c) (M_lf c) (M_mo c) (M_un c) (M_ch c) (M_lc c) (M_ac c) (M_bd c)) T)) C i5_ tyX5_ok nmX5 0 rfl (ci := 5) rfl 26 (by decide) w1_ rfl rfl rfl rfl rfl (Nat.le_of_ble_eq_true rfl) rfl dX5_stretch_26 (pc2 := 29) rfl ?_
    refine pk_aload_n C 0 dX5_stretch_29 rfl rfl (pc2 := 30) rfl ?_
    refine pk_aload_n C 0 dX5_stretch_30 rfl rfl (pc2 := 31) rfl ?_
    refine pk_get (v := .int (M_li c)) C i5_ (pw_atX 0 rfl) (ci := 5) rfl 22 (by decide) w2_ rfl rfl dX5_stretch_31 (pc2 := 34) rfl ?_
    refine pk_putX (X' := (mX (zG Z) m rf (M_mk (M_cd c) (M_pt c) (M_mn c) (M_ev c) (M_co c) (M_al c) (M_re c) (M_lo c) (M_rs c) (M_li c) (M_he c) (M_go c) (M_sp c) 0 (M_li c) (M_lf c) (M_mo c) (M_un c) (M_ch c) (M_lc c) (M_ac c) (M_bd c)) T)) C i5_ tyX5_ok nmX5 0 rfl (ci := 5) rfl 27 (by decide) w3_ rfl rfl rfl rfl rfl (Nat.le_of_ble_eq_true rfl) rfl dX5_stretch_34 (pc2 := 37) rfl ?_
    refine pk_aload_n C 0 dX5_stretch_37 rfl rfl (pc2 := 38) rfl ?_
    refine pk_aload_n C 0 dX5_stretch_38 rfl rfl (pc2 := 39) rfl ?_
    refine pk_get (v := .ref (rf 5)) C i5_ (pw_atX 0 rfl) (ci := 5) rfl 7 (by decide) w4_ rfl rfl dX5_stretch_39 (pc2 := 42) rfl ?_
    refine pk_iload_n C 1 dX5_stretch_42 rfl rfl (pc2 := 43) rfl ?_
    refine pk_iald (v := ((T_ra T) (Int32.toNatClampNeg p))) C (pw_atX 6 rfl) hp rfl dX5_stretch_43 (pc2 := 44) rfl ?_
    refine pk_aload_n C 0 dX5_stretch_44 rfl rfl (pc2 := 45) rfl ?_
    refine pk_get (v := .int (M_sp c)) C i5_ (pw_atX 0 rfl) (ci := 5) rfl 25 (by decide) w5_ rfl rfl dX5_stretch_45 (pc2 := 48) rfl ?_
    refine pk_icmp_le (tgt := 65) C dX5_stretch_48 (by decide) (pc2 := 51) rfl (fun h2_ => ?_) (fun h2_ => ?_)
    ·
      refine pk_iconst (v := 0) C dX5_stretch_65 (by decide) (pc2 := 66) rfl ?_
      refine pk_putX (X' := (mX (zG Z) m rf (M_mk (M_cd c) (M_pt c) (M_mn c) (M_ev c) (M_co c) (M_al c) (M_re c) (M_lo c) (M_rs c) (M_li c) (M_he c) (M_go c) (M_sp c) 0 (M_li c) 0 (M_mo c) (M_un c) (M_ch c) (M_lc c) (M_ac c) (M_bd c)) T)) C i5_ tyX5_ok nmX5 0 rfl (ci := 5) rfl 28 (by decide) w6_ rfl rfl rfl rfl rfl (Nat.le_of_ble_eq_true rfl) rfl dX5_stretch_66 (pc2 := 69) rfl ?_
      refine pk_aload_n C 0 dX5_stretch_69 rfl rfl (pc2 := 70) rfl ?_
      refine pk_iconst (v := 0) C dX5_stretch_70 (by decide) (pc2 := 71) rfl ?_
      refine pk_putX (X' := (mX (zG Z) m rf (M_mk (M_cd c) (M_pt c) (M_mn c) (M_ev c) (M_co c) (M_al c) (M_re c) (M_lo c) (M_rs c) (M_li c) (M_he c) (M_go c) (M_sp c) 0 (M_li c) 0 0 (M_un c) (M_ch c) (M_lc c) (M_ac c) (M_bd c)) T)) C i5_ tyX5_ok nmX5 0 rfl (ci := 5) rfl 29 (by decide) w7_ rfl rfl rfl rfl rfl (Nat.le_of_ble_eq_true rfl) rfl dX5_stretch_71 (pc2 := 74) rfl ?_
      refine pk_aload_n C 0 dX5_stretch_74 rfl rfl (pc2 := 75) rfl ?_
      refine pk_iconst (v := 0) C dX5_stretch_75 (by decide) (pc2 := 76) rfl ?_
      refine pk_putX (X' := (mX (zG Z) m rf (M_mk (M_cd c) (M_pt c) (M_mn c) (M_ev c) (M_co c) (M_al c) (M_re c) (M_lo c) (M_rs c) (M_li c) (M_he c) (M_go c) (M_sp c) 0 (M_li c) 0 0 0 (M_ch c) (M_lc c) (M_ac c) (M_bd c)) T)) C i5_ tyX5_ok nmX5 0 rfl (ci := 5) rfl 30 (by decide) w8_ rfl rfl rfl rfl rfl (Nat.le_of_ble_eq_true rfl) rfl dX5_stretch_76 (pc2 := 79) rfl ?_
      refine pk_aload_n C 0 dX5_stretch_79 rfl rfl (pc2 := 80) rfl ?_
      refine pk_lconst (v := 0) C dX5_stretch_80 (by decide) (pc2 := 81) rfl ?_
      refine pk_putX (X' := (mX (zG Z) m rf (M_mk (M_cd c) (M_pt c) (M_mn c) (M_ev c) (M_co c) (M_al c) (M_re c) (M_lo c) (M_rs c) (M_li c) (M_he c) (M_go c) (M_sp c) 0 (M_li c) 0 0 0 0 (M_lc c) (M_ac c) (M_bd c)) T)) C i5_ tyX5_ok nmX5 0 rfl (ci := 5) rfl 31 (by decide) w9_ rfl rfl rfl rfl rfl (Nat.le_of_ble_eq_true rfl) rfl dX5_stretch_81 (pc2 := 84) rfl ?_
      subst en1_
      exact pr_void C hE (po_d_rfl rfl (by first | with_reducible rfl | (unfold m_X5_stretch; rw [if_pos h1_, if_pos h2_]))) dX5_stretch_84
    ·
      refine pk_aload_n C 0 dX5_stretch_51 rfl rfl (pc2 := 52) rfl ?_
      refine pk_get (v := .ref (rf 5)) C i5_ (pw_atX 0 rfl) (ci := 5) rfl 7 (by decide) w4_ rfl rfl dX5_stretch_52 (pc2 := 55) rfl ?_
      refine pk_iload_n C 1 dX5_stretch_55 rfl rfl (pc2 := 56) rfl ?_
      refine pk_iald (v := ((T_ra T) (Int32.toNatClampNeg p))) C (pw_atX 6 rfl) hp rfl dX5_stretch_56 (pc2 := 57) rfl ?_
      refine pk_aload_n C 0 dX5_stretch_57 rfl rfl (pc2 := 58) rfl ?_
      refine pk_get (v := .int (M_sp c)) C i5_ (pw_atX 0 rfl) (ci := 5) rfl 25 (by decide) w5_ rfl rfl dX5_stretch_58 (pc2 := 61) rfl ?_
      refine pk_isub C dX5_stretch_61 (pc2 := 62) rfl ?_
      refine pk_goto (tgt := 66) C dX5_stretch_62 (by decide) ?_
      refine pk_topi (fun n2_ en2_ => ?_)
      refine pk_putX (X' := (mX (zG Z) m rf (M_mk (M_cd c) (M_pt c) (M_mn c) (M_ev c) (M_co c) (M_al c) (M_re c) (M_lo c) (M_rs c) (M_li c) (M_he c) (M_go c) (M_sp c) 0 (M_li c) n2_ (M_mo c) (M_un c) (M_ch c) (M_lc c) (M_ac c) (M_bd c)) T)) C i5_ tyX5_ok nmX5 0 rfl (ci := 5) rfl 28 (by decide) w6_ rfl rfl rfl rfl rfl (Nat.le_of_ble_eq_true rfl) rfl dX5_stretch_66 (pc2 := 69) rfl ?_
      refine pk_aload_n C 0 dX5_stretch_69 rfl rfl (pc2 := 70) rfl ?_
      refine pk_iconst (v := 0) C dX5_stretch_70 (by decide) (pc2 := 71) rfl ?_
      refine pk_putX (X' := (mX (zG Z) m rf (M_mk (M_cd c) (M_pt c) (M_mn c) (M_ev c) (M_co c) (M_al c) (M_re c) (M_lo c) (M_rs c) (M_li c) (M_he c) (M_go c) (M_sp c) 0 (M_li c) n2_ 0 (M_un c) (M_ch c) (M_lc c) (M_ac c) (M_bd c)) T)) C i5_ tyX5_ok nmX5 0 rfl (ci := 5) rfl 29 (by decide) w7_ rfl rfl rfl rfl rfl (Nat.le_of_ble_eq_true rfl) rfl dX5_stretch_71 (pc2 := 74) rfl ?_
      refine pk_aload_n C 0 dX5_stretch_74 rfl rfl (pc2 := 75) rfl ?_
      refine pk_iconst (v := 0) C dX5_stretch_75 (by decide) (pc2 := 76) rfl ?_
      refine pk_putX (X' := (mX (zG Z) m rf (M_mk (M_cd c) (M_pt c) (M_mn c) (M_ev c) (M_co c) (M_al c) (M_re c) (M_lo c) (M_rs c) (M_li c) (M_he c) (M_go c) (M_sp c) 0 (M_li c) n2_ 0 0 (M_ch c) (M_lc c) (M_ac c) (M_bd c)) T)) C i5_ tyX5_ok nmX5 0 rfl (ci := 5) rfl 30 (by decide) w8_ rfl rfl rfl rfl rfl (Nat.le_of_ble_eq_true rfl) rfl dX5_stretch_76 (pc2 := 79) rfl ?_
      refine pk_aload_n C 0 dX5_stretch_79 rfl rfl (pc2 := 80) rfl ?_
      refine pk_lconst (v := 0) C dX5_stretch_80 (by decide) (pc2 := 81) rfl ?_
      refine pk_putX (X' := (mX (zG Z) m rf (M_mk (M_cd c) (M_pt c) (M_mn c) (M_ev c) (M_co c) (M_al c) (M_re c) (M_lo c) (M_rs c) (M_li c) (M_he c) (M_go c) (M_sp c) 0 (M_li c) n2_ 0 0 0 (M_lc c) (M_ac c) (M_bd c)) T)) C i5_ tyX5_ok nmX5 0 rfl (ci := 5) rfl 31 (by decide) w9_ rfl rfl rfl rfl rfl (Nat.le_of_ble_eq_true rfl) rfl dX5_stretch_81 (pc2 := 84) rfl ?_
      subst en1_ en2_
      exact pr_void C hE (po_d_rfl rfl (by first | with_reducible rfl | (unfold m_X5_stretch; rw [if_pos h1_, if_neg h2_]))) dX5_stretch_84
  ·
    refine pk_aload_n C 0 dX5_stretch_13 rfl rfl (pc2 := 14) rfl ?_
    refine pk_dV (cx := (mX (zG Z) m rf c T)) (wr := []) (X2 := (mX (zG Z) m rf c T)) (st := [.ref m]) (st2 := [.long (m_X5_book c T), .ref m]) (As := []) C (c_X5_book (zl Z) (zG Z) L F m rf c T) gX5_stretch_X5_book rfl rfl rfl 0 (by decide +kernel) ⟨Nat.le_of_ble_eq_true rfl, Nat.le_of_ble_eq_true rfl⟩ (pw_atX 0 rfl) rfl rfl rfl (Nat.le_of_ble_eq_true rfl) ⟨Nat.le_of_ble_eq_true rfl, Nat.le_of_ble_eq_true rfl⟩ [0, 1, 2, 3, 4, 5, 6, 7, 8, 9, 10, 11, 12, 13, 14, 15] [] [0, 1, 2, 3, 4, 5, 6, 7, 8, 9, 10, 11, 12, 13, 14, 15] rfl rfl rfl rfl (by decide) rfl rfl dX5_stretch_14 (pc2 := 17) rfl rfl ?_
    refine pk_topl (fun n3_ en3_ => ?_)
    refine pk_aload_n C 0 dX5_stretch_17 rfl rfl (pc2 := 18) rfl ?_
    refine pk_get (v := .long (M_rs c)) C i5_ (pw_atX 0 rfl) (ci := 5) rfl 21 (by decide) w0_ rfl rfl dX5_stretch_18 (pc2 := 21) rfl ?_
    refine pk_lsub C dX5_stretch_21 (pc2 := 22) rfl ?_
    refine pk_goto (tgt := 26) C dX5_stretch_22 (by decide) ?_
    refine pk_topl (fun n4_ en4_ => ?_)
    refine pk_putX (X' := (mX (zG Z) m rf (M_mk (M_cd c) (M_pt c) (M_mn c) (M_ev c) (M_co c) (M_al c) (M_re c) (M_lo c) (M_rs c) (M_li c) (M_he c) (M_go c) (M_sp c) n4_ (M_le c) (M_lf c) (M_mo c) (M_un c) (M_ch c) (M_lc c) (M_ac c) (M_bd c)) T)) C i5_ tyX5_ok nmX5 0 rfl (ci := 5) rfl 26 (by decide) w1_ rfl rfl rfl rfl rfl (Nat.le_of_ble_eq_true rfl) rfl dX5_stretch_26 (pc2 := 29) rfl ?_
    refine pk_aload_n C 0 dX5_stretch_29 rfl rfl (pc2 := 30) rfl ?_
    refine pk_aload_n C 0 dX5_stretch_30 rfl rfl (pc2 := 31) rfl ?_
    refine pk_get (v := .int (M_li c)) C i5_ (pw_atX 0 rfl) (ci := 5) rfl 22 (by decide) w2_ rfl rfl dX5_stretch_31 (pc2 := 34) rfl ?_
    refine pk_putX (X' := (mX (zG Z) m rf (M_mk (M_cd c) (M_pt c) (M_mn c) (M_ev c) (M_co c) (M_al c) (M_re c) (M_lo c) (M_rs c) (M_li c) (M_he c) (M_go c) (M_sp c) n4_ (M_li c) (M_lf c) (M_mo c) (M_un c) (M_ch c) (M_lc c) (M_ac c) (M_bd c)) T)) C i5_ tyX5_ok nmX5 0 rfl (ci := 5) rfl 27 (by decide) w3_ rfl rfl rfl rfl rfl (Nat.le_of_ble_eq_true rfl) rfl dX5_stretch_34 (pc2 := 37) rfl ?_
    refine pk_aload_n C 0 dX5_stretch_37 rfl rfl (pc2 := 38) rfl ?_
    refine pk_aload_n C 0 dX5_stretch_38 rfl rfl (pc2 := 39) rfl ?_
    refine pk_get (v := .ref (rf 5)) C i5_ (pw_atX 0 rfl) (ci := 5) rfl 7 (by decide) w4_ rfl rfl dX5_stretch_39 (pc2 := 42) rfl ?_
    refine pk_iload_n C 1 dX5_stretch_42 rfl rfl (pc2 := 43) rfl ?_
    refine pk_iald (v := ((T_ra T) (Int32.toNatClampNeg p))) C (pw_atX 6 rfl) hp rfl dX5_stretch_43 (pc2 := 44) rfl ?_
    refine pk_aload_n C 0 dX5_stretch_44 rfl rfl (pc2 := 45) rfl ?_
    refine pk_get (v := .int (M_sp c)) C i5_ (pw_atX 0 rfl) (ci := 5) rfl 25 (by decide) w5_ rfl rfl dX5_stretch_45 (pc2 := 48) rfl ?_
    refine pk_icmp_le (tgt := 65) C dX5_stretch_48 (by decide) (pc2 := 51) rfl (fun h3_ => ?_) (fun h3_ => ?_)
    ·
      refine pk_iconst (v := 0) C dX5_stretch_65 (by decide) (pc2 := 66) rfl ?_
      refine pk_putX (X' := (mX (zG Z) m rf (M_mk (M_cd c) (M_pt c) (M_mn c) (M_ev c) (M_co c) (M_al c) (M_re c) (M_lo c) (M_rs c) (M_li c) (M_he c) (M_go c) (M_sp c) n4_ (M_li c) 0 (M_mo c) (M_un c) (M_ch c) (M_lc c) (M_ac c) (M_bd c)) T)) C i5_ tyX5_ok nmX5 0 rfl (ci := 5) rfl 28 (by decide) w6_ rfl rfl rfl rfl rfl (Nat.le_of_ble_eq_true rfl) rfl dX5_stretch_66 (pc2 := 69) rfl ?_
      refine pk_aload_n C 0 dX5_stretch_69 rfl rfl (pc2 := 70) rfl ?_
      refine pk_iconst (v := 0) C dX5_stretch_70 (by decide) (pc2 := 71) rfl ?_
      refine pk_putX (X' := (mX (zG Z) m rf (M_mk (M_cd c) (M_pt c) (M_mn c) (M_ev c) (M_co c) (M_al c) (M_re c) (M_lo c) (M_rs c) (M_li c) (M_he c) (M_go c) (M_sp c) n4_ (M_li c) 0 0 (M_un c) (M_ch c) (M_lc c) (M_ac c) (M_bd c)) T)) C i5_ tyX5_ok nmX5 0 rfl (ci := 5) rfl 29 (by decide) w7_ rfl rfl rfl rfl rfl (Nat.le_of_ble_eq_true rfl) rfl dX5_stretch_71 (pc2 := 74) rfl ?_
      refine pk_aload_n C 0 dX5_stretch_74 rfl rfl (pc2 := 75) rfl ?_
      refine pk_iconst (v := 0) C dX5_stretch_75 (by decide) (pc2 := 76) rfl ?_
      refine pk_putX (X' := (mX (zG Z) m rf (M_mk (M_cd c) (M_pt c) (M_mn c) (M_ev c) (M_co c) (M_al c) (M_re c) (M_lo c) (M_rs c) (M_li c) (M_he c) (M_go c) (M_sp c) n4_ (M_li c) 0 0 0 (M_ch c) (M_lc c) (M_ac c) (M_bd c)) T)) C i5_ tyX5_ok nmX5 0 rfl (ci := 5) rfl 30 (by decide) w8_ rfl rfl rfl rfl rfl (Nat.le_of_ble_eq_true rfl) rfl dX5_stretch_76 (pc2 := 79) rfl ?_
      refine pk_aload_n C 0 dX5_stretch_79 rfl rfl (pc2 := 80) rfl ?_
      refine pk_lconst (v := 0) C dX5_stretch_80 (by decide) (pc2 := 81) rfl ?_
      refine pk_putX (X' := (mX (zG Z) m rf (M_mk (M_cd c) (M_pt c) (M_mn c) (M_ev c) (M_co c) (M_al c) (M_re c) (M_lo c) (M_rs c) (M_li c) (M_he c) (M_go c) (M_sp c) n4_ (M_li c) 0 0 0 0 (M_lc c) (M_ac c) (M_bd c)) T)) C i5_ tyX5_ok nmX5 0 rfl (ci := 5) rfl 31 (by decide) w9_ rfl rfl rfl rfl rfl (Nat.le_of_ble_eq_true rfl) rfl dX5_stretch_81 (pc2 := 84) rfl ?_
      subst en1_ en3_ en4_
      exact pr_void C hE (po_d_rfl rfl (by first | with_reducible rfl | (unfold m_X5_stretch; rw [if_neg h1_, if_pos h3_]))) dX5_stretch_84
    ·
      refine pk_aload_n C 0 dX5_stretch_51 rfl rfl (pc2 := 52) rfl ?_
      refine pk_get (v := .ref (rf 5)) C i5_ (pw_atX 0 rfl) (ci := 5) rfl 7 (by decide) w4_ rfl rfl dX5_stretch_52 (pc2 := 55) rfl ?_
      refine pk_iload_n C 1 dX5_stretch_55 rfl rfl (pc2 := 56) rfl ?_
      refine pk_iald (v := ((T_ra T) (Int32.toNatClampNeg p))) C (pw_atX 6 rfl) hp rfl dX5_stretch_56 (pc2 := 57) rfl ?_
      refine pk_aload_n C 0 dX5_stretch_57 rfl rfl (pc2 := 58) rfl ?_
      refine pk_get (v := .int (M_sp c)) C i5_ (pw_atX 0 rfl) (ci := 5) rfl 25 (by decide) w5_ rfl rfl dX5_stretch_58 (pc2 := 61) rfl ?_
      refine pk_isub C dX5_stretch_61 (pc2 := 62) rfl ?_
      refine pk_goto (tgt := 66) C dX5_stretch_62 (by decide) ?_
      refine pk_topi (fun n5_ en5_ => ?_)
      refine pk_putX (X' := (mX (zG Z) m rf (M_mk (M_cd c) (M_pt c) (M_mn c) (M_ev c) (M_co c) (M_al c) (M_re c) (M_lo c) (M_rs c) (M_li c) (M_he c) (M_go c) (M_sp c) n4_ (M_li c) n5_ (M_mo c) (M_un c) (M_ch c) (M_lc c) (M_ac c) (M_bd c)) T)) C i5_ tyX5_ok nmX5 0 rfl (ci := 5) rfl 28 (by decide) w6_ rfl rfl rfl rfl rfl (Nat.le_of_ble_eq_true rfl) rfl dX5_stretch_66 (pc2 := 69) rfl ?_
      refine pk_aload_n C 0 dX5_stretch_69 rfl rfl (pc2 := 70) rfl ?_
      refine pk_iconst (v := 0) C dX5_stretch_70 (by decide) (pc2 := 71) rfl ?_
      refine pk_putX (X' := (mX (zG Z) m rf (M_mk (M_cd c) (M_pt c) (M_mn c) (M_ev c) (M_co c) (M_al c) (M_re c) (M_lo c) (M_rs c) (M_li c) (M_he c) (M_go c) (M_sp c) n4_ (M_li c) n5_ 0 (M_un c) (M_ch c) (M_lc c) (M_ac c) (M_bd c)) T)) C i5_ tyX5_ok nmX5 0 rfl (ci := 5) rfl 29 (by decide) w7_ rfl rfl rfl rfl rfl (Nat.le_of_ble_eq_true rfl) rfl dX5_stretch_71 (pc2 := 74) rfl ?_
      refine pk_aload_n C 0 dX5_stretch_74 rfl rfl (pc2 := 75) rfl ?_
      refine pk_iconst (v := 0) C dX5_stretch_75 (by decide) (pc2 := 76) rfl ?_
      refine pk_putX (X' := (mX (zG Z) m rf (M_mk (M_cd c) (M_pt c) (M_mn c) (M_ev c) (M_co c) (M_al c) (M_re c) (M_lo c) (M_rs c) (M_li c) (M_he c) (M_go c) (M_sp c) n4_ (M_li c) n5_ 0 0 (M_ch c) (M_lc c) (M_ac c) (M_bd c)) T)) C i5_ tyX5_ok nmX5 0 rfl (ci := 5) rfl 30 (by decide) w8_ rfl rfl rfl rfl rfl (Nat.le_of_ble_eq_true rfl) rfl dX5_stretch_76 (pc2 := 79) rfl ?_
      refine pk_aload_n C 0 dX5_stretch_79 rfl rfl (pc2 := 80) rfl ?_
      refine pk_lconst (v := 0) C dX5_stretch_80 (by decide) (pc2 := 81) rfl ?_
      refine pk_putX (X' := (mX (zG Z) m rf (M_mk (M_cd c) (M_pt c) (M_mn c) (M_ev c) (M_co c) (M_al c) (M_re c) (M_lo c) (M_rs c) (M_li c) (M_he c) (M_go c) (M_sp c) n4_ (M_li c) n5_ 0 0 0 (M_lc c) (M_ac c) (M_bd c)) T)) C i5_ tyX5_ok nmX5 0 rfl (ci := 5) rfl 31 (by decide) w9_ rfl rfl rfl rfl rfl (Nat.le_of_ble_eq_true rfl) rfl dX5_stretch_81 (pc2 := 84) rfl ?_
      subst en1_ en3_ en4_ en5_
      exact pr_void C hE (po_d_rfl rfl (by first | with_reducible rfl | (unfold m_X5_stretch; rw [if_neg h1_, if_neg h3_]))) dX5_stretch_84
def m_X5_fall (c : MR) (T : TR) (y : Int64) : MR :=
  if (M_re c) ≤ y then (M_mk (M_cd c) (M_pt c) (M_mn c) (M_ev c) (M_co c) (M_al c) ((M_re c) - (M_re c)) (((M_lo c) + y) - (M_re c)) (M_rs c) (M_li c) (M_he c) (M_go c) (M_sp c) (M_ba c) (M_le c) (M_lf c) (M_mo c) (M_un c) (M_ch c) (M_lc c) (M_ac c) (M_bd c)) else (M_mk (M_cd c) (M_pt c) (M_mn c) (M_ev c) (M_co c) (M_al c) ((M_re c) - y) (((M_lo c) + y) - y) (M_rs c) (M_li c) (M_he c) (M_go c) (M_sp c) (M_ba c) (M_le c) (M_lf c) (M_mo c) (M_un c) (M_ch c) (M_lc c) (M_ac c) (M_bd c))
set_option maxRecDepth 100000 in
set_option maxHeartbeats 2000000 in
theorem c_X5_fall (l : Launch) (G : pw_G) (L : List Nat) (F : Nat → va_E) (m : Nat) (rf : Nat → Nat) (c : MR) (T : TR) (y : Int64) : PM l yX5_fall wsX5_fall ⟨0, 0, 0, 0⟩ G [.ref m, .long y] (mX G m rf c T) L F 0 0 (po_d none (mX G m rf (m_X5_fall c T y) T) L F) := by
  refine pm_entry (by decide) rfl rfl (Nat.le_of_ble_eq_true rfl) ?_
  intro Z Q C hl0 hG0 hnm hE
  subst hl0
  subst hG0
  have i5_ : ∀ w ∈ wsX50, w ∈ wsX5_fall := by decide +kernel
  have w0_ : Cond.fieldLink RX5 106 "AgedAssetsModel" "reserve" "J" ∈ wsX5_fall := by decide +kernel
  have w1_ : Cond.fieldLink RX5 109 "AgedAssetsModel" "losses" "J" ∈ wsX5_fall := by decide +kernel
  show PW Z (mX (zG Z) m rf c T) L F 0 0 Q 0 [(0, .ref m), (1, .long y)] []
  refine pk_lload_n C 1 dX5_fall_0 rfl rfl (pc2 := 1) rfl ?_
  refine pk_aload_n C 0 dX5_fall_1 rfl rfl (pc2 := 2) rfl ?_
  refine pk_get (v := .long (M_re c)) C i5_ (pw_atX 0 rfl) (ci := 5) rfl 19 (by decide) w0_ rfl rfl dX5_fall_2 (pc2 := 5) rfl ?_
  refine pk_lcmp_ge (tgt := 13) C dX5_fall_5 dX5_fall_6 (pc1 := 6) rfl (by decide) (pc2 := 9) rfl (fun h1_ => ?_) (fun h1_ => ?_)
  ·
    refine pk_aload_n C 0 dX5_fall_13 rfl rfl (pc2 := 14) rfl ?_
    refine pk_get (v := .long (M_re c)) C i5_ (pw_atX 0 rfl) (ci := 5) rfl 19 (by decide) w0_ rfl rfl dX5_fall_14 (pc2 := 17) rfl ?_
    refine pk_lstore_n (lv' := [(3, .long (M_re c)), (0, .ref m), (1, .long y)]) C dX5_fall_17 rfl (by decide) rfl (pc2 := 18) rfl ?_
    refine pk_aload_n C 1 dX5_fall_18 rfl rfl (pc2 := 19) rfl ?_
    refine pk_aload_n C 1 dX5_fall_19 rfl rfl (pc2 := 20) rfl ?_
    refine pk_get (v := .long (M_re c)) C i5_ (pw_atX 0 rfl) (ci := 5) rfl 19 (by decide) w0_ rfl rfl dX5_fall_20 (pc2 := 23) rfl ?_
    refine pk_lload_n C 0 dX5_fall_23 rfl rfl (pc2 := 24) rfl ?_
    refine pk_lsub C dX5_fall_24 (pc2 := 25) rfl ?_
    refine pk_topl (fun n1_ en1_ => ?_)
    refine pk_putX (X' := (mX (zG Z) m rf (M_mk (M_cd c) (M_pt c) (M_mn c) (M_ev c) (M_co c) (M_al c) n1_ (M_lo c) (M_rs c) (M_li c) (M_he c) (M_go c) (M_sp c) (M_ba c) (M_le c) (M_lf c) (M_mo c) (M_un c) (M_ch c) (M_lc c) (M_ac c) (M_bd c)) T)) C i5_ tyX5_ok nmX5 0 rfl (ci := 5) rfl 19 (by decide) w0_ rfl rfl rfl rfl rfl (Nat.le_of_ble_eq_true rfl) rfl dX5_fall_25 (pc2 := 28) rfl ?_
    refine pk_aload_n C 1 dX5_fall_28 rfl rfl (pc2 := 29) rfl ?_
    refine pk_aload_n C 1 dX5_fall_29 rfl rfl (pc2 := 30) rfl ?_
    refine pk_get (v := .long (M_lo c)) C i5_ (pw_atX 0 rfl) (ci := 5) rfl 20 (by decide) w1_ rfl rfl dX5_fall_30 (pc2 := 33) rfl ?_
    refine pk_lload_n C 2 dX5_fall_33 rfl rfl (pc2 := 34) rfl ?_
    refine pk_ladd C dX5_fall_34 (pc2 := 35) rfl ?_
    refine pk_lload_n C 0 dX5_fall_35 rfl rfl (pc2 := 36) rfl ?_
    refine pk_lsub C dX5_fall_36 (pc2 := 37) rfl ?_
    refine pk_topl (fun n2_ en2_ => ?_)
    refine pk_putX (X' := (mX (zG Z) m rf (M_mk (M_cd c) (M_pt c) (M_mn c) (M_ev c) (M_co c) (M_al c) n1_ n2_ (M_rs c) (M_li c) (M_he c) (M_go c) (M_sp c) (M_ba c) (M_le c) (M_lf c) (M_mo c) (M_un c) (M_ch c) (M_lc c) (M_ac c) (M_bd c)) T)) C i5_ tyX5_ok nmX5 0 rfl (ci := 5) rfl 20 (by decide) w1_ rfl rfl rfl rfl rfl (Nat.le_of_ble_eq_true rfl) rfl dX5_fall_37 (pc2 := 40) rfl ?_
    subst en1_ en2_
    exact pr_void C hE (po_d_rfl rfl (by first | with_reducible rfl | (unfold m_X5_fall; rw [if_pos h1_]))) dX5_fall_40
  ·
    refine pk_lload_n C 1 dX5_fall_9 rfl rfl (pc2 := 10) rfl ?_
    refine pk_goto (tgt := 17) C dX5_fall_10 (by decide) ?_
    refine pk_lstore_n (lv' := [(3, .long y), (0, .ref m), (1, .long y)]) C dX5_fall_17 rfl (by decide) rfl (pc2 := 18) rfl ?_
    refine pk_aload_n C 1 dX5_fall_18 rfl rfl (pc2 := 19) rfl ?_
    refine pk_aload_n C 1 dX5_fall_19 rfl rfl (pc2 := 20) rfl ?_
    refine pk_get (v := .long (M_re c)) C i5_ (pw_atX 0 rfl) (ci := 5) rfl 19 (by decide) w0_ rfl rfl dX5_fall_20 (pc2 := 23) rfl ?_
    refine pk_lload_n C 0 dX5_fall_23 rfl rfl (pc2 := 24) rfl ?_
    refine pk_lsub C dX5_fall_24 (pc2 := 25) rfl ?_
    refine pk_topl (fun n3_ en3_ => ?_)
    refine pk_putX (X' := (mX (zG Z) m rf (M_mk (M_cd c) (M_pt c) (M_mn c) (M_ev c) (M_co c) (M_al c) n3_ (M_lo c) (M_rs c) (M_li c) (M_he c) (M_go c) (M_sp c) (M_ba c) (M_le c) (M_lf c) (M_mo c) (M_un c) (M_ch c) (M_lc c) (M_ac c) (M_bd c)) T)) C i5_ tyX5_ok nmX5 0 rfl (ci := 5) rfl 19 (by decide) w0_ rfl rfl rfl rfl rfl (Nat.le_of_ble_eq_true rfl) rfl dX5_fall_25 (pc2 := 28) rfl ?_
    refine pk_aload_n C 1 dX5_fall_28 rfl rfl (pc2 := 29) rfl ?_
    refine pk_aload_n C 1 dX5_fall_29 rfl rfl (pc2 := 30) rfl ?_
    refine pk_get (v := .long (M_lo c)) C i5_ (pw_atX 0 rfl) (ci := 5) rfl 20 (by decide) w1_ rfl rfl dX5_fall_30 (pc2 := 33) rfl ?_
    refine pk_lload_n C 2 dX5_fall_33 rfl rfl (pc2 := 34) rfl ?_
    refine pk_ladd C dX5_fall_34 (pc2 := 35) rfl ?_
    refine pk_lload_n C 0 dX5_fall_35 rfl rfl (pc2 := 36) rfl ?_
    refine pk_lsub C dX5_fall_36 (pc2 := 37) rfl ?_
    refine pk_topl (fun n4_ en4_ => ?_)
    refine pk_putX (X' := (mX (zG Z) m rf (M_mk (M_cd c) (M_pt c) (M_mn c) (M_ev c) (M_co c) (M_al c) n3_ n4_ (M_rs c) (M_li c) (M_he c) (M_go c) (M_sp c) (M_ba c) (M_le c) (M_lf c) (M_mo c) (M_un c) (M_ch c) (M_lc c) (M_ac c) (M_bd c)) T)) C i5_ tyX5_ok nmX5 0 rfl (ci := 5) rfl 20 (by decide) w1_ rfl rfl rfl rfl rfl (Nat.le_of_ble_eq_true rfl) rfl dX5_fall_37 (pc2 := 40) rfl ?_
    subst en3_ en4_
    exact pr_void C hE (po_d_rfl rfl (by first | with_reducible rfl | (unfold m_X5_fall; rw [if_neg h1_]))) dX5_fall_40
def m_X5_impairs (c : MR) (T : TR) (v : Int64) : Int32 × MR :=
  if v < (m_X5_book c T) then (1, (M_mk (M_cd (m_X5_fall c T ((m_X5_book c T) - v))) (M_pt (m_X5_fall c T ((m_X5_book c T) - v))) (M_mn (m_X5_fall c T ((m_X5_book c T) - v))) (M_ev (m_X5_fall c T ((m_X5_book c T) - v))) (M_co (m_X5_fall c T ((m_X5_book c T) - v))) ((M_co (m_X5_fall c T ((m_X5_book c T) - v))) - v) (M_re (m_X5_fall c T ((m_X5_book c T) - v))) (M_lo (m_X5_fall c T ((m_X5_book c T) - v))) (M_rs (m_X5_fall c T ((m_X5_book c T) - v))) (M_li (m_X5_fall c T ((m_X5_book c T) - v))) (M_he (m_X5_fall c T ((m_X5_book c T) - v))) (M_go (m_X5_fall c T ((m_X5_book c T) - v))) (M_sp (m_X5_fall c T ((m_X5_book c T) - v))) (M_ba (m_X5_fall c T ((m_X5_book c T) - v))) (M_le (m_X5_fall c T ((m_X5_book c T) - v))) (M_lf (m_X5_fall c T ((m_X5_book c T) - v))) (M_mo (m_X5_fall c T ((m_X5_book c T) - v))) (M_un (m_X5_fall c T ((m_X5_book c T) - v))) (M_ch (m_X5_fall c T ((m_X5_book c T) - v))) (M_lc (m_X5_fall c T ((m_X5_book c T) - v))) (M_ac (m_X5_fall c T ((m_X5_book c T) - v))) (M_bd (m_X5_fall c T ((m_X5_book c T) - v))))) else (0, c)
set_option maxRecDepth 100000 in
set_option maxHeartbeats 2000000 in
theorem c_X5_impairs (l : Launch) (G : pw_G) (L : List Nat) (F : Nat → va_E) (m : Nat) (rf : Nat → Nat) (c : MR) (T : TR) (v : Int64) : PM l yX5_impairs wsX5_impairs ⟨1, 0, 0, 24⟩ G [.ref m, .long v] (mX G m rf c T) L F 0 0 (po_d (some (.int (m_X5_impairs c T v).1)) (mX G m rf ((m_X5_impairs c T v).2) T) L F) := by
  refine pm_entry (by decide) rfl rfl (Nat.le_of_ble_eq_true rfl) ?_
  intro Z Q C hl0 hG0 hnm hE
  subst hl0
  subst hG0
  have i5_ : ∀ w ∈ wsX50, w ∈ wsX5_impairs := by decide +kernel
  have w0_ : Cond.fieldLink RX5 65 "AgedAssetsModel" "cost" "J" ∈ wsX5_impairs := by decide +kernel
  have w1_ : Cond.fieldLink RX5 69 "AgedAssetsModel" "allowance" "J" ∈ wsX5_impairs := by decide +kernel
  show PW Z (mX (zG Z) m rf c T) L F 0 0 Q 0 [(0, .ref m), (1, .long v)] []
  refine pk_lload_n C 1 dX5_impairs_0 rfl rfl (pc2 := 1) rfl ?_
  refine pk_aload_n C 0 dX5_impairs_1 rfl rfl (pc2 := 2) rfl ?_
  refine pk_dV (cx := (mX (zG Z) m rf c T)) (wr := []) (X2 := (mX (zG Z) m rf c T)) (st := [.long v]) (st2 := [.long (m_X5_book c T), .long v]) (As := []) C (c_X5_book (zl Z) (zG Z) L F m rf c T) gX5_impairs_X5_book rfl rfl rfl 0 (by decide +kernel) ⟨Nat.le_of_ble_eq_true rfl, Nat.le_of_ble_eq_true rfl⟩ (pw_atX 0 rfl) rfl rfl rfl (Nat.le_of_ble_eq_true rfl) ⟨Nat.le_of_ble_eq_true rfl, Nat.le_of_ble_eq_true rfl⟩ [0, 1, 2, 3, 4, 5, 6, 7, 8, 9, 10, 11, 12, 13, 14, 15] [] [0, 1, 2, 3, 4, 5, 6, 7, 8, 9, 10, 11, 12, 13, 14, 15] rfl rfl rfl rfl (by decide) rfl rfl dX5_impairs_2 (pc2 := 5) rfl rfl ?_
  refine pk_topl (fun n1_ en1_ => ?_)
  refine pk_lcmp_lt (tgt := 11) C dX5_impairs_5 dX5_impairs_6 (pc1 := 6) rfl (by decide) (pc2 := 9) rfl (fun h1_ => ?_) (fun h1_ => ?_)
  ·
    refine pk_aload_n C 0 dX5_impairs_11 rfl rfl (pc2 := 12) rfl ?_
    refine pk_aload_n C 0 dX5_impairs_12 rfl rfl (pc2 := 13) rfl ?_
    refine pk_dV (cx := (mX (zG Z) m rf c T)) (wr := []) (X2 := (mX (zG Z) m rf c T)) (st := [.ref m]) (st2 := [.long (m_X5_book c T), .ref m]) (As := []) C (c_X5_book (zl Z) (zG Z) L F m rf c T) gX5_impairs_X5_book rfl rfl rfl 0 (by decide +kernel) ⟨Nat.le_of_ble_eq_true rfl, Nat.le_of_ble_eq_true rfl⟩ (pw_atX 0 rfl) rfl rfl rfl (Nat.le_of_ble_eq_true rfl) ⟨Nat.le_of_ble_eq_true rfl, Nat.le_of_ble_eq_true rfl⟩ [0, 1, 2, 3, 4, 5, 6, 7, 8, 9, 10, 11, 12, 13, 14, 15] [] [0, 1, 2, 3, 4, 5, 6, 7, 8, 9, 10, 11, 12, 13, 14, 15] rfl rfl rfl rfl (by decide) rfl rfl dX5_impairs_13 (pc2 := 16) rfl rfl ?_
    refine pk_topl (fun n2_ en2_ => ?_)
    refine pk_lload_n C 1 dX5_impairs_16 rfl rfl (pc2 := 17) rfl ?_
    refine pk_lsub C dX5_impairs_17 (pc2 := 18) rfl ?_
    refine pk_dV (cx := (mX (zG Z) m rf c T)) (wr := []) (X2 := (mX (zG Z) m rf (m_X5_fall c T (n2_ - v)) T)) (st := []) (st2 := []) (As := [.long (n2_ - v)]) C (c_X5_fall (zl Z) (zG Z) L F m rf c T (n2_ - v)) gX5_impairs_X5_fall rfl rfl rfl 1 (by decide +kernel) ⟨Nat.le_of_ble_eq_true rfl, Nat.le_of_ble_eq_true rfl⟩ (pw_atX 0 rfl) rfl rfl rfl (Nat.le_of_ble_eq_true rfl) ⟨Nat.le_of_ble_eq_true rfl, Nat.le_of_ble_eq_true rfl⟩ [0, 1, 2, 3, 4, 5, 6, 7, 8, 9, 10, 11, 12, 13, 14, 15] [] [0, 1, 2, 3, 4, 5, 6, 7, 8, 9, 10, 11, 12, 13, 14, 15] rfl rfl rfl rfl (by decide) rfl rfl dX5_impairs_18 (pc2 := 21) rfl rfl ?_
    generalize en3_ : (m_X5_fall c T (n2_ - v)) = n3_
    refine pk_aload_n C 0 dX5_impairs_21 rfl rfl (pc2 := 22) rfl ?_
    refine pk_aload_n C 0 dX5_impairs_22 rfl rfl (pc2 := 23) rfl ?_
    refine pk_get (v := .long (M_co n3_)) C i5_ (pw_atX 0 rfl) (ci := 5) rfl 17 (by decide) w0_ rfl rfl dX5_impairs_23 (pc2 := 26) rfl ?_
    refine pk_lload_n C 1 dX5_impairs_26 rfl rfl (pc2 := 27) rfl ?_
    refine pk_lsub C dX5_impairs_27 (pc2 := 28) rfl ?_
    refine pk_topl (fun n4_ en4_ => ?_)
    refine pk_putX (X' := (mX (zG Z) m rf (M_mk (M_cd n3_) (M_pt n3_) (M_mn n3_) (M_ev n3_) (M_co n3_) n4_ (M_re n3_) (M_lo n3_) (M_rs n3_) (M_li n3_) (M_he n3_) (M_go n3_) (M_sp n3_) (M_ba n3_) (M_le n3_) (M_lf n3_) (M_mo n3_) (M_un n3_) (M_ch n3_) (M_lc n3_) (M_ac n3_) (M_bd n3_)) T)) C i5_ tyX5_ok nmX5 0 rfl (ci := 5) rfl 18 (by decide) w1_ rfl rfl rfl rfl rfl (Nat.le_of_ble_eq_true rfl) rfl dX5_impairs_28 (pc2 := 31) rfl ?_
    refine pk_iconst (v := 1) C dX5_impairs_31 (by decide) (pc2 := 32) rfl ?_
    subst en1_ en2_ en3_ en4_
    exact pr_int (ty := .boolean) C hE rfl rfl (po_d_rfl (by first | with_reducible rfl | (unfold m_X5_impairs; rw [if_pos h1_])) (by first | with_reducible rfl | (unfold m_X5_impairs; rw [if_pos h1_]))) dX5_impairs_32
  ·
    refine pk_iconst (v := 0) C dX5_impairs_9 (by decide) (pc2 := 10) rfl ?_
    subst en1_
    exact pr_int (ty := .boolean) C hE rfl rfl (po_d_rfl (by first | with_reducible rfl | (unfold m_X5_impairs; rw [if_neg h1_])) (by first | with_reducible rfl | (unfold m_X5_impairs; rw [if_neg h1_]))) dX5_impairs_10
theorem zb_m_X5_impairs (c : MR) (T : TR) (v : Int64) : (m_X5_impairs c T v).1 = 0 ∨ (m_X5_impairs c T v).1 = 1 := by
  unfold m_X5_impairs
  repeat (first | split | (exact Or.inl rfl) | (exact Or.inr rfl) | assumption)
def m_X5_restores (c : MR) (T : TR) (v : Int64) (mm : Int32) : Int32 × MR :=
  if (M_bd c) ≤ mm then (0, c) else if (v - (m_X5_book c T)) ≤ 0 then (0, c) else if ((T_bf T) (Int32.toNatClampNeg mm)) < v then (0, c) else if (v - (m_X5_book c T)) ≤ (M_al c) then if (M_lo c) ≤ (v - (m_X5_book c T)) then if (m_X5_book (M_mk (M_cd c) (M_pt c) (M_mn c) (M_ev c) (M_co c) ((M_al c) - (v - (m_X5_book c T))) (M_re c) 0 (M_rs c) (M_li c) (M_he c) (M_go c) (M_sp c) (M_ba c) (M_le c) (M_lf c) (M_mo c) (M_un c) (M_ch c) (M_lc c) (M_ac c) (M_bd c)) T) < (M_rs c) then (0, (M_mk (M_cd c) (M_pt c) (M_mn c) (M_ev c) (M_co c) ((M_al c) - (v - (m_X5_book c T))) (M_re c) 0 (M_rs c) (M_li c) (M_he c) (M_go c) (M_sp c) (M_ba c) (M_le c) (M_lf c) (M_mo c) (M_un c) (M_ch c) (M_lc c) (M_ac c) (M_bd c))) else (1, (M_mk (M_cd c) (M_pt c) (M_mn c) (M_ev c) (M_co c) ((M_al c) - (v - (m_X5_book c T))) (M_re c) 0 (M_rs c) (M_li c) (M_he c) (M_go c) (M_sp c) (M_ba c) (M_le c) (M_lf c) (M_mo c) (M_un c) (M_ch c) (M_lc c) (M_ac c) (M_bd c))) else if (m_X5_book (M_mk (M_cd c) (M_pt c) (M_mn c) (M_ev c) (M_co c) ((M_al c) - (v - (m_X5_book c T))) (M_re c) ((M_lo c) - (v - (m_X5_book c T))) (M_rs c) (M_li c) (M_he c) (M_go c) (M_sp c) (M_ba c) (M_le c) (M_lf c) (M_mo c) (M_un c) (M_ch c) (M_lc c) (M_ac c) (M_bd c)) T) < (M_rs c) then (0, (M_mk (M_cd c) (M_pt c) (M_mn c) (M_ev c) (M_co c) ((M_al c) - (v - (m_X5_book c T))) (M_re c) ((M_lo c) - (v - (m_X5_book c T))) (M_rs c) (M_li c) (M_he c) (M_go c) (M_sp c) (M_ba c) (M_le c) (M_lf c) (M_mo c) (M_un c) (M_ch c) (M_lc c) (M_ac c) (M_bd c))) else (1, (M_mk (M_cd c) (M_pt c) (M_mn c) (M_ev c) (M_co c) ((M_al c) - (v - (m_X5_book c T))) (M_re c) ((M_lo c) - (v - (m_X5_book c T))) (M_rs c) (M_li c) (M_he c) (M_go c) (M_sp c) (M_ba c) (M_le c) (M_lf c) (M_mo c) (M_un c) (M_ch c) (M_lc c) (M_ac c) (M_bd c))) else (0, c)
set_option maxRecDepth 100000 in
set_option maxHeartbeats 2000000 in
theorem c_X5_restores (l : Launch) (G : pw_G) (L : List Nat) (F : Nat → va_E) (m : Nat) (rf : Nat → Nat) (c : MR) (T : TR) (v : Int64) (mm : Int32) (hm : vp_in mm 36) : PM l yX5_restores wsX5_restores ⟨1, 0, 0, 20⟩ G [.ref m, .long v, .int mm] (mX G m rf c T) L F 0 0 (po_d (some (.int (m_X5_restores c T v mm).1)) (mX G m rf ((m_X5_restores c T v mm).2) T) L F) := by
  refine pm_entry (by decide) rfl rfl (Nat.le_of_ble_eq_true rfl) ?_
  intro Z Q C hl0 hG0 hnm hE
  subst hl0
  subst hG0
  have i5_ : ∀ w ∈ wsX50, w ∈ wsX5_restores := by decide +kernel
  have w0_ : Cond.fieldLink RX5 116 "AgedAssetsModel" "bad" "I" ∈ wsX5_restores := by decide +kernel
  have w1_ : Cond.fieldLink RX5 50 "AgedAssetsModel" "before" "[J" ∈ wsX5_restores := by decide +kernel
  have w2_ : Cond.fieldLink RX5 69 "AgedAssetsModel" "allowance" "J" ∈ wsX5_restores := by decide +kernel
  have w3_ : Cond.fieldLink RX5 109 "AgedAssetsModel" "losses" "J" ∈ wsX5_restores := by decide +kernel
  have w4_ : Cond.fieldLink RX5 79 "AgedAssetsModel" "residual" "J" ∈ wsX5_restores := by decide +kernel
  show PW Z (mX (zG Z) m rf c T) L F 0 0 Q 0 [(0, .ref m), (1, .long v), (3, .int mm)] []
  refine pk_lload_n C 1 dX5_restores_0 rfl rfl (pc2 := 1) rfl ?_
  refine pk_aload_n C 0 dX5_restores_1 rfl rfl (pc2 := 2) rfl ?_
  refine pk_dV (cx := (mX (zG Z) m rf c T)) (wr := []) (X2 := (mX (zG Z) m rf c T)) (st := [.long v]) (st2 := [.long (m_X5_book c T), .long v]) (As := []) C (c_X5_book (zl Z) (zG Z) L F m rf c T) gX5_restores_X5_book rfl rfl rfl 0 (by decide +kernel) ⟨Nat.le_of_ble_eq_true rfl, Nat.le_of_ble_eq_true rfl⟩ (pw_atX 0 rfl) rfl rfl rfl (Nat.le_of_ble_eq_true rfl) ⟨Nat.le_of_ble_eq_true rfl, Nat.le_of_ble_eq_true rfl⟩ [0, 1, 2, 3, 4, 5, 6, 7, 8, 9, 10, 11, 12, 13, 14, 15] [] [0, 1, 2, 3, 4, 5, 6, 7, 8, 9, 10, 11, 12, 13, 14, 15] rfl rfl rfl rfl (by decide) rfl rfl dX5_restores_2 (pc2 := 5) rfl rfl ?_
  refine pk_topl (fun n1_ en1_ => ?_)
  refine pk_lsub C dX5_restores_5 (pc2 := 6) rfl ?_
  refine pk_topl (fun n2_ en2_ => ?_)
  refine pk_lstore (lv' := [(4, .long n2_), (0, .ref m), (1, .long v), (3, .int mm)]) C dX5_restores_6 (by decide) rfl (pc2 := 8) rfl ?_
  refine pk_aload_n C 1 dX5_restores_8 rfl rfl (pc2 := 9) rfl ?_
  refine pk_get (v := .int (M_bd c)) C i5_ (pw_atX 0 rfl) (ci := 5) rfl 36 (by decide) w0_ rfl rfl dX5_restores_9 (pc2 := 12) rfl ?_
  refine pk_iload_n C 3 dX5_restores_12 rfl rfl (pc2 := 13) rfl ?_
  refine pk_icmp_le (tgt := 44) C dX5_restores_13 (by decide) (pc2 := 16) rfl (fun h1_ => ?_) (fun h1_ => ?_)
  ·
    refine pk_iconst (v := 0) C dX5_restores_44 (by decide) (pc2 := 45) rfl ?_
    subst en1_ en2_
    exact pr_int (ty := .boolean) C hE rfl rfl (po_d_rfl (by first | with_reducible rfl | (unfold m_X5_restores; rw [if_pos h1_])) (by first | with_reducible rfl | (unfold m_X5_restores; rw [if_pos h1_]))) dX5_restores_45
  ·
    refine pk_lload C 0 dX5_restores_16 rfl (pc2 := 18) rfl ?_
    refine pk_lconst (v := 0) C dX5_restores_18 (by decide) (pc2 := 19) rfl ?_
    refine pk_lcmp_le (tgt := 44) C dX5_restores_19 dX5_restores_20 (pc1 := 20) rfl (by decide) (pc2 := 23) rfl (fun h2_ => ?_) (fun h2_ => ?_)
    ·
      refine pk_iconst (v := 0) C dX5_restores_44 (by decide) (pc2 := 45) rfl ?_
      subst en1_ en2_
      exact pr_int (ty := .boolean) C hE rfl rfl (po_d_rfl (by first | with_reducible rfl | (unfold m_X5_restores; rw [if_neg h1_, if_pos h2_])) (by first | with_reducible rfl | (unfold m_X5_restores; rw [if_neg h1_, if_pos h2_]))) dX5_restores_45
    ·
      refine pk_lload_n C 2 dX5_restores_23 rfl rfl (pc2 := 24) rfl ?_
      refine pk_aload_n C 1 dX5_restores_24 rfl rfl (pc2 := 25) rfl ?_
      refine pk_get (v := .ref (rf 13)) C i5_ (pw_atX 0 rfl) (ci := 5) rfl 34 (by decide) w1_ rfl rfl dX5_restores_25 (pc2 := 28) rfl ?_
      refine pk_iload_n C 3 dX5_restores_28 rfl rfl (pc2 := 29) rfl ?_
      refine pk_lald (v := ((T_bf T) (Int32.toNatClampNeg mm))) C (pw_atX 14 rfl) hm rfl dX5_restores_29 (pc2 := 30) rfl ?_
      refine pk_lcmp_gt (tgt := 44) C dX5_restores_30 dX5_restores_31 (pc1 := 31) rfl (by decide) (pc2 := 34) rfl (fun h3_ => ?_) (fun h3_ => ?_)
      ·
        refine pk_iconst (v := 0) C dX5_restores_44 (by decide) (pc2 := 45) rfl ?_
        subst en1_ en2_
        exact pr_int (ty := .boolean) C hE rfl rfl (po_d_rfl (by first | with_reducible rfl | (unfold m_X5_restores; rw [if_neg h1_, if_neg h2_, if_pos h3_])) (by first | with_reducible rfl | (unfold m_X5_restores; rw [if_neg h1_, if_neg h2_, if_pos h3_]))) dX5_restores_45
      ·
        refine pk_lload C 0 dX5_restores_34 rfl (pc2 := 36) rfl ?_
        refine pk_aload_n C 1 dX5_restores_36 rfl rfl (pc2 := 37) rfl ?_
        refine pk_get (v := .long (M_al c)) C i5_ (pw_atX 0 rfl) (ci := 5) rfl 18 (by decide) w2_ rfl rfl dX5_restores_37 (pc2 := 40) rfl ?_
        refine pk_lcmp_le (tgt := 46) C dX5_restores_40 dX5_restores_41 (pc1 := 41) rfl (by decide) (pc2 := 44) rfl (fun h4_ => ?_) (fun h4_ => ?_)
        ·
          refine pk_aload_n C 1 dX5_restores_46 rfl rfl (pc2 := 47) rfl ?_
          refine pk_aload_n C 1 dX5_restores_47 rfl rfl (pc2 := 48) rfl ?_
          refine pk_get (v := .long (M_al c)) C i5_ (pw_atX 0 rfl) (ci := 5) rfl 18 (by decide) w2_ rfl rfl dX5_restores_48 (pc2 := 51) rfl ?_
          refine pk_lload C 0 dX5_restores_51 rfl (pc2 := 53) rfl ?_
          refine pk_lsub C dX5_restores_53 (pc2 := 54) rfl ?_
          refine pk_topl (fun n3_ en3_ => ?_)
          refine pk_putX (X' := (mX (zG Z) m rf (M_mk (M_cd c) (M_pt c) (M_mn c) (M_ev c) (M_co c) n3_ (M_re c) (M_lo c) (M_rs c) (M_li c) (M_he c) (M_go c) (M_sp c) (M_ba c) (M_le c) (M_lf c) (M_mo c) (M_un c) (M_ch c) (M_lc c) (M_ac c) (M_bd c)) T)) C i5_ tyX5_ok nmX5 0 rfl (ci := 5) rfl 18 (by decide) w2_ rfl rfl rfl rfl rfl (Nat.le_of_ble_eq_true rfl) rfl dX5_restores_54 (pc2 := 57) rfl ?_
          refine pk_aload_n C 1 dX5_restores_57 rfl rfl (pc2 := 58) rfl ?_
          refine pk_aload_n C 1 dX5_restores_58 rfl rfl (pc2 := 59) rfl ?_
          refine pk_get (v := .long (M_lo c)) C i5_ (pw_atX 0 rfl) (ci := 5) rfl 20 (by decide) w3_ rfl rfl dX5_restores_59 (pc2 := 62) rfl ?_
          refine pk_lload C 0 dX5_restores_62 rfl (pc2 := 64) rfl ?_
          refine pk_lcmp_le (tgt := 78) C dX5_restores_64 dX5_restores_65 (pc1 := 65) rfl (by decide) (pc2 := 68) rfl (fun h5_ => ?_) (fun h5_ => ?_)
          ·
            refine pk_lconst (v := 0) C dX5_restores_78 (by decide) (pc2 := 79) rfl ?_
            refine pk_putX (X' := (mX (zG Z) m rf (M_mk (M_cd c) (M_pt c) (M_mn c) (M_ev c) (M_co c) n3_ (M_re c) 0 (M_rs c) (M_li c) (M_he c) (M_go c) (M_sp c) (M_ba c) (M_le c) (M_lf c) (M_mo c) (M_un c) (M_ch c) (M_lc c) (M_ac c) (M_bd c)) T)) C i5_ tyX5_ok nmX5 0 rfl (ci := 5) rfl 20 (by decide) w3_ rfl rfl rfl rfl rfl (Nat.le_of_ble_eq_true rfl) rfl dX5_restores_79 (pc2 := 82) rfl ?_
            refine pk_aload_n C 1 dX5_restores_82 rfl rfl (pc2 := 83) rfl ?_
            refine pk_get (v := .long (M_rs c)) C i5_ (pw_atX 0 rfl) (ci := 5) rfl 21 (by decide) w4_ rfl rfl dX5_restores_83 (pc2 := 86) rfl ?_
            refine pk_aload_n C 1 dX5_restores_86 rfl rfl (pc2 := 87) rfl ?_
            refine pk_dV (cx := (mX (zG Z) m rf (M_mk (M_cd c) (M_pt c) (M_mn c) (M_ev c) (M_co c) n3_ (M_re c) 0 (M_rs c) (M_li c) (M_he c) (M_go c) (M_sp c) (M_ba c) (M_le c) (M_lf c) (M_mo c) (M_un c) (M_ch c) (M_lc c) (M_ac c) (M_bd c)) T)) (wr := []) (X2 := (mX (zG Z) m rf (M_mk (M_cd c) (M_pt c) (M_mn c) (M_ev c) (M_co c) n3_ (M_re c) 0 (M_rs c) (M_li c) (M_he c) (M_go c) (M_sp c) (M_ba c) (M_le c) (M_lf c) (M_mo c) (M_un c) (M_ch c) (M_lc c) (M_ac c) (M_bd c)) T)) (st := [.long (M_rs c)]) (st2 := [.long (m_X5_book (M_mk (M_cd c) (M_pt c) (M_mn c) (M_ev c) (M_co c) n3_ (M_re c) 0 (M_rs c) (M_li c) (M_he c) (M_go c) (M_sp c) (M_ba c) (M_le c) (M_lf c) (M_mo c) (M_un c) (M_ch c) (M_lc c) (M_ac c) (M_bd c)) T), .long (M_rs c)]) (As := []) C (c_X5_book (zl Z) (zG Z) L F m rf (M_mk (M_cd c) (M_pt c) (M_mn c) (M_ev c) (M_co c) n3_ (M_re c) 0 (M_rs c) (M_li c) (M_he c) (M_go c) (M_sp c) (M_ba c) (M_le c) (M_lf c) (M_mo c) (M_un c) (M_ch c) (M_lc c) (M_ac c) (M_bd c)) T) gX5_restores_X5_book rfl rfl rfl 0 (by decide +kernel) ⟨Nat.le_of_ble_eq_true rfl, Nat.le_of_ble_eq_true rfl⟩ (pw_atX 0 rfl) rfl rfl rfl (Nat.le_of_ble_eq_true rfl) ⟨Nat.le_of_ble_eq_true rfl, Nat.le_of_ble_eq_true rfl⟩ [0, 1, 2, 3, 4, 5, 6, 7, 8, 9, 10, 11, 12, 13, 14, 15] [] [0, 1, 2, 3, 4, 5, 6, 7, 8, 9, 10, 11, 12, 13, 14, 15] rfl rfl rfl rfl (by decide) rfl rfl dX5_restores_87 (pc2 := 90) rfl rfl ?_
            refine pk_topl (fun n4_ en4_ => ?_)
            refine pk_lcmp_gt (tgt := 98) C dX5_restores_90 dX5_restores_91 (pc1 := 91) rfl (by decide) (pc2 := 94) rfl (fun h6_ => ?_) (fun h6_ => ?_)
            ·
              refine pk_iconst (v := 0) C dX5_restores_98 (by decide) (pc2 := 99) rfl ?_
              subst en1_ en2_ en3_ en4_
              exact pr_int (ty := .boolean) C hE rfl rfl (po_d_rfl (by first | with_reducible rfl | (unfold m_X5_restores; rw [if_neg h1_, if_neg h2_, if_neg h3_, if_pos h4_, if_pos h5_, if_pos h6_])) (by first | with_reducible rfl | (unfold m_X5_restores; rw [if_neg h1_, if_neg h2_, if_neg h3_, if_pos h4_, if_pos h5_, if_pos h6_]))) dX5_restores_99
            ·
              refine pk_iconst (v := 1) C dX5_restores_94 (by decide) (pc2 := 95) rfl ?_
              refine pk_goto (tgt := 99) C dX5_restores_95 (by decide) ?_
              subst en1_ en2_ en3_ en4_
              exact pr_int (ty := .boolean) C hE rfl rfl (po_d_rfl (by first | with_reducible rfl | (unfold m_X5_restores; rw [if_neg h1_, if_neg h2_, if_neg h3_, if_pos h4_, if_pos h5_, if_neg h6_])) (by first | with_reducible rfl | (unfold m_X5_restores; rw [if_neg h1_, if_neg h2_, if_neg h3_, if_pos h4_, if_pos h5_, if_neg h6_]))) dX5_restores_99
          ·
            refine pk_aload_n C 1 dX5_restores_68 rfl rfl (pc2 := 69) rfl ?_
            refine pk_get (v := .long (M_lo c)) C i5_ (pw_atX 0 rfl) (ci := 5) rfl 20 (by decide) w3_ rfl rfl dX5_restores_69 (pc2 := 72) rfl ?_
            refine pk_lload C 0 dX5_restores_72 rfl (pc2 := 74) rfl ?_
            refine pk_lsub C dX5_restores_74 (pc2 := 75) rfl ?_
            refine pk_goto (tgt := 79) C dX5_restores_75 (by decide) ?_
            refine pk_topl (fun n5_ en5_ => ?_)
            refine pk_putX (X' := (mX (zG Z) m rf (M_mk (M_cd c) (M_pt c) (M_mn c) (M_ev c) (M_co c) n3_ (M_re c) n5_ (M_rs c) (M_li c) (M_he c) (M_go c) (M_sp c) (M_ba c) (M_le c) (M_lf c) (M_mo c) (M_un c) (M_ch c) (M_lc c) (M_ac c) (M_bd c)) T)) C i5_ tyX5_ok nmX5 0 rfl (ci := 5) rfl 20 (by decide) w3_ rfl rfl rfl rfl rfl (Nat.le_of_ble_eq_true rfl) rfl dX5_restores_79 (pc2 := 82) rfl ?_
            refine pk_aload_n C 1 dX5_restores_82 rfl rfl (pc2 := 83) rfl ?_
            refine pk_get (v := .long (M_rs c)) C i5_ (pw_atX 0 rfl) (ci := 5) rfl 21 (by decide) w4_ rfl rfl dX5_restores_83 (pc2 := 86) rfl ?_
            refine pk_aload_n C 1 dX5_restores_86 rfl rfl (pc2 := 87) rfl ?_
            refine pk_dV (cx := (mX (zG Z) m rf (M_mk (M_cd c) (M_pt c) (M_mn c) (M_ev c) (M_co c) n3_ (M_re c) n5_ (M_rs c) (M_li c) (M_he c) (M_go c) (M_sp c) (M_ba c) (M_le c) (M_lf c) (M_mo c) (M_un c) (M_ch c) (M_lc c) (M_ac c) (M_bd c)) T)) (wr := []) (X2 := (mX (zG Z) m rf (M_mk (M_cd c) (M_pt c) (M_mn c) (M_ev c) (M_co c) n3_ (M_re c) n5_ (M_rs c) (M_li c) (M_he c) (M_go c) (M_sp c) (M_ba c) (M_le c) (M_lf c) (M_mo c) (M_un c) (M_ch c) (M_lc c) (M_ac c) (M_bd c)) T)) (st := [.long (M_rs c)]) (st2 := [.long (m_X5_book (M_mk (M_cd c) (M_pt c) (M_mn c) (M_ev c) (M_co c) n3_ (M_re c) n5_ (M_rs c) (M_li c) (M_he c) (M_go c) (M_sp c) (M_ba c) (M_le c) (M_lf c) (M_mo c) (M_un c) (M_ch c) (M_lc c) (M_ac c) (M_bd c)) T), .long (M_rs c)]) (As := []) C (c_X5_book (zl Z) (zG Z) L F m rf (M_mk (M_cd c) (M_pt c) (M_mn c) (M_ev c) (M_co c) n3_ (M_re c) n5_ (M_rs c) (M_li c) (M_he c) (M_go c) (M_sp c) (M_ba c) (M_le c) (M_lf c) (M_mo c) (M_un c) (M_ch c) (M_lc c) (M_ac c) (M_bd c)) T) gX5_restores_X5_book rfl rfl rfl 0 (by decide +kernel) ⟨Nat.le_of_ble_eq_true rfl, Nat.le_of_ble_eq_true rfl⟩ (pw_atX 0 rfl) rfl rfl rfl (Nat.le_of_ble_eq_true rfl) ⟨Nat.le_of_ble_eq_true rfl, Nat.le_of_ble_eq_true rfl⟩ [0, 1, 2, 3, 4, 5, 6, 7, 8, 9, 10, 11, 12, 13, 14, 15] [] [0, 1, 2, 3, 4, 5, 6, 7, 8, 9, 10, 11, 12, 13, 14, 15] rfl rfl rfl rfl (by decide) rfl rfl dX5_restores_87 (pc2 := 90) rfl rfl ?_
            refine pk_topl (fun n6_ en6_ => ?_)
            refine pk_lcmp_gt (tgt := 98) C dX5_restores_90 dX5_restores_91 (pc1 := 91) rfl (by decide) (pc2 := 94) rfl (fun h7_ => ?_) (fun h7_ => ?_)
            ·
              refine pk_iconst (v := 0) C dX5_restores_98 (by decide) (pc2 := 99) rfl ?_
              subst en1_ en2_ en3_ en5_ en6_
              exact pr_int (ty := .boolean) C hE rfl rfl (po_d_rfl (by first | with_reducible rfl | (unfold m_X5_restores; rw [if_neg h1_, if_neg h2_, if_neg h3_, if_pos h4_, if_neg h5_, if_pos h7_])) (by first | with_reducible rfl | (unfold m_X5_restores; rw [if_neg h1_, if_neg h2_, if_neg h3_, if_pos h4_, if_neg h5_, if_pos h7_]))) dX5_restores_99
            ·
              refine pk_iconst (v := 1) C dX5_restores_94 (by decide) (pc2 := 95) rfl ?_
              refine pk_goto (tgt := 99) C dX5_restores_95 (by decide) ?_
              subst en1_ en2_ en3_ en5_ en6_
              exact pr_int (ty := .boolean) C hE rfl rfl (po_d_rfl (by first | with_reducible rfl | (unfold m_X5_restores; rw [if_neg h1_, if_neg h2_, if_neg h3_, if_pos h4_, if_neg h5_, if_neg h7_])) (by first | with_reducible rfl | (unfold m_X5_restores; rw [if_neg h1_, if_neg h2_, if_neg h3_, if_pos h4_, if_neg h5_, if_neg h7_]))) dX5_restores_99
        ·
          refine pk_iconst (v := 0) C dX5_restores_44 (by decide) (pc2 := 45) rfl ?_
          subst en1_ en2_
          exact pr_int (ty := .boolean) C hE rfl rfl (po_d_rfl (by first | with_reducible rfl | (unfold m_X5_restores; rw [if_neg h1_, if_neg h2_, if_neg h3_, if_neg h4_])) (by first | with_reducible rfl | (unfold m_X5_restores; rw [if_neg h1_, if_neg h2_, if_neg h3_, if_neg h4_]))) dX5_restores_45
theorem zb_m_X5_restores (c : MR) (T : TR) (v : Int64) (mm : Int32) : (m_X5_restores c T v mm).1 = 0 ∨ (m_X5_restores c T v mm).1 = 1 := by
  unfold m_X5_restores
  repeat (first | split | (exact Or.inl rfl) | (exact Or.inr rfl) | assumption)
def m_X5_values (c : MR) (T : TR) (v : Int64) : MR :=
  if v ≤ (m_X5_book c T) then (M_mk (M_cd (m_X5_fall c T ((m_X5_book c T) - v))) (M_pt (m_X5_fall c T ((m_X5_book c T) - v))) (M_mn (m_X5_fall c T ((m_X5_book c T) - v))) (M_ev (m_X5_fall c T ((m_X5_book c T) - v))) v 0 (M_re (m_X5_fall c T ((m_X5_book c T) - v))) (M_lo (m_X5_fall c T ((m_X5_book c T) - v))) (M_rs (m_X5_fall c T ((m_X5_book c T) - v))) (M_li (m_X5_fall c T ((m_X5_book c T) - v))) (M_he (m_X5_fall c T ((m_X5_book c T) - v))) (M_go (m_X5_fall c T ((m_X5_book c T) - v))) (M_sp (m_X5_fall c T ((m_X5_book c T) - v))) (M_ba (m_X5_fall c T ((m_X5_book c T) - v))) (M_le (m_X5_fall c T ((m_X5_book c T) - v))) (M_lf (m_X5_fall c T ((m_X5_book c T) - v))) (M_mo (m_X5_fall c T ((m_X5_book c T) - v))) (M_un (m_X5_fall c T ((m_X5_book c T) - v))) (M_ch (m_X5_fall c T ((m_X5_book c T) - v))) (M_lc (m_X5_fall c T ((m_X5_book c T) - v))) (M_ac (m_X5_fall c T ((m_X5_book c T) - v))) (M_bd (m_X5_fall c T ((m_X5_book c T) - v)))) else (M_mk (M_cd c) (M_pt c) (M_mn c) (M_ev c) v 0 (((M_re c) + v) - (m_X5_book c T)) (M_lo c) (M_rs c) (M_li c) (M_he c) (M_go c) (M_sp c) (M_ba c) (M_le c) (M_lf c) (M_mo c) (M_un c) (M_ch c) (M_lc c) (M_ac c) (M_bd c))
set_option maxRecDepth 100000 in
set_option maxHeartbeats 2000000 in
theorem c_X5_values (l : Launch) (G : pw_G) (L : List Nat) (F : Nat → va_E) (m : Nat) (rf : Nat → Nat) (c : MR) (T : TR) (v : Int64) : PM l yX5_values wsX5_values ⟨1, 0, 0, 24⟩ G [.ref m, .long v] (mX G m rf c T) L F 0 0 (po_d none (mX G m rf (m_X5_values c T v) T) L F) := by
  refine pm_entry (by decide) rfl rfl (Nat.le_of_ble_eq_true rfl) ?_
  intro Z Q C hl0 hG0 hnm hE
  subst hl0
  subst hG0
  have i5_ : ∀ w ∈ wsX50, w ∈ wsX5_values := by decide +kernel
  have w0_ : Cond.fieldLink RX5 65 "AgedAssetsModel" "cost" "J" ∈ wsX5_values := by decide +kernel
  have w1_ : Cond.fieldLink RX5 69 "AgedAssetsModel" "allowance" "J" ∈ wsX5_values := by decide +kernel
  have w2_ : Cond.fieldLink RX5 106 "AgedAssetsModel" "reserve" "J" ∈ wsX5_values := by decide +kernel
  show PW Z (mX (zG Z) m rf c T) L F 0 0 Q 0 [(0, .ref m), (1, .long v)] []
  refine pk_lload_n C 1 dX5_values_0 rfl rfl (pc2 := 1) rfl ?_
  refine pk_aload_n C 0 dX5_values_1 rfl rfl (pc2 := 2) rfl ?_
  refine pk_dV (cx := (mX (zG Z) m rf c T)) (wr := []) (X2 := (mX (zG Z) m rf c T)) (st := [.long v]) (st2 := [.long (m_X5_book c T), .long v]) (As := []) C (c_X5_book (zl Z) (zG Z) L F m rf c T) gX5_values_X5_book rfl rfl rfl 0 (by decide +kernel) ⟨Nat.le_of_ble_eq_true rfl, Nat.le_of_ble_eq_true rfl⟩ (pw_atX 0 rfl) rfl rfl rfl (Nat.le_of_ble_eq_true rfl) ⟨Nat.le_of_ble_eq_true rfl, Nat.le_of_ble_eq_true rfl⟩ [0, 1, 2, 3, 4, 5, 6, 7, 8, 9, 10, 11, 12, 13, 14, 15] [] [0, 1, 2, 3, 4, 5, 6, 7, 8, 9, 10, 11, 12, 13, 14, 15] rfl rfl rfl rfl (by decide) rfl rfl dX5_values_2 (pc2 := 5) rfl rfl ?_
  refine pk_topl (fun n1_ en1_ => ?_)
  refine pk_lcmp_le (tgt := 27) C dX5_values_5 dX5_values_6 (pc1 := 6) rfl (by decide) (pc2 := 9) rfl (fun h1_ => ?_) (fun h1_ => ?_)
  ·
    refine pk_aload_n C 0 dX5_values_27 rfl rfl (pc2 := 28) rfl ?_
    refine pk_aload_n C 0 dX5_values_28 rfl rfl (pc2 := 29) rfl ?_
    refine pk_dV (cx := (mX (zG Z) m rf c T)) (wr := []) (X2 := (mX (zG Z) m rf c T)) (st := [.ref m]) (st2 := [.long (m_X5_book c T), .ref m]) (As := []) C (c_X5_book (zl Z) (zG Z) L F m rf c T) gX5_values_X5_book rfl rfl rfl 0 (by decide +kernel) ⟨Nat.le_of_ble_eq_true rfl, Nat.le_of_ble_eq_true rfl⟩ (pw_atX 0 rfl) rfl rfl rfl (Nat.le_of_ble_eq_true rfl) ⟨Nat.le_of_ble_eq_true rfl, Nat.le_of_ble_eq_true rfl⟩ [0, 1, 2, 3, 4, 5, 6, 7, 8, 9, 10, 11, 12, 13, 14, 15] [] [0, 1, 2, 3, 4, 5, 6, 7, 8, 9, 10, 11, 12, 13, 14, 15] rfl rfl rfl rfl (by decide) rfl rfl dX5_values_29 (pc2 := 32) rfl rfl ?_
    refine pk_topl (fun n2_ en2_ => ?_)
    refine pk_lload_n C 1 dX5_values_32 rfl rfl (pc2 := 33) rfl ?_
    refine pk_lsub C dX5_values_33 (pc2 := 34) rfl ?_
    refine pk_dV (cx := (mX (zG Z) m rf c T)) (wr := []) (X2 := (mX (zG Z) m rf (m_X5_fall c T (n2_ - v)) T)) (st := []) (st2 := []) (As := [.long (n2_ - v)]) C (c_X5_fall (zl Z) (zG Z) L F m rf c T (n2_ - v)) gX5_values_X5_fall rfl rfl rfl 1 (by decide +kernel) ⟨Nat.le_of_ble_eq_true rfl, Nat.le_of_ble_eq_true rfl⟩ (pw_atX 0 rfl) rfl rfl rfl (Nat.le_of_ble_eq_true rfl) ⟨Nat.le_of_ble_eq_true rfl, Nat.le_of_ble_eq_true rfl⟩ [0, 1, 2, 3, 4, 5, 6, 7, 8, 9, 10, 11, 12, 13, 14, 15] [] [0, 1, 2, 3, 4, 5, 6, 7, 8, 9, 10, 11, 12, 13, 14, 15] rfl rfl rfl rfl (by decide) rfl rfl dX5_values_34 (pc2 := 37) rfl rfl ?_
    generalize en3_ : (m_X5_fall c T (n2_ - v)) = n3_
    refine pk_aload_n C 0 dX5_values_37 rfl rfl (pc2 := 38) rfl ?_
    refine pk_lload_n C 1 dX5_values_38 rfl rfl (pc2 := 39) rfl ?_
    refine pk_putX (X' := (mX (zG Z) m rf (M_mk (M_cd n3_) (M_pt n3_) (M_mn n3_) (M_ev n3_) v (M_al n3_) (M_re n3_) (M_lo n3_) (M_rs n3_) (M_li n3_) (M_he n3_) (M_go n3_) (M_sp n3_) (M_ba n3_) (M_le n3_) (M_lf n3_) (M_mo n3_) (M_un n3_) (M_ch n3_) (M_lc n3_) (M_ac n3_) (M_bd n3_)) T)) C i5_ tyX5_ok nmX5 0 rfl (ci := 5) rfl 17 (by decide) w0_ rfl rfl rfl rfl rfl (Nat.le_of_ble_eq_true rfl) rfl dX5_values_39 (pc2 := 42) rfl ?_
    refine pk_aload_n C 0 dX5_values_42 rfl rfl (pc2 := 43) rfl ?_
    refine pk_lconst (v := 0) C dX5_values_43 (by decide) (pc2 := 44) rfl ?_
    refine pk_putX (X' := (mX (zG Z) m rf (M_mk (M_cd n3_) (M_pt n3_) (M_mn n3_) (M_ev n3_) v 0 (M_re n3_) (M_lo n3_) (M_rs n3_) (M_li n3_) (M_he n3_) (M_go n3_) (M_sp n3_) (M_ba n3_) (M_le n3_) (M_lf n3_) (M_mo n3_) (M_un n3_) (M_ch n3_) (M_lc n3_) (M_ac n3_) (M_bd n3_)) T)) C i5_ tyX5_ok nmX5 0 rfl (ci := 5) rfl 18 (by decide) w1_ rfl rfl rfl rfl rfl (Nat.le_of_ble_eq_true rfl) rfl dX5_values_44 (pc2 := 47) rfl ?_
    subst en1_ en2_ en3_
    exact pr_void C hE (po_d_rfl rfl (by first | with_reducible rfl | (unfold m_X5_values; rw [if_pos h1_]))) dX5_values_47
  ·
    refine pk_aload_n C 0 dX5_values_9 rfl rfl (pc2 := 10) rfl ?_
    refine pk_aload_n C 0 dX5_values_10 rfl rfl (pc2 := 11) rfl ?_
    refine pk_get (v := .long (M_re c)) C i5_ (pw_atX 0 rfl) (ci := 5) rfl 19 (by decide) w2_ rfl rfl dX5_values_11 (pc2 := 14) rfl ?_
    refine pk_lload_n C 1 dX5_values_14 rfl rfl (pc2 := 15) rfl ?_
    refine pk_ladd C dX5_values_15 (pc2 := 16) rfl ?_
    refine pk_aload_n C 0 dX5_values_16 rfl rfl (pc2 := 17) rfl ?_
    refine pk_dV (cx := (mX (zG Z) m rf c T)) (wr := []) (X2 := (mX (zG Z) m rf c T)) (st := [.long ((M_re c) + v), .ref m]) (st2 := [.long (m_X5_book c T), .long ((M_re c) + v), .ref m]) (As := []) C (c_X5_book (zl Z) (zG Z) L F m rf c T) gX5_values_X5_book rfl rfl rfl 0 (by decide +kernel) ⟨Nat.le_of_ble_eq_true rfl, Nat.le_of_ble_eq_true rfl⟩ (pw_atX 0 rfl) rfl rfl rfl (Nat.le_of_ble_eq_true rfl) ⟨Nat.le_of_ble_eq_true rfl, Nat.le_of_ble_eq_true rfl⟩ [0, 1, 2, 3, 4, 5, 6, 7, 8, 9, 10, 11, 12, 13, 14, 15] [] [0, 1, 2, 3, 4, 5, 6, 7, 8, 9, 10, 11, 12, 13, 14, 15] rfl rfl rfl rfl (by decide) rfl rfl dX5_values_17 (pc2 := 20) rfl rfl ?_
    refine pk_topl (fun n4_ en4_ => ?_)
    refine pk_lsub C dX5_values_20 (pc2 := 21) rfl ?_
    refine pk_topl (fun n5_ en5_ => ?_)
    refine pk_putX (X' := (mX (zG Z) m rf (M_mk (M_cd c) (M_pt c) (M_mn c) (M_ev c) (M_co c) (M_al c) n5_ (M_lo c) (M_rs c) (M_li c) (M_he c) (M_go c) (M_sp c) (M_ba c) (M_le c) (M_lf c) (M_mo c) (M_un c) (M_ch c) (M_lc c) (M_ac c) (M_bd c)) T)) C i5_ tyX5_ok nmX5 0 rfl (ci := 5) rfl 19 (by decide) w2_ rfl rfl rfl rfl rfl (Nat.le_of_ble_eq_true rfl) rfl dX5_values_21 (pc2 := 24) rfl ?_
    refine pk_goto (tgt := 37) C dX5_values_24 (by decide) ?_
    refine pk_aload_n C 0 dX5_values_37 rfl rfl (pc2 := 38) rfl ?_
    refine pk_lload_n C 1 dX5_values_38 rfl rfl (pc2 := 39) rfl ?_
    refine pk_putX (X' := (mX (zG Z) m rf (M_mk (M_cd c) (M_pt c) (M_mn c) (M_ev c) v (M_al c) n5_ (M_lo c) (M_rs c) (M_li c) (M_he c) (M_go c) (M_sp c) (M_ba c) (M_le c) (M_lf c) (M_mo c) (M_un c) (M_ch c) (M_lc c) (M_ac c) (M_bd c)) T)) C i5_ tyX5_ok nmX5 0 rfl (ci := 5) rfl 17 (by decide) w0_ rfl rfl rfl rfl rfl (Nat.le_of_ble_eq_true rfl) rfl dX5_values_39 (pc2 := 42) rfl ?_
    refine pk_aload_n C 0 dX5_values_42 rfl rfl (pc2 := 43) rfl ?_
    refine pk_lconst (v := 0) C dX5_values_43 (by decide) (pc2 := 44) rfl ?_
    refine pk_putX (X' := (mX (zG Z) m rf (M_mk (M_cd c) (M_pt c) (M_mn c) (M_ev c) v 0 n5_ (M_lo c) (M_rs c) (M_li c) (M_he c) (M_go c) (M_sp c) (M_ba c) (M_le c) (M_lf c) (M_mo c) (M_un c) (M_ch c) (M_lc c) (M_ac c) (M_bd c)) T)) C i5_ tyX5_ok nmX5 0 rfl (ci := 5) rfl 18 (by decide) w1_ rfl rfl rfl rfl rfl (Nat.le_of_ble_eq_true rfl) rfl dX5_values_44 (pc2 := 47) rfl ?_
    subst en1_ en4_ en5_
    exact pr_void C hE (po_d_rfl rfl (by first | with_reducible rfl | (unfold m_X5_values; rw [if_neg h1_]))) dX5_values_47
def m_X5_less (x : Int64) (n : Int32) : Int64 :=
  (x - (m_X5_rounded (x * (Int32.toInt64 n)) (1000000)))
set_option maxRecDepth 100000 in
set_option maxHeartbeats 2000000 in
theorem c_X5_less (l : Launch) (G : pw_G) (L : List Nat) (F : Nat → va_E)  (x : Int64) (n : Int32) : PM l yX5_less wsX5_less ⟨1, 0, 0, 23⟩ G [.long x, .int n] [] L F 0 0 (po_d (some (.long (m_X5_less x n))) [] L F) := by
  refine pm_entry (by decide) rfl rfl (Nat.le_of_ble_eq_true rfl) ?_
  intro Z Q C hl0 hG0 hnm hE
  subst hl0
  subst hG0
  have w0_ : Cond.constantLong RX5 119 (1000000) ∈ wsX5_less := by decide +kernel
  show PW Z [] L F 0 0 Q 0 [(0, .long x), (2, .int n)] []
  refine pk_lload_n C 0 dX5_less_0 rfl rfl (pc2 := 1) rfl ?_
  refine pk_lload_n C 0 dX5_less_1 rfl rfl (pc2 := 2) rfl ?_
  refine pk_iload_n C 1 dX5_less_2 rfl rfl (pc2 := 3) rfl ?_
  refine pk_i2l C dX5_less_3 (pc2 := 4) rfl ?_
  refine pk_lmul C dX5_less_4 (pc2 := 5) rfl ?_
  refine pk_ldc2 C w0_ dX5_less_5 (pc2 := 8) rfl ?_
  refine pk_dS (cx := []) (wr := []) (X2 := []) (st := [.long x]) (st2 := [.long (m_X5_rounded (x * (Int32.toInt64 n)) (1000000)), .long x]) (As := [.long (x * (Int32.toInt64 n)), .long (1000000)]) C (c_X5_rounded (zl Z) (zG Z) L F (x * (Int32.toInt64 n)) (1000000) (by decide)) gX5_less_X5_rounded rfl rfl rfl 2 (by decide +kernel) ⟨Nat.le_of_ble_eq_true rfl, Nat.le_of_ble_eq_true rfl⟩ rfl rfl (Nat.le_of_ble_eq_true rfl) ⟨Nat.le_of_ble_eq_true rfl, Nat.le_of_ble_eq_true rfl⟩ [] [] [] rfl rfl rfl rfl (by decide) rfl rfl dX5_less_8 (pc2 := 11) rfl rfl ?_
  refine pk_topl (fun n1_ en1_ => ?_)
  refine pk_lsub C dX5_less_11 (pc2 := 12) rfl ?_
  subst en1_
  exact pr_long C hE (po_d_rfl (by first | with_reducible rfl | (unfold m_X5_less; with_reducible rfl)) (by first | with_reducible rfl | (unfold m_X5_less; with_reducible rfl))) dX5_less_12
def m_X5_sells (c : MR) (T : TR) (n : Int32) : MR :=
  if n = (1000000) then (M_mk (M_cd c) (M_pt c) (M_mn c) (M_ev c) (m_X5_less (M_co c) n) (m_X5_less (M_al c) n) (m_X5_less (M_re c) n) (M_lo c) (m_X5_less (M_rs c) n) (M_li c) (M_he c) 1 (M_sp c) (M_ba c) (M_le c) (M_lf c) (M_mo c) (M_un c) (M_ch c) (M_lc c) (M_ac c) (M_bd c)) else (M_mk (M_cd c) (M_pt c) (M_mn c) (M_ev c) (m_X5_less (M_co c) n) (m_X5_less (M_al c) n) (m_X5_less (M_re c) n) (M_lo c) (m_X5_less (M_rs c) n) (M_li c) (M_he c) 0 (M_sp c) (M_ba c) (M_le c) (M_lf c) (M_mo c) (M_un c) (M_ch c) (M_lc c) (M_ac c) (M_bd c))
set_option maxRecDepth 100000 in
set_option maxHeartbeats 2000000 in
theorem c_X5_sells (l : Launch) (G : pw_G) (L : List Nat) (F : Nat → va_E) (m : Nat) (rf : Nat → Nat) (c : MR) (T : TR) (n : Int32) : PM l yX5_sells wsX5_sells ⟨2, 0, 0, 45⟩ G [.ref m, .int n] (mX G m rf c T) L F 0 0 (po_d none (mX G m rf (m_X5_sells c T n) T) L F) := by
  refine pm_entry (by decide) rfl rfl (Nat.le_of_ble_eq_true rfl) ?_
  intro Z Q C hl0 hG0 hnm hE
  subst hl0
  subst hG0
  have i5_ : ∀ w ∈ wsX50, w ∈ wsX5_sells := by decide +kernel
  have w0_ : Cond.fieldLink RX5 65 "AgedAssetsModel" "cost" "J" ∈ wsX5_sells := by decide +kernel
  have w1_ : Cond.fieldLink RX5 69 "AgedAssetsModel" "allowance" "J" ∈ wsX5_sells := by decide +kernel
  have w2_ : Cond.fieldLink RX5 106 "AgedAssetsModel" "reserve" "J" ∈ wsX5_sells := by decide +kernel
  have w3_ : Cond.fieldLink RX5 79 "AgedAssetsModel" "residual" "J" ∈ wsX5_sells := by decide +kernel
  have w4_ : Cond.constant RX5 129 (1000000) ∈ wsX5_sells := by decide +kernel
  have w5_ : Cond.fieldLink RX5 130 "AgedAssetsModel" "gone" "Z" ∈ wsX5_sells := by decide +kernel
  show PW Z (mX (zG Z) m rf c T) L F 0 0 Q 0 [(0, .ref m), (1, .int n)] []
  refine pk_aload_n C 0 dX5_sells_0 rfl rfl (pc2 := 1) rfl ?_
  refine pk_aload_n C 0 dX5_sells_1 rfl rfl (pc2 := 2) rfl ?_
  refine pk_get (v := .long (M_co c)) C i5_ (pw_atX 0 rfl) (ci := 5) rfl 17 (by decide) w0_ rfl rfl dX5_sells_2 (pc2 := 5) rfl ?_
  refine pk_iload_n C 1 dX5_sells_5 rfl rfl (pc2 := 6) rfl ?_
  refine pk_dS (cx := []) (wr := (mX (zG Z) m rf c T)) (X2 := (mX (zG Z) m rf c T)) (st := [.ref m]) (st2 := [.long (m_X5_less (M_co c) n), .ref m]) (As := [.long (M_co c), .int n]) C (c_X5_less (zl Z) (zG Z) L F (M_co c) n) gX5_sells_X5_less rfl rfl rfl 2 (by decide +kernel) ⟨Nat.le_of_ble_eq_true rfl, Nat.le_of_ble_eq_true rfl⟩ rfl rfl (Nat.le_of_ble_eq_true rfl) ⟨Nat.le_of_ble_eq_true rfl, Nat.le_of_ble_eq_true rfl⟩ [] [0, 1, 2, 3, 4, 5, 6, 7, 8, 9, 10, 11, 12, 13, 14, 15] [0, 1, 2, 3, 4, 5, 6, 7, 8, 9, 10, 11, 12, 13, 14, 15] rfl rfl rfl rfl (by decide) rfl rfl dX5_sells_6 (pc2 := 9) rfl rfl ?_
  refine pk_topl (fun n1_ en1_ => ?_)
  refine pk_putX (X' := (mX (zG Z) m rf (M_mk (M_cd c) (M_pt c) (M_mn c) (M_ev c) n1_ (M_al c) (M_re c) (M_lo c) (M_rs c) (M_li c) (M_he c) (M_go c) (M_sp c) (M_ba c) (M_le c) (M_lf c) (M_mo c) (M_un c) (M_ch c) (M_lc c) (M_ac c) (M_bd c)) T)) C i5_ tyX5_ok nmX5 0 rfl (ci := 5) rfl 17 (by decide) w0_ rfl rfl rfl rfl rfl (Nat.le_of_ble_eq_true rfl) rfl dX5_sells_9 (pc2 := 12) rfl ?_
  refine pk_aload_n C 0 dX5_sells_12 rfl rfl (pc2 := 13) rfl ?_
  refine pk_aload_n C 0 dX5_sells_13 rfl rfl (pc2 := 14) rfl ?_
  refine pk_get (v := .long (M_al c)) C i5_ (pw_atX 0 rfl) (ci := 5) rfl 18 (by decide) w1_ rfl rfl dX5_sells_14 (pc2 := 17) rfl ?_
  refine pk_iload_n C 1 dX5_sells_17 rfl rfl (pc2 := 18) rfl ?_
  refine pk_dS (cx := []) (wr := (mX (zG Z) m rf (M_mk (M_cd c) (M_pt c) (M_mn c) (M_ev c) n1_ (M_al c) (M_re c) (M_lo c) (M_rs c) (M_li c) (M_he c) (M_go c) (M_sp c) (M_ba c) (M_le c) (M_lf c) (M_mo c) (M_un c) (M_ch c) (M_lc c) (M_ac c) (M_bd c)) T)) (X2 := (mX (zG Z) m rf (M_mk (M_cd c) (M_pt c) (M_mn c) (M_ev c) n1_ (M_al c) (M_re c) (M_lo c) (M_rs c) (M_li c) (M_he c) (M_go c) (M_sp c) (M_ba c) (M_le c) (M_lf c) (M_mo c) (M_un c) (M_ch c) (M_lc c) (M_ac c) (M_bd c)) T)) (st := [.ref m]) (st2 := [.long (m_X5_less (M_al c) n), .ref m]) (As := [.long (M_al c), .int n]) C (c_X5_less (zl Z) (zG Z) L F (M_al c) n) gX5_sells_X5_less rfl rfl rfl 2 (by decide +kernel) ⟨Nat.le_of_ble_eq_true rfl, Nat.le_of_ble_eq_true rfl⟩ rfl rfl (Nat.le_of_ble_eq_true rfl) ⟨Nat.le_of_ble_eq_true rfl, Nat.le_of_ble_eq_true rfl⟩ [] [0, 1, 2, 3, 4, 5, 6, 7, 8, 9, 10, 11, 12, 13, 14, 15] [0, 1, 2, 3, 4, 5, 6, 7, 8, 9, 10, 11, 12, 13, 14, 15] rfl rfl rfl rfl (by decide) rfl rfl dX5_sells_18 (pc2 := 21) rfl rfl ?_
  refine pk_topl (fun n2_ en2_ => ?_)
  refine pk_putX (X' := (mX (zG Z) m rf (M_mk (M_cd c) (M_pt c) (M_mn c) (M_ev c) n1_ n2_ (M_re c) (M_lo c) (M_rs c) (M_li c) (M_he c) (M_go c) (M_sp c) (M_ba c) (M_le c) (M_lf c) (M_mo c) (M_un c) (M_ch c) (M_lc c) (M_ac c) (M_bd c)) T)) C i5_ tyX5_ok nmX5 0 rfl (ci := 5) rfl 18 (by decide) w1_ rfl rfl rfl rfl rfl (Nat.le_of_ble_eq_true rfl) rfl dX5_sells_21 (pc2 := 24) rfl ?_
  refine pk_aload_n C 0 dX5_sells_24 rfl rfl (pc2 := 25) rfl ?_
  refine pk_aload_n C 0 dX5_sells_25 rfl rfl (pc2 := 26) rfl ?_
  refine pk_get (v := .long (M_re c)) C i5_ (pw_atX 0 rfl) (ci := 5) rfl 19 (by decide) w2_ rfl rfl dX5_sells_26 (pc2 := 29) rfl ?_
  refine pk_iload_n C 1 dX5_sells_29 rfl rfl (pc2 := 30) rfl ?_
  refine pk_dS (cx := []) (wr := (mX (zG Z) m rf (M_mk (M_cd c) (M_pt c) (M_mn c) (M_ev c) n1_ n2_ (M_re c) (M_lo c) (M_rs c) (M_li c) (M_he c) (M_go c) (M_sp c) (M_ba c) (M_le c) (M_lf c) (M_mo c) (M_un c) (M_ch c) (M_lc c) (M_ac c) (M_bd c)) T)) (X2 := (mX (zG Z) m rf (M_mk (M_cd c) (M_pt c) (M_mn c) (M_ev c) n1_ n2_ (M_re c) (M_lo c) (M_rs c) (M_li c) (M_he c) (M_go c) (M_sp c) (M_ba c) (M_le c) (M_lf c) (M_mo c) (M_un c) (M_ch c) (M_lc c) (M_ac c) (M_bd c)) T)) (st := [.ref m]) (st2 := [.long (m_X5_less (M_re c) n), .ref m]) (As := [.long (M_re c), .int n]) C (c_X5_less (zl Z) (zG Z) L F (M_re c) n) gX5_sells_X5_less rfl rfl rfl 2 (by decide +kernel) ⟨Nat.le_of_ble_eq_true rfl, Nat.le_of_ble_eq_true rfl⟩ rfl rfl (Nat.le_of_ble_eq_true rfl) ⟨Nat.le_of_ble_eq_true rfl, Nat.le_of_ble_eq_true rfl⟩ [] [0, 1, 2, 3, 4, 5, 6, 7, 8, 9, 10, 11, 12, 13, 14, 15] [0, 1, 2, 3, 4, 5, 6, 7, 8, 9, 10, 11, 12, 13, 14, 15] rfl rfl rfl rfl (by decide) rfl rfl dX5_sells_30 (pc2 := 33) rfl rfl ?_
  refine pk_topl (fun n3_ en3_ => ?_)
  refine pk_putX (X' := (mX (zG Z) m rf (M_mk (M_cd c) (M_pt c) (M_mn c) (M_ev c) n1_ n2_ n3_ (M_lo c) (M_rs c) (M_li c) (M_he c) (M_go c) (M_sp c) (M_ba c) (M_le c) (M_lf c) (M_mo c) (M_un c) (M_ch c) (M_lc c) (M_ac c) (M_bd c)) T)) C i5_ tyX5_ok nmX5 0 rfl (ci := 5) rfl 19 (by decide) w2_ rfl rfl rfl rfl rfl (Nat.le_of_ble_eq_true rfl) rfl dX5_sells_33 (pc2 := 36) rfl ?_
  refine pk_aload_n C 0 dX5_sells_36 rfl rfl (pc2 := 37) rfl ?_
  refine pk_aload_n C 0 dX5_sells_37 rfl rfl (pc2 := 38) rfl ?_
  refine pk_get (v := .long (M_rs c)) C i5_ (pw_atX 0 rfl) (ci := 5) rfl 21 (by decide) w3_ rfl rfl dX5_sells_38 (pc2 := 41) rfl ?_
  refine pk_iload_n C 1 dX5_sells_41 rfl rfl (pc2 := 42) rfl ?_
  refine pk_dS (cx := []) (wr := (mX (zG Z) m rf (M_mk (M_cd c) (M_pt c) (M_mn c) (M_ev c) n1_ n2_ n3_ (M_lo c) (M_rs c) (M_li c) (M_he c) (M_go c) (M_sp c) (M_ba c) (M_le c) (M_lf c) (M_mo c) (M_un c) (M_ch c) (M_lc c) (M_ac c) (M_bd c)) T)) (X2 := (mX (zG Z) m rf (M_mk (M_cd c) (M_pt c) (M_mn c) (M_ev c) n1_ n2_ n3_ (M_lo c) (M_rs c) (M_li c) (M_he c) (M_go c) (M_sp c) (M_ba c) (M_le c) (M_lf c) (M_mo c) (M_un c) (M_ch c) (M_lc c) (M_ac c) (M_bd c)) T)) (st := [.ref m]) (st2 := [.long (m_X5_less (M_rs c) n), .ref m]) (As := [.long (M_rs c), .int n]) C (c_X5_less (zl Z) (zG Z) L F (M_rs c) n) gX5_sells_X5_less rfl rfl rfl 2 (by decide +kernel) ⟨Nat.le_of_ble_eq_true rfl, Nat.le_of_ble_eq_true rfl⟩ rfl rfl (Nat.le_of_ble_eq_true rfl) ⟨Nat.le_of_ble_eq_true rfl, Nat.le_of_ble_eq_true rfl⟩ [] [0, 1, 2, 3, 4, 5, 6, 7, 8, 9, 10, 11, 12, 13, 14, 15] [0, 1, 2, 3, 4, 5, 6, 7, 8, 9, 10, 11, 12, 13, 14, 15] rfl rfl rfl rfl (by decide) rfl rfl dX5_sells_42 (pc2 := 45) rfl rfl ?_
  refine pk_topl (fun n4_ en4_ => ?_)
  refine pk_putX (X' := (mX (zG Z) m rf (M_mk (M_cd c) (M_pt c) (M_mn c) (M_ev c) n1_ n2_ n3_ (M_lo c) n4_ (M_li c) (M_he c) (M_go c) (M_sp c) (M_ba c) (M_le c) (M_lf c) (M_mo c) (M_un c) (M_ch c) (M_lc c) (M_ac c) (M_bd c)) T)) C i5_ tyX5_ok nmX5 0 rfl (ci := 5) rfl 21 (by decide) w3_ rfl rfl rfl rfl rfl (Nat.le_of_ble_eq_true rfl) rfl dX5_sells_45 (pc2 := 48) rfl ?_
  refine pk_aload_n C 0 dX5_sells_48 rfl rfl (pc2 := 49) rfl ?_
  refine pk_iload_n C 1 dX5_sells_49 rfl rfl (pc2 := 50) rfl ?_
  refine pk_ldc C w4_ dX5_sells_50 (pc2 := 52) rfl ?_
  refine pk_icmp_ne (tgt := 59) C dX5_sells_52 (by decide) (pc2 := 55) rfl (fun h1_ => ?_) (fun h1_ => ?_)
  ·
    refine pk_iconst (v := 0) C dX5_sells_59 (by decide) (pc2 := 60) rfl ?_
    refine pk_putX (X' := (mX (zG Z) m rf (M_mk (M_cd c) (M_pt c) (M_mn c) (M_ev c) n1_ n2_ n3_ (M_lo c) n4_ (M_li c) (M_he c) 0 (M_sp c) (M_ba c) (M_le c) (M_lf c) (M_mo c) (M_un c) (M_ch c) (M_lc c) (M_ac c) (M_bd c)) T)) C i5_ tyX5_ok nmX5 0 rfl (ci := 5) rfl 24 (by decide) w5_ rfl rfl rfl rfl rfl (Nat.le_of_ble_eq_true rfl) rfl dX5_sells_60 (pc2 := 63) rfl ?_
    subst en1_ en2_ en3_ en4_
    exact pr_void C hE (po_d_rfl rfl (by first | with_reducible rfl | (unfold m_X5_sells; rw [if_neg h1_]))) dX5_sells_63
  ·
    refine pk_iconst (v := 1) C dX5_sells_55 (by decide) (pc2 := 56) rfl ?_
    refine pk_goto (tgt := 60) C dX5_sells_56 (by decide) ?_
    refine pk_putX (X' := (mX (zG Z) m rf (M_mk (M_cd c) (M_pt c) (M_mn c) (M_ev c) n1_ n2_ n3_ (M_lo c) n4_ (M_li c) (M_he c) 1 (M_sp c) (M_ba c) (M_le c) (M_lf c) (M_mo c) (M_un c) (M_ch c) (M_lc c) (M_ac c) (M_bd c)) T)) C i5_ tyX5_ok nmX5 0 rfl (ci := 5) rfl 24 (by decide) w5_ rfl rfl rfl rfl rfl (Nat.le_of_ble_eq_true rfl) rfl dX5_sells_60 (pc2 := 63) rfl ?_
    subst en1_ en2_ en3_ en4_
    exact pr_void C hE (po_d_rfl rfl (by first | with_reducible rfl | (unfold m_X5_sells; rw [if_pos h1_]))) dX5_sells_63
def m_X5_happens (c : MR) (T : TR) (e : Int32) (mm : Int32) : Int32 × MR :=
  if (M_go c) = 0 then if (M_he c) = 0 then if ((T_ki T) (Int32.toNatClampNeg e)) = 0 then if (M_li c) ≤ 0 then (0, (M_mk (M_cd c) (M_pt c) (M_mn c) (M_ev c) ((M_co c) + ((T_am T) (Int32.toNatClampNeg e))) (M_al c) (M_re c) (M_lo c) (M_rs c) (M_li c) (M_he c) (M_go c) (M_sp c) (M_ba c) (M_le c) (M_lf c) (M_mo c) (M_un c) (M_ch c) (M_lc c) (M_ac c) (M_bd c))) else if (m_X5_book (M_mk (M_cd c) (M_pt c) (M_mn c) (M_ev c) ((M_co c) + ((T_am T) (Int32.toNatClampNeg e))) (M_al c) (M_re c) (M_lo c) (M_rs c) (M_li c) (M_he c) (M_go c) (M_sp c) (M_ba c) (M_le c) (M_lf c) (M_mo c) (M_un c) (M_ch c) (M_lc c) (M_ac c) (M_bd c)) T) < (M_rs c) then (0, (M_mk (M_cd c) (M_pt c) (M_mn c) (M_ev c) ((M_co c) + ((T_am T) (Int32.toNatClampNeg e))) (M_al c) (M_re c) (M_lo c) (M_rs c) (M_li c) (M_he c) (M_go c) (M_sp c) (M_ba c) (M_le c) (M_lf c) (M_mo c) (M_un c) (M_ch c) (M_lc c) (M_ac c) (M_bd c))) else (1, (M_mk (M_cd c) (M_pt c) (M_mn c) (M_ev c) ((M_co c) + ((T_am T) (Int32.toNatClampNeg e))) (M_al c) (M_re c) (M_lo c) (M_rs c) (M_li c) (M_he c) (M_go c) (M_sp c) (M_ba c) (M_le c) (M_lf c) (M_mo c) (M_un c) (M_ch c) (M_lc c) (M_ac c) (M_bd c))) else if ((T_ki T) (Int32.toNatClampNeg e)) = 1 then if (m_X5_book (M_mk (M_cd c) (M_pt c) (M_mn c) (M_ev c) (M_co c) (M_al c) (M_re c) (M_lo c) ((T_am T) (Int32.toNatClampNeg e)) ((T_nu T) (Int32.toNatClampNeg e)) (M_he c) (M_go c) (M_sp c) (M_ba c) (M_le c) (M_lf c) (M_mo c) (M_un c) (M_ch c) (M_lc c) (M_ac c) (M_bd c)) T) < ((T_am T) (Int32.toNatClampNeg e)) then (0, (M_mk (M_cd c) (M_pt c) (M_mn c) (M_ev c) (M_co c) (M_al c) (M_re c) (M_lo c) ((T_am T) (Int32.toNatClampNeg e)) ((T_nu T) (Int32.toNatClampNeg e)) (M_he c) (M_go c) (M_sp c) (M_ba c) (M_le c) (M_lf c) (M_mo c) (M_un c) (M_ch c) (M_lc c) (M_ac c) (M_bd c))) else (1, (M_mk (M_cd c) (M_pt c) (M_mn c) (M_ev c) (M_co c) (M_al c) (M_re c) (M_lo c) ((T_am T) (Int32.toNatClampNeg e)) ((T_nu T) (Int32.toNatClampNeg e)) (M_he c) (M_go c) (M_sp c) (M_ba c) (M_le c) (M_lf c) (M_mo c) (M_un c) (M_ch c) (M_lc c) (M_ac c) (M_bd c))) else if ((T_ki T) (Int32.toNatClampNeg e)) = 2 then (1, (m_X5_values c T ((T_am T) (Int32.toNatClampNeg e)))) else if ((T_ki T) (Int32.toNatClampNeg e)) = 3 then (((m_X5_impairs c T ((T_am T) (Int32.toNatClampNeg e))).1), ((m_X5_impairs c T ((T_am T) (Int32.toNatClampNeg e))).2)) else if ((T_ki T) (Int32.toNatClampNeg e)) = 4 then (((m_X5_restores c T ((T_am T) (Int32.toNatClampNeg e)) mm).1), ((m_X5_restores c T ((T_am T) (Int32.toNatClampNeg e)) mm).2)) else if ((T_ki T) (Int32.toNatClampNeg e)) = 5 then (1, (m_X5_sells c T ((T_nu T) (Int32.toNatClampNeg e)))) else if ((T_ki T) (Int32.toNatClampNeg e)) = 6 then (1, (M_mk (M_cd c) (M_pt c) (M_mn c) (M_ev c) (M_co c) (M_al c) (M_re c) (M_lo c) (M_rs c) (M_li c) 1 (M_go c) (M_sp c) (M_ba c) (M_le c) (M_lf c) (M_mo c) (M_un c) (M_ch c) (M_lc c) (M_ac c) (M_bd c))) else ((M_he c), (M_mk (M_cd c) (M_pt c) (M_mn c) (M_ev c) (M_co c) (M_al c) (M_re c) (M_lo c) (M_rs c) (M_li c) 0 (M_go c) (M_sp c) (M_ba c) (M_le c) (M_lf c) (M_mo c) (M_un c) (M_ch c) (M_lc c) (M_ac c) (M_bd c))) else if ((T_ki T) (Int32.toNatClampNeg e)) = 5 then (1, (m_X5_sells c T ((T_nu T) (Int32.toNatClampNeg e)))) else if ((T_ki T) (Int32.toNatClampNeg e)) = 7 then if ((T_ki T) (Int32.toNatClampNeg e)) = 0 then if (M_li c) ≤ 0 then (0, (M_mk (M_cd c) (M_pt c) (M_mn c) (M_ev c) ((M_co c) + ((T_am T) (Int32.toNatClampNeg e))) (M_al c) (M_re c) (M_lo c) (M_rs c) (M_li c) (M_he c) (M_go c) (M_sp c) (M_ba c) (M_le c) (M_lf c) (M_mo c) (M_un c) (M_ch c) (M_lc c) (M_ac c) (M_bd c))) else if (m_X5_book (M_mk (M_cd c) (M_pt c) (M_mn c) (M_ev c) ((M_co c) + ((T_am T) (Int32.toNatClampNeg e))) (M_al c) (M_re c) (M_lo c) (M_rs c) (M_li c) (M_he c) (M_go c) (M_sp c) (M_ba c) (M_le c) (M_lf c) (M_mo c) (M_un c) (M_ch c) (M_lc c) (M_ac c) (M_bd c)) T) < (M_rs c) then (0, (M_mk (M_cd c) (M_pt c) (M_mn c) (M_ev c) ((M_co c) + ((T_am T) (Int32.toNatClampNeg e))) (M_al c) (M_re c) (M_lo c) (M_rs c) (M_li c) (M_he c) (M_go c) (M_sp c) (M_ba c) (M_le c) (M_lf c) (M_mo c) (M_un c) (M_ch c) (M_lc c) (M_ac c) (M_bd c))) else (1, (M_mk (M_cd c) (M_pt c) (M_mn c) (M_ev c) ((M_co c) + ((T_am T) (Int32.toNatClampNeg e))) (M_al c) (M_re c) (M_lo c) (M_rs c) (M_li c) (M_he c) (M_go c) (M_sp c) (M_ba c) (M_le c) (M_lf c) (M_mo c) (M_un c) (M_ch c) (M_lc c) (M_ac c) (M_bd c))) else if ((T_ki T) (Int32.toNatClampNeg e)) = 1 then if (m_X5_book (M_mk (M_cd c) (M_pt c) (M_mn c) (M_ev c) (M_co c) (M_al c) (M_re c) (M_lo c) ((T_am T) (Int32.toNatClampNeg e)) ((T_nu T) (Int32.toNatClampNeg e)) (M_he c) (M_go c) (M_sp c) (M_ba c) (M_le c) (M_lf c) (M_mo c) (M_un c) (M_ch c) (M_lc c) (M_ac c) (M_bd c)) T) < ((T_am T) (Int32.toNatClampNeg e)) then (0, (M_mk (M_cd c) (M_pt c) (M_mn c) (M_ev c) (M_co c) (M_al c) (M_re c) (M_lo c) ((T_am T) (Int32.toNatClampNeg e)) ((T_nu T) (Int32.toNatClampNeg e)) (M_he c) (M_go c) (M_sp c) (M_ba c) (M_le c) (M_lf c) (M_mo c) (M_un c) (M_ch c) (M_lc c) (M_ac c) (M_bd c))) else (1, (M_mk (M_cd c) (M_pt c) (M_mn c) (M_ev c) (M_co c) (M_al c) (M_re c) (M_lo c) ((T_am T) (Int32.toNatClampNeg e)) ((T_nu T) (Int32.toNatClampNeg e)) (M_he c) (M_go c) (M_sp c) (M_ba c) (M_le c) (M_lf c) (M_mo c) (M_un c) (M_ch c) (M_lc c) (M_ac c) (M_bd c))) else if ((T_ki T) (Int32.toNatClampNeg e)) = 2 then (1, (m_X5_values c T ((T_am T) (Int32.toNatClampNeg e)))) else if ((T_ki T) (Int32.toNatClampNeg e)) = 3 then (((m_X5_impairs c T ((T_am T) (Int32.toNatClampNeg e))).1), ((m_X5_impairs c T ((T_am T) (Int32.toNatClampNeg e))).2)) else if ((T_ki T) (Int32.toNatClampNeg e)) = 4 then (((m_X5_restores c T ((T_am T) (Int32.toNatClampNeg e)) mm).1), ((m_X5_restores c T ((T_am T) (Int32.toNatClampNeg e)) mm).2)) else if ((T_ki T) (Int32.toNatClampNeg e)) = 6 then (1, (M_mk (M_cd c) (M_pt c) (M_mn c) (M_ev c) (M_co c) (M_al c) (M_re c) (M_lo c) (M_rs c) (M_li c) 1 (M_go c) (M_sp c) (M_ba c) (M_le c) (M_lf c) (M_mo c) (M_un c) (M_ch c) (M_lc c) (M_ac c) (M_bd c))) else ((M_he c), (M_mk (M_cd c) (M_pt c) (M_mn c) (M_ev c) (M_co c) (M_al c) (M_re c) (M_lo c) (M_rs c) (M_li c) 0 (M_go c) (M_sp c) (M_ba c) (M_le c) (M_lf c) (M_mo c) (M_un c) (M_ch c) (M_lc c) (M_ac c) (M_bd c))) else (0, c) else (0, c)
set_option maxRecDepth 100000 in
set_option maxHeartbeats 2000000 in
theorem c_X5_happens (l : Launch) (G : pw_G) (L : List Nat) (F : Nat → va_E) (m : Nat) (rf : Nat → Nat) (c : MR) (T : TR) (e : Int32) (mm : Int32) (he : vp_in e 40) (hm : vp_in mm 36) (hhe : M_he c = 0 ∨ M_he c = 1) : PM l yX5_happens wsX5_happens ⟨3, 0, 0, 66⟩ G [.ref m, .int e, .int mm] (mX G m rf c T) L F 0 0 (po_d (some (.int (m_X5_happens c T e mm).1)) (mX G m rf ((m_X5_happens c T e mm).2) T) L F) := by
  refine pm_entry (by decide) rfl rfl (Nat.le_of_ble_eq_true rfl) ?_
  intro Z Q C hl0 hG0 hnm hE
  subst hl0
  subst hG0
  have i5_ : ∀ w ∈ wsX50, w ∈ wsX5_happens := by decide +kernel
  have w0_ : Cond.fieldLink RX5 41 "AgedAssetsModel" "kinds" "[I" ∈ wsX5_happens := by decide +kernel
  have w1_ : Cond.fieldLink RX5 44 "AgedAssetsModel" "amounts" "[J" ∈ wsX5_happens := by decide +kernel
  have w2_ : Cond.fieldLink RX5 130 "AgedAssetsModel" "gone" "Z" ∈ wsX5_happens := by decide +kernel
  have w3_ : Cond.fieldLink RX5 134 "AgedAssetsModel" "held" "Z" ∈ wsX5_happens := by decide +kernel
  have w4_ : Cond.fieldLink RX5 65 "AgedAssetsModel" "cost" "J" ∈ wsX5_happens := by decide +kernel
  have w5_ : Cond.fieldLink RX5 85 "AgedAssetsModel" "rest" "I" ∈ wsX5_happens := by decide +kernel
  have w6_ : Cond.fieldLink RX5 79 "AgedAssetsModel" "residual" "J" ∈ wsX5_happens := by decide +kernel
  have w7_ : Cond.fieldLink RX5 47 "AgedAssetsModel" "numbers" "[I" ∈ wsX5_happens := by decide +kernel
  show PW Z (mX (zG Z) m rf c T) L F 0 0 Q 0 [(0, .ref m), (1, .int e), (2, .int mm)] []
  refine pk_aload_n C 0 dX5_happens_0 rfl rfl (pc2 := 1) rfl ?_
  refine pk_get (v := .ref (rf 10)) C i5_ (pw_atX 0 rfl) (ci := 5) rfl 14 (by decide) w0_ rfl rfl dX5_happens_1 (pc2 := 4) rfl ?_
  refine pk_iload_n C 1 dX5_happens_4 rfl rfl (pc2 := 5) rfl ?_
  refine pk_iald (v := ((T_ki T) (Int32.toNatClampNeg e))) C (pw_atX 11 rfl) he rfl dX5_happens_5 (pc2 := 6) rfl ?_
  refine pk_topi (fun n1_ en1_ => ?_)
  refine pk_istore_n (lv' := [(3, .int n1_), (0, .ref m), (1, .int e), (2, .int mm)]) C dX5_happens_6 rfl (by decide) rfl (pc2 := 7) rfl ?_
  refine pk_aload_n C 1 dX5_happens_7 rfl rfl (pc2 := 8) rfl ?_
  refine pk_get (v := .ref (rf 11)) C i5_ (pw_atX 0 rfl) (ci := 5) rfl 15 (by decide) w1_ rfl rfl dX5_happens_8 (pc2 := 11) rfl ?_
  refine pk_iload_n C 2 dX5_happens_11 rfl rfl (pc2 := 12) rfl ?_
  refine pk_lald (v := ((T_am T) (Int32.toNatClampNeg e))) C (pw_atX 12 rfl) he rfl dX5_happens_12 (pc2 := 13) rfl ?_
  refine pk_topl (fun n2_ en2_ => ?_)
  refine pk_lstore (lv' := [(4, .long n2_), (3, .int n1_), (0, .ref m), (1, .int e), (2, .int mm)]) C dX5_happens_13 (by decide) rfl (pc2 := 15) rfl ?_
  refine pk_aload_n C 2 dX5_happens_15 rfl rfl (pc2 := 16) rfl ?_
  refine pk_get (v := .int (M_go c)) C i5_ (pw_atX 0 rfl) (ci := 5) rfl 24 (by decide) w2_ rfl rfl dX5_happens_16 (pc2 := 19) rfl ?_
  refine pk_if_ne (tgt := 40) C dX5_happens_19 (by decide) (pc2 := 22) rfl (fun h1_ => ?_) (fun h1_ => ?_)
  ·
    refine pk_iconst (v := 0) C dX5_happens_40 (by decide) (pc2 := 41) rfl ?_
    subst en1_ en2_
    exact pr_int (ty := .boolean) C hE rfl rfl (po_d_rfl (by first | with_reducible rfl | (unfold m_X5_happens; rw [if_neg h1_])) (by first | with_reducible rfl | (unfold m_X5_happens; rw [if_neg h1_]))) dX5_happens_41
  ·
    refine pk_aload_n C 2 dX5_happens_22 rfl rfl (pc2 := 23) rfl ?_
    refine pk_get (v := .int (M_he c)) C i5_ (pw_atX 0 rfl) (ci := 5) rfl 23 (by decide) w3_ rfl rfl dX5_happens_23 (pc2 := 26) rfl ?_
    refine pk_if_eq (tgt := 42) C dX5_happens_26 (by decide) (pc2 := 29) rfl (fun h2_ => ?_) (fun h2_ => ?_)
    ·
      refine pk_iload_n C 1 dX5_happens_42 rfl rfl (pc2 := 43) rfl ?_
      by_cases h3_ : n1_ = 0
      ·
        refine pk_tableIn (tgt := 84) C dX5_happens_43 (by rw [h3_]; decide) (by rw [h3_]; decide) (by rw [h3_]; first | done | rfl) (by decide) ?_
        refine pk_aload_n C 2 dX5_happens_84 rfl rfl (pc2 := 85) rfl ?_
        refine pk_aload_n C 2 dX5_happens_85 rfl rfl (pc2 := 86) rfl ?_
        refine pk_get (v := .long (M_co c)) C i5_ (pw_atX 0 rfl) (ci := 5) rfl 17 (by decide) w4_ rfl rfl dX5_happens_86 (pc2 := 89) rfl ?_
        refine pk_lload C 0 dX5_happens_89 rfl (pc2 := 91) rfl ?_
        refine pk_ladd C dX5_happens_91 (pc2 := 92) rfl ?_
        refine pk_topl (fun n3_ en3_ => ?_)
        refine pk_putX (X' := (mX (zG Z) m rf (M_mk (M_cd c) (M_pt c) (M_mn c) (M_ev c) n3_ (M_al c) (M_re c) (M_lo c) (M_rs c) (M_li c) (M_he c) (M_go c) (M_sp c) (M_ba c) (M_le c) (M_lf c) (M_mo c) (M_un c) (M_ch c) (M_lc c) (M_ac c) (M_bd c)) T)) C i5_ tyX5_ok nmX5 0 rfl (ci := 5) rfl 17 (by decide) w4_ rfl rfl rfl rfl rfl (Nat.le_of_ble_eq_true rfl) rfl dX5_happens_92 (pc2 := 95) rfl ?_
        refine pk_aload_n C 2 dX5_happens_95 rfl rfl (pc2 := 96) rfl ?_
        refine pk_get (v := .int (M_li c)) C i5_ (pw_atX 0 rfl) (ci := 5) rfl 22 (by decide) w5_ rfl rfl dX5_happens_96 (pc2 := 99) rfl ?_
        refine pk_if_le (tgt := 118) C dX5_happens_99 (by decide) (pc2 := 102) rfl (fun h4_ => ?_) (fun h4_ => ?_)
        ·
          refine pk_iconst (v := 0) C dX5_happens_118 (by decide) (pc2 := 119) rfl ?_
          subst en1_ en2_ en3_
          exact pr_int (ty := .boolean) C hE rfl rfl (po_d_rfl (by first | with_reducible rfl | (unfold m_X5_happens; rw [if_pos h1_, if_pos h2_, if_pos h3_, if_pos h4_])) (by first | with_reducible rfl | (unfold m_X5_happens; rw [if_pos h1_, if_pos h2_, if_pos h3_, if_pos h4_]))) dX5_happens_119
        ·
          refine pk_aload_n C 2 dX5_happens_102 rfl rfl (pc2 := 103) rfl ?_
          refine pk_get (v := .long (M_rs c)) C i5_ (pw_atX 0 rfl) (ci := 5) rfl 21 (by decide) w6_ rfl rfl dX5_happens_103 (pc2 := 106) rfl ?_
          refine pk_aload_n C 2 dX5_happens_106 rfl rfl (pc2 := 107) rfl ?_
          refine pk_dV (cx := (mX (zG Z) m rf (M_mk (M_cd c) (M_pt c) (M_mn c) (M_ev c) n3_ (M_al c) (M_re c) (M_lo c) (M_rs c) (M_li c) (M_he c) (M_go c) (M_sp c) (M_ba c) (M_le c) (M_lf c) (M_mo c) (M_un c) (M_ch c) (M_lc c) (M_ac c) (M_bd c)) T)) (wr := []) (X2 := (mX (zG Z) m rf (M_mk (M_cd c) (M_pt c) (M_mn c) (M_ev c) n3_ (M_al c) (M_re c) (M_lo c) (M_rs c) (M_li c) (M_he c) (M_go c) (M_sp c) (M_ba c) (M_le c) (M_lf c) (M_mo c) (M_un c) (M_ch c) (M_lc c) (M_ac c) (M_bd c)) T)) (st := [.long (M_rs c)]) (st2 := [.long (m_X5_book (M_mk (M_cd c) (M_pt c) (M_mn c) (M_ev c) n3_ (M_al c) (M_re c) (M_lo c) (M_rs c) (M_li c) (M_he c) (M_go c) (M_sp c) (M_ba c) (M_le c) (M_lf c) (M_mo c) (M_un c) (M_ch c) (M_lc c) (M_ac c) (M_bd c)) T), .long (M_rs c)]) (As := []) C (c_X5_book (zl Z) (zG Z) L F m rf (M_mk (M_cd c) (M_pt c) (M_mn c) (M_ev c) n3_ (M_al c) (M_re c) (M_lo c) (M_rs c) (M_li c) (M_he c) (M_go c) (M_sp c) (M_ba c) (M_le c) (M_lf c) (M_mo c) (M_un c) (M_ch c) (M_lc c) (M_ac c) (M_bd c)) T) gX5_happens_X5_book rfl rfl rfl 0 (by decide +kernel) ⟨Nat.le_of_ble_eq_true rfl, Nat.le_of_ble_eq_true rfl⟩ (pw_atX 0 rfl) rfl rfl rfl (Nat.le_of_ble_eq_true rfl) ⟨Nat.le_of_ble_eq_true rfl, Nat.le_of_ble_eq_true rfl⟩ [0, 1, 2, 3, 4, 5, 6, 7, 8, 9, 10, 11, 12, 13, 14, 15] [] [0, 1, 2, 3, 4, 5, 6, 7, 8, 9, 10, 11, 12, 13, 14, 15] rfl rfl rfl rfl (by decide) rfl rfl dX5_happens_107 (pc2 := 110) rfl rfl ?_
          refine pk_topl (fun n4_ en4_ => ?_)
          refine pk_lcmp_gt (tgt := 118) C dX5_happens_110 dX5_happens_111 (pc1 := 111) rfl (by decide) (pc2 := 114) rfl (fun h5_ => ?_) (fun h5_ => ?_)
          ·
            refine pk_iconst (v := 0) C dX5_happens_118 (by decide) (pc2 := 119) rfl ?_
            subst en1_ en2_ en3_ en4_
            exact pr_int (ty := .boolean) C hE rfl rfl (po_d_rfl (by first | with_reducible rfl | (unfold m_X5_happens; rw [if_pos h1_, if_pos h2_, if_pos h3_, if_neg h4_, if_pos h5_])) (by first | with_reducible rfl | (unfold m_X5_happens; rw [if_pos h1_, if_pos h2_, if_pos h3_, if_neg h4_, if_pos h5_]))) dX5_happens_119
          ·
            refine pk_iconst (v := 1) C dX5_happens_114 (by decide) (pc2 := 115) rfl ?_
            refine pk_goto (tgt := 119) C dX5_happens_115 (by decide) ?_
            subst en1_ en2_ en3_ en4_
            exact pr_int (ty := .boolean) C hE rfl rfl (po_d_rfl (by first | with_reducible rfl | (unfold m_X5_happens; rw [if_pos h1_, if_pos h2_, if_pos h3_, if_neg h4_, if_neg h5_])) (by first | with_reducible rfl | (unfold m_X5_happens; rw [if_pos h1_, if_pos h2_, if_pos h3_, if_neg h4_, if_neg h5_]))) dX5_happens_119
      by_cases h6_ : n1_ = 1
      ·
        refine pk_tableIn (tgt := 120) C dX5_happens_43 (by rw [h6_]; decide) (by rw [h6_]; decide) (by rw [h6_]; first | done | rfl) (by decide) ?_
        refine pk_aload_n C 2 dX5_happens_120 rfl rfl (pc2 := 121) rfl ?_
        refine pk_lload C 0 dX5_happens_121 rfl (pc2 := 123) rfl ?_
        refine pk_putX (X' := (mX (zG Z) m rf (M_mk (M_cd c) (M_pt c) (M_mn c) (M_ev c) (M_co c) (M_al c) (M_re c) (M_lo c) n2_ (M_li c) (M_he c) (M_go c) (M_sp c) (M_ba c) (M_le c) (M_lf c) (M_mo c) (M_un c) (M_ch c) (M_lc c) (M_ac c) (M_bd c)) T)) C i5_ tyX5_ok nmX5 0 rfl (ci := 5) rfl 21 (by decide) w6_ rfl rfl rfl rfl rfl (Nat.le_of_ble_eq_true rfl) rfl dX5_happens_123 (pc2 := 126) rfl ?_
        refine pk_aload_n C 2 dX5_happens_126 rfl rfl (pc2 := 127) rfl ?_
        refine pk_aload_n C 2 dX5_happens_127 rfl rfl (pc2 := 128) rfl ?_
        refine pk_get (v := .ref (rf 12)) C i5_ (pw_atX 0 rfl) (ci := 5) rfl 16 (by decide) w7_ rfl rfl dX5_happens_128 (pc2 := 131) rfl ?_
        refine pk_iload_n C 3 dX5_happens_131 rfl rfl (pc2 := 132) rfl ?_
        refine pk_iald (v := ((T_nu T) (Int32.toNatClampNeg e))) C (pw_atX 13 rfl) he rfl dX5_happens_132 (pc2 := 133) rfl ?_
        refine pk_topi (fun n5_ en5_ => ?_)
        refine pk_putX (X' := (mX (zG Z) m rf (M_mk (M_cd c) (M_pt c) (M_mn c) (M_ev c) (M_co c) (M_al c) (M_re c) (M_lo c) n2_ n5_ (M_he c) (M_go c) (M_sp c) (M_ba c) (M_le c) (M_lf c) (M_mo c) (M_un c) (M_ch c) (M_lc c) (M_ac c) (M_bd c)) T)) C i5_ tyX5_ok nmX5 0 rfl (ci := 5) rfl 22 (by decide) w5_ rfl rfl rfl rfl rfl (Nat.le_of_ble_eq_true rfl) rfl dX5_happens_133 (pc2 := 136) rfl ?_
        refine pk_aload_n C 2 dX5_happens_136 rfl rfl (pc2 := 137) rfl ?_
        refine pk_get (v := .long n2_) C i5_ (pw_atX 0 rfl) (ci := 5) rfl 21 (by decide) w6_ rfl rfl dX5_happens_137 (pc2 := 140) rfl ?_
        refine pk_aload_n C 2 dX5_happens_140 rfl rfl (pc2 := 141) rfl ?_
        refine pk_dV (cx := (mX (zG Z) m rf (M_mk (M_cd c) (M_pt c) (M_mn c) (M_ev c) (M_co c) (M_al c) (M_re c) (M_lo c) n2_ n5_ (M_he c) (M_go c) (M_sp c) (M_ba c) (M_le c) (M_lf c) (M_mo c) (M_un c) (M_ch c) (M_lc c) (M_ac c) (M_bd c)) T)) (wr := []) (X2 := (mX (zG Z) m rf (M_mk (M_cd c) (M_pt c) (M_mn c) (M_ev c) (M_co c) (M_al c) (M_re c) (M_lo c) n2_ n5_ (M_he c) (M_go c) (M_sp c) (M_ba c) (M_le c) (M_lf c) (M_mo c) (M_un c) (M_ch c) (M_lc c) (M_ac c) (M_bd c)) T)) (st := [.long n2_]) (st2 := [.long (m_X5_book (M_mk (M_cd c) (M_pt c) (M_mn c) (M_ev c) (M_co c) (M_al c) (M_re c) (M_lo c) n2_ n5_ (M_he c) (M_go c) (M_sp c) (M_ba c) (M_le c) (M_lf c) (M_mo c) (M_un c) (M_ch c) (M_lc c) (M_ac c) (M_bd c)) T), .long n2_]) (As := []) C (c_X5_book (zl Z) (zG Z) L F m rf (M_mk (M_cd c) (M_pt c) (M_mn c) (M_ev c) (M_co c) (M_al c) (M_re c) (M_lo c) n2_ n5_ (M_he c) (M_go c) (M_sp c) (M_ba c) (M_le c) (M_lf c) (M_mo c) (M_un c) (M_ch c) (M_lc c) (M_ac c) (M_bd c)) T) gX5_happens_X5_book rfl rfl rfl 0 (by decide +kernel) ⟨Nat.le_of_ble_eq_true rfl, Nat.le_of_ble_eq_true rfl⟩ (pw_atX 0 rfl) rfl rfl rfl (Nat.le_of_ble_eq_true rfl) ⟨Nat.le_of_ble_eq_true rfl, Nat.le_of_ble_eq_true rfl⟩ [0, 1, 2, 3, 4, 5, 6, 7, 8, 9, 10, 11, 12, 13, 14, 15] [] [0, 1, 2, 3, 4, 5, 6, 7, 8, 9, 10, 11, 12, 13, 14, 15] rfl rfl rfl rfl (by decide) rfl rfl dX5_happens_141 (pc2 := 144) rfl rfl ?_
        refine pk_topl (fun n6_ en6_ => ?_)
        refine pk_lcmp_gt (tgt := 152) C dX5_happens_144 dX5_happens_145 (pc1 := 145) rfl (by decide) (pc2 := 148) rfl (fun h7_ => ?_) (fun h7_ => ?_)
        ·
          refine pk_iconst (v := 0) C dX5_happens_152 (by decide) (pc2 := 153) rfl ?_
          subst en1_ en2_ en5_ en6_
          exact pr_int (ty := .boolean) C hE rfl rfl (po_d_rfl (by first | with_reducible rfl | (unfold m_X5_happens; rw [if_pos h1_, if_pos h2_, if_neg h3_, if_pos h6_, if_pos h7_])) (by first | with_reducible rfl | (unfold m_X5_happens; rw [if_pos h1_, if_pos h2_, if_neg h3_, if_pos h6_, if_pos h7_]))) dX5_happens_153
        ·
          refine pk_iconst (v := 1) C dX5_happens_148 (by decide) (pc2 := 149) rfl ?_
          refine pk_goto (tgt := 153) C dX5_happens_149 (by decide) ?_
          subst en1_ en2_ en5_ en6_
          exact pr_int (ty := .boolean) C hE rfl rfl (po_d_rfl (by first | with_reducible rfl | (unfold m_X5_happens; rw [if_pos h1_, if_pos h2_, if_neg h3_, if_pos h6_, if_neg h7_])) (by first | with_reducible rfl | (unfold m_X5_happens; rw [if_pos h1_, if_pos h2_, if_neg h3_, if_pos h6_, if_neg h7_]))) dX5_happens_153
      by_cases h8_ : n1_ = 2
      ·
        refine pk_tableIn (tgt := 154) C dX5_happens_43 (by rw [h8_]; decide) (by rw [h8_]; decide) (by rw [h8_]; first | done | rfl) (by decide) ?_
        refine pk_aload_n C 2 dX5_happens_154 rfl rfl (pc2 := 155) rfl ?_
        refine pk_lload C 0 dX5_happens_155 rfl (pc2 := 157) rfl ?_
        refine pk_dV (cx := (mX (zG Z) m rf c T)) (wr := []) (X2 := (mX (zG Z) m rf (m_X5_values c T n2_) T)) (st := []) (st2 := []) (As := [.long n2_]) C (c_X5_values (zl Z) (zG Z) L F m rf c T n2_) gX5_happens_X5_values rfl rfl rfl 1 (by decide +kernel) ⟨Nat.le_of_ble_eq_true rfl, Nat.le_of_ble_eq_true rfl⟩ (pw_atX 0 rfl) rfl rfl rfl (Nat.le_of_ble_eq_true rfl) ⟨Nat.le_of_ble_eq_true rfl, Nat.le_of_ble_eq_true rfl⟩ [0, 1, 2, 3, 4, 5, 6, 7, 8, 9, 10, 11, 12, 13, 14, 15] [] [0, 1, 2, 3, 4, 5, 6, 7, 8, 9, 10, 11, 12, 13, 14, 15] rfl rfl rfl rfl (by decide) rfl rfl dX5_happens_157 (pc2 := 160) rfl rfl ?_
        generalize en7_ : (m_X5_values c T n2_) = n7_
        refine pk_iconst (v := 1) C dX5_happens_160 (by decide) (pc2 := 161) rfl ?_
        subst en1_ en2_ en7_
        exact pr_int (ty := .boolean) C hE rfl rfl (po_d_rfl (by first | with_reducible rfl | (unfold m_X5_happens; rw [if_pos h1_, if_pos h2_, if_neg h3_, if_neg h6_, if_pos h8_])) (by first | with_reducible rfl | (unfold m_X5_happens; rw [if_pos h1_, if_pos h2_, if_neg h3_, if_neg h6_, if_pos h8_]))) dX5_happens_161
      by_cases h9_ : n1_ = 3
      ·
        refine pk_tableIn (tgt := 162) C dX5_happens_43 (by rw [h9_]; decide) (by rw [h9_]; decide) (by rw [h9_]; first | done | rfl) (by decide) ?_
        refine pk_aload_n C 2 dX5_happens_162 rfl rfl (pc2 := 163) rfl ?_
        refine pk_lload C 0 dX5_happens_163 rfl (pc2 := 165) rfl ?_
        refine pk_dV (cx := (mX (zG Z) m rf c T)) (wr := []) (X2 := (mX (zG Z) m rf ((m_X5_impairs c T n2_).2) T)) (st := []) (st2 := [.int ((m_X5_impairs c T n2_).1)]) (As := [.long n2_]) C (c_X5_impairs (zl Z) (zG Z) L F m rf c T n2_) gX5_happens_X5_impairs rfl rfl rfl 1 (by decide +kernel) ⟨Nat.le_of_ble_eq_true rfl, Nat.le_of_ble_eq_true rfl⟩ (pw_atX 0 rfl) rfl rfl rfl (Nat.le_of_ble_eq_true rfl) ⟨Nat.le_of_ble_eq_true rfl, Nat.le_of_ble_eq_true rfl⟩ [0, 1, 2, 3, 4, 5, 6, 7, 8, 9, 10, 11, 12, 13, 14, 15] [] [0, 1, 2, 3, 4, 5, 6, 7, 8, 9, 10, 11, 12, 13, 14, 15] rfl rfl rfl rfl (by decide) rfl rfl dX5_happens_165 (pc2 := 168) rfl rfl ?_
        generalize en8_ : ((m_X5_impairs c T n2_).2) = n8_
        refine pk_topi (fun n9_ en9_ => ?_)
        subst en1_ en2_ en8_ en9_
        exact pr_int (ty := .boolean) C hE rfl (zb_n (zb_m_X5_impairs _ _ _)) (po_d_rfl (by first | with_reducible rfl | (unfold m_X5_happens; rw [if_pos h1_, if_pos h2_, if_neg h3_, if_neg h6_, if_neg h8_, if_pos h9_])) (by first | with_reducible rfl | (unfold m_X5_happens; rw [if_pos h1_, if_pos h2_, if_neg h3_, if_neg h6_, if_neg h8_, if_pos h9_]))) dX5_happens_168
      by_cases h10_ : n1_ = 4
      ·
        refine pk_tableIn (tgt := 169) C dX5_happens_43 (by rw [h10_]; decide) (by rw [h10_]; decide) (by rw [h10_]; first | done | rfl) (by decide) ?_
        refine pk_aload_n C 2 dX5_happens_169 rfl rfl (pc2 := 170) rfl ?_
        refine pk_lload C 0 dX5_happens_170 rfl (pc2 := 172) rfl ?_
        refine pk_iload_n C 4 dX5_happens_172 rfl rfl (pc2 := 173) rfl ?_
        refine pk_dV (cx := (mX (zG Z) m rf c T)) (wr := []) (X2 := (mX (zG Z) m rf ((m_X5_restores c T n2_ mm).2) T)) (st := []) (st2 := [.int ((m_X5_restores c T n2_ mm).1)]) (As := [.long n2_, .int mm]) C (c_X5_restores (zl Z) (zG Z) L F m rf c T n2_ mm hm) gX5_happens_X5_restores rfl rfl rfl 2 (by decide +kernel) ⟨Nat.le_of_ble_eq_true rfl, Nat.le_of_ble_eq_true rfl⟩ (pw_atX 0 rfl) rfl rfl rfl (Nat.le_of_ble_eq_true rfl) ⟨Nat.le_of_ble_eq_true rfl, Nat.le_of_ble_eq_true rfl⟩ [0, 1, 2, 3, 4, 5, 6, 7, 8, 9, 10, 11, 12, 13, 14, 15] [] [0, 1, 2, 3, 4, 5, 6, 7, 8, 9, 10, 11, 12, 13, 14, 15] rfl rfl rfl rfl (by decide) rfl rfl dX5_happens_173 (pc2 := 176) rfl rfl ?_
        generalize en10_ : ((m_X5_restores c T n2_ mm).2) = n10_
        refine pk_topi (fun n11_ en11_ => ?_)
        subst en1_ en2_ en10_ en11_
        exact pr_int (ty := .boolean) C hE rfl (zb_n (zb_m_X5_restores _ _ _ _)) (po_d_rfl (by first | with_reducible rfl | (unfold m_X5_happens; rw [if_pos h1_, if_pos h2_, if_neg h3_, if_neg h6_, if_neg h8_, if_neg h9_, if_pos h10_])) (by first | with_reducible rfl | (unfold m_X5_happens; rw [if_pos h1_, if_pos h2_, if_neg h3_, if_neg h6_, if_neg h8_, if_neg h9_, if_pos h10_]))) dX5_happens_176
      by_cases h11_ : n1_ = 5
      ·
        refine pk_tableIn (tgt := 177) C dX5_happens_43 (by rw [h11_]; decide) (by rw [h11_]; decide) (by rw [h11_]; first | done | rfl) (by decide) ?_
        refine pk_aload_n C 2 dX5_happens_177 rfl rfl (pc2 := 178) rfl ?_
        refine pk_aload_n C 2 dX5_happens_178 rfl rfl (pc2 := 179) rfl ?_
        refine pk_get (v := .ref (rf 12)) C i5_ (pw_atX 0 rfl) (ci := 5) rfl 16 (by decide) w7_ rfl rfl dX5_happens_179 (pc2 := 182) rfl ?_
        refine pk_iload_n C 3 dX5_happens_182 rfl rfl (pc2 := 183) rfl ?_
        refine pk_iald (v := ((T_nu T) (Int32.toNatClampNeg e))) C (pw_atX 13 rfl) he rfl dX5_happens_183 (pc2 := 184) rfl ?_
        refine pk_dV (cx := (mX (zG Z) m rf c T)) (wr := []) (X2 := (mX (zG Z) m rf (m_X5_sells c T ((T_nu T) (Int32.toNatClampNeg e))) T)) (st := []) (st2 := []) (As := [.int ((T_nu T) (Int32.toNatClampNeg e))]) C (c_X5_sells (zl Z) (zG Z) L F m rf c T ((T_nu T) (Int32.toNatClampNeg e))) gX5_happens_X5_sells rfl rfl rfl 1 (by decide +kernel) ⟨Nat.le_of_ble_eq_true rfl, Nat.le_of_ble_eq_true rfl⟩ (pw_atX 0 rfl) rfl rfl rfl (Nat.le_of_ble_eq_true rfl) ⟨Nat.le_of_ble_eq_true rfl, Nat.le_of_ble_eq_true rfl⟩ [0, 1, 2, 3, 4, 5, 6, 7, 8, 9, 10, 11, 12, 13, 14, 15] [] [0, 1, 2, 3, 4, 5, 6, 7, 8, 9, 10, 11, 12, 13, 14, 15] rfl rfl rfl rfl (by decide) rfl rfl dX5_happens_184 (pc2 := 187) rfl rfl ?_
        generalize en12_ : (m_X5_sells c T ((T_nu T) (Int32.toNatClampNeg e))) = n12_
        refine pk_iconst (v := 1) C dX5_happens_187 (by decide) (pc2 := 188) rfl ?_
        subst en1_ en2_ en12_
        exact pr_int (ty := .boolean) C hE rfl rfl (po_d_rfl (by first | with_reducible rfl | (unfold m_X5_happens; rw [if_pos h1_, if_pos h2_, if_neg h3_, if_neg h6_, if_neg h8_, if_neg h9_, if_neg h10_, if_pos h11_])) (by first | with_reducible rfl | (unfold m_X5_happens; rw [if_pos h1_, if_pos h2_, if_neg h3_, if_neg h6_, if_neg h8_, if_neg h9_, if_neg h10_, if_pos h11_]))) dX5_happens_188
      by_cases h12_ : n1_ = 6
      ·
        refine pk_tableIn (tgt := 189) C dX5_happens_43 (by rw [h12_]; decide) (by rw [h12_]; decide) (by rw [h12_]; first | done | rfl) (by decide) ?_
        refine pk_aload_n C 2 dX5_happens_189 rfl rfl (pc2 := 190) rfl ?_
        refine pk_iconst (v := 1) C dX5_happens_190 (by decide) (pc2 := 191) rfl ?_
        refine pk_putX (X' := (mX (zG Z) m rf (M_mk (M_cd c) (M_pt c) (M_mn c) (M_ev c) (M_co c) (M_al c) (M_re c) (M_lo c) (M_rs c) (M_li c) 1 (M_go c) (M_sp c) (M_ba c) (M_le c) (M_lf c) (M_mo c) (M_un c) (M_ch c) (M_lc c) (M_ac c) (M_bd c)) T)) C i5_ tyX5_ok nmX5 0 rfl (ci := 5) rfl 23 (by decide) w3_ rfl rfl rfl rfl rfl (Nat.le_of_ble_eq_true rfl) rfl dX5_happens_191 (pc2 := 194) rfl ?_
        refine pk_iconst (v := 1) C dX5_happens_194 (by decide) (pc2 := 195) rfl ?_
        subst en1_ en2_
        exact pr_int (ty := .boolean) C hE rfl rfl (po_d_rfl (by first | with_reducible rfl | (unfold m_X5_happens; rw [if_pos h1_, if_pos h2_, if_neg h3_, if_neg h6_, if_neg h8_, if_neg h9_, if_neg h10_, if_neg h11_, if_pos h12_])) (by first | with_reducible rfl | (unfold m_X5_happens; rw [if_pos h1_, if_pos h2_, if_neg h3_, if_neg h6_, if_neg h8_, if_neg h9_, if_neg h10_, if_neg h11_, if_pos h12_]))) dX5_happens_195
      refine pk_tableOut (tgt := 196) C dX5_happens_43 (sw_6 h3_ h6_ h8_ h9_ h10_ h11_ h12_) (by decide) ?_
      refine pk_aload_n C 2 dX5_happens_196 rfl rfl (pc2 := 197) rfl ?_
      refine pk_get (v := .int (M_he c)) C i5_ (pw_atX 0 rfl) (ci := 5) rfl 23 (by decide) w3_ rfl rfl dX5_happens_197 (pc2 := 200) rfl ?_
      refine pk_istore (lv' := [(6, .int (M_he c)), (4, .long n2_), (3, .int n1_), (0, .ref m), (1, .int e), (2, .int mm)]) C dX5_happens_200 (by decide) rfl (pc2 := 202) rfl ?_
      refine pk_aload_n C 3 dX5_happens_202 rfl rfl (pc2 := 203) rfl ?_
      refine pk_iconst (v := 0) C dX5_happens_203 (by decide) (pc2 := 204) rfl ?_
      refine pk_putX (X' := (mX (zG Z) m rf (M_mk (M_cd c) (M_pt c) (M_mn c) (M_ev c) (M_co c) (M_al c) (M_re c) (M_lo c) (M_rs c) (M_li c) 0 (M_go c) (M_sp c) (M_ba c) (M_le c) (M_lf c) (M_mo c) (M_un c) (M_ch c) (M_lc c) (M_ac c) (M_bd c)) T)) C i5_ tyX5_ok nmX5 0 rfl (ci := 5) rfl 23 (by decide) w3_ rfl rfl rfl rfl rfl (Nat.le_of_ble_eq_true rfl) rfl dX5_happens_204 (pc2 := 207) rfl ?_
      refine pk_iload C 0 dX5_happens_207 rfl (pc2 := 209) rfl ?_
      subst en1_ en2_
      exact pr_int (ty := .boolean) C hE rfl (zb_n (by assumption)) (po_d_rfl (by first | with_reducible rfl | (unfold m_X5_happens; rw [if_pos h1_, if_pos h2_, if_neg h3_, if_neg h6_, if_neg h8_, if_neg h9_, if_neg h10_, if_neg h11_, if_neg h12_])) (by first | with_reducible rfl | (unfold m_X5_happens; rw [if_pos h1_, if_pos h2_, if_neg h3_, if_neg h6_, if_neg h8_, if_neg h9_, if_neg h10_, if_neg h11_, if_neg h12_]))) dX5_happens_209
    ·
      refine pk_iload_n C 1 dX5_happens_29 rfl rfl (pc2 := 30) rfl ?_
      refine pk_iconst (v := 5) C dX5_happens_30 (by decide) (pc2 := 31) rfl ?_
      refine pk_icmp_eq (tgt := 42) C dX5_happens_31 (by decide) (pc2 := 34) rfl (fun h13_ => ?_) (fun h13_ => ?_)
      ·
        refine pk_iload_n C 1 dX5_happens_42 rfl rfl (pc2 := 43) rfl ?_
        refine pk_tableIn (tgt := 177) C dX5_happens_43 (by rw [h13_]; decide) (by rw [h13_]; decide) (by rw [h13_]; first | done | rfl) (by decide) ?_
        refine pk_aload_n C 2 dX5_happens_177 rfl rfl (pc2 := 178) rfl ?_
        refine pk_aload_n C 2 dX5_happens_178 rfl rfl (pc2 := 179) rfl ?_
        refine pk_get (v := .ref (rf 12)) C i5_ (pw_atX 0 rfl) (ci := 5) rfl 16 (by decide) w7_ rfl rfl dX5_happens_179 (pc2 := 182) rfl ?_
        refine pk_iload_n C 3 dX5_happens_182 rfl rfl (pc2 := 183) rfl ?_
        refine pk_iald (v := ((T_nu T) (Int32.toNatClampNeg e))) C (pw_atX 13 rfl) he rfl dX5_happens_183 (pc2 := 184) rfl ?_
        refine pk_dV (cx := (mX (zG Z) m rf c T)) (wr := []) (X2 := (mX (zG Z) m rf (m_X5_sells c T ((T_nu T) (Int32.toNatClampNeg e))) T)) (st := []) (st2 := []) (As := [.int ((T_nu T) (Int32.toNatClampNeg e))]) C (c_X5_sells (zl Z) (zG Z) L F m rf c T ((T_nu T) (Int32.toNatClampNeg e))) gX5_happens_X5_sells rfl rfl rfl 1 (by decide +kernel) ⟨Nat.le_of_ble_eq_true rfl, Nat.le_of_ble_eq_true rfl⟩ (pw_atX 0 rfl) rfl rfl rfl (Nat.le_of_ble_eq_true rfl) ⟨Nat.le_of_ble_eq_true rfl, Nat.le_of_ble_eq_true rfl⟩ [0, 1, 2, 3, 4, 5, 6, 7, 8, 9, 10, 11, 12, 13, 14, 15] [] [0, 1, 2, 3, 4, 5, 6, 7, 8, 9, 10, 11, 12, 13, 14, 15] rfl rfl rfl rfl (by decide) rfl rfl dX5_happens_184 (pc2 := 187) rfl rfl ?_
        generalize en13_ : (m_X5_sells c T ((T_nu T) (Int32.toNatClampNeg e))) = n13_
        refine pk_iconst (v := 1) C dX5_happens_187 (by decide) (pc2 := 188) rfl ?_
        subst en1_ en2_ en13_
        exact pr_int (ty := .boolean) C hE rfl rfl (po_d_rfl (by first | with_reducible rfl | (unfold m_X5_happens; rw [if_pos h1_, if_neg h2_, if_pos h13_])) (by first | with_reducible rfl | (unfold m_X5_happens; rw [if_pos h1_, if_neg h2_, if_pos h13_]))) dX5_happens_188
      ·
        refine pk_iload_n C 1 dX5_happens_34 rfl rfl (pc2 := 35) rfl ?_
        refine pk_bipush (v := 7) C dX5_happens_35 (by decide) (pc2 := 37) rfl ?_
        refine pk_icmp_eq (tgt := 42) C dX5_happens_37 (by decide) (pc2 := 40) rfl (fun h14_ => ?_) (fun h14_ => ?_)
        ·
          refine pk_iload_n C 1 dX5_happens_42 rfl rfl (pc2 := 43) rfl ?_
          by_cases h15_ : n1_ = 0
          ·
            refine pk_tableIn (tgt := 84) C dX5_happens_43 (by rw [h15_]; decide) (by rw [h15_]; decide) (by rw [h15_]; first | done | rfl) (by decide) ?_
            refine pk_aload_n C 2 dX5_happens_84 rfl rfl (pc2 := 85) rfl ?_
            refine pk_aload_n C 2 dX5_happens_85 rfl rfl (pc2 := 86) rfl ?_
            refine pk_get (v := .long (M_co c)) C i5_ (pw_atX 0 rfl) (ci := 5) rfl 17 (by decide) w4_ rfl rfl dX5_happens_86 (pc2 := 89) rfl ?_
            refine pk_lload C 0 dX5_happens_89 rfl (pc2 := 91) rfl ?_
            refine pk_ladd C dX5_happens_91 (pc2 := 92) rfl ?_
            refine pk_topl (fun n14_ en14_ => ?_)
            refine pk_putX (X' := (mX (zG Z) m rf (M_mk (M_cd c) (M_pt c) (M_mn c) (M_ev c) n14_ (M_al c) (M_re c) (M_lo c) (M_rs c) (M_li c) (M_he c) (M_go c) (M_sp c) (M_ba c) (M_le c) (M_lf c) (M_mo c) (M_un c) (M_ch c) (M_lc c) (M_ac c) (M_bd c)) T)) C i5_ tyX5_ok nmX5 0 rfl (ci := 5) rfl 17 (by decide) w4_ rfl rfl rfl rfl rfl (Nat.le_of_ble_eq_true rfl) rfl dX5_happens_92 (pc2 := 95) rfl ?_
            refine pk_aload_n C 2 dX5_happens_95 rfl rfl (pc2 := 96) rfl ?_
            refine pk_get (v := .int (M_li c)) C i5_ (pw_atX 0 rfl) (ci := 5) rfl 22 (by decide) w5_ rfl rfl dX5_happens_96 (pc2 := 99) rfl ?_
            refine pk_if_le (tgt := 118) C dX5_happens_99 (by decide) (pc2 := 102) rfl (fun h16_ => ?_) (fun h16_ => ?_)
            ·
              refine pk_iconst (v := 0) C dX5_happens_118 (by decide) (pc2 := 119) rfl ?_
              subst en1_ en2_ en14_
              exact pr_int (ty := .boolean) C hE rfl rfl (po_d_rfl (by first | with_reducible rfl | (unfold m_X5_happens; rw [if_pos h1_, if_neg h2_, if_neg h13_, if_pos h14_, if_pos h15_, if_pos h16_])) (by first | with_reducible rfl | (unfold m_X5_happens; rw [if_pos h1_, if_neg h2_, if_neg h13_, if_pos h14_, if_pos h15_, if_pos h16_]))) dX5_happens_119
            ·
              refine pk_aload_n C 2 dX5_happens_102 rfl rfl (pc2 := 103) rfl ?_
              refine pk_get (v := .long (M_rs c)) C i5_ (pw_atX 0 rfl) (ci := 5) rfl 21 (by decide) w6_ rfl rfl dX5_happens_103 (pc2 := 106) rfl ?_
              refine pk_aload_n C 2 dX5_happens_106 rfl rfl (pc2 := 107) rfl ?_
              refine pk_dV (cx := (mX (zG Z) m rf (M_mk (M_cd c) (M_pt c) (M_mn c) (M_ev c) n14_ (M_al c) (M_re c) (M_lo c) (M_rs c) (M_li c) (M_he c) (M_go c) (M_sp c) (M_ba c) (M_le c) (M_lf c) (M_mo c) (M_un c) (M_ch c) (M_lc c) (M_ac c) (M_bd c)) T)) (wr := []) (X2 := (mX (zG Z) m rf (M_mk (M_cd c) (M_pt c) (M_mn c) (M_ev c) n14_ (M_al c) (M_re c) (M_lo c) (M_rs c) (M_li c) (M_he c) (M_go c) (M_sp c) (M_ba c) (M_le c) (M_lf c) (M_mo c) (M_un c) (M_ch c) (M_lc c) (M_ac c) (M_bd c)) T)) (st := [.long (M_rs c)]) (st2 := [.long (m_X5_book (M_mk (M_cd c) (M_pt c) (M_mn c) (M_ev c) n14_ (M_al c) (M_re c) (M_lo c) (M_rs c) (M_li c) (M_he c) (M_go c) (M_sp c) (M_ba c) (M_le c) (M_lf c) (M_mo c) (M_un c) (M_ch c) (M_lc c) (M_ac c) (M_bd c)) T), .long (M_rs c)]) (As := []) C (c_X5_book (zl Z) (zG Z) L F m rf (M_mk (M_cd c) (M_pt c) (M_mn c) (M_ev c) n14_ (M_al c) (M_re c) (M_lo c) (M_rs c) (M_li c) (M_he c) (M_go c) (M_sp c) (M_ba c) (M_le c) (M_lf c) (M_mo c) (M_un c) (M_ch c) (M_lc c) (M_ac c) (M_bd c)) T) gX5_happens_X5_book rfl rfl rfl 0 (by decide +kernel) ⟨Nat.le_of_ble_eq_true rfl, Nat.le_of_ble_eq_true rfl⟩ (pw_atX 0 rfl) rfl rfl rfl (Nat.le_of_ble_eq_true rfl) ⟨Nat.le_of_ble_eq_true rfl, Nat.le_of_ble_eq_true rfl⟩ [0, 1, 2, 3, 4, 5, 6, 7, 8, 9, 10, 11, 12, 13, 14, 15] [] [0, 1, 2, 3, 4, 5, 6, 7, 8, 9, 10, 11, 12, 13, 14, 15] rfl rfl rfl rfl (by decide) rfl rfl dX5_happens_107 (pc2 := 110) rfl rfl ?_
              refine pk_topl (fun n15_ en15_ => ?_)
              refine pk_lcmp_gt (tgt := 118) C dX5_happens_110 dX5_happens_111 (pc1 := 111) rfl (by decide) (pc2 := 114) rfl (fun h17_ => ?_) (fun h17_ => ?_)
              ·
                refine pk_iconst (v := 0) C dX5_happens_118 (by decide) (pc2 := 119) rfl ?_
                subst en1_ en2_ en14_ en15_
                exact pr_int (ty := .boolean) C hE rfl rfl (po_d_rfl (by first | with_reducible rfl | (unfold m_X5_happens; rw [if_pos h1_, if_neg h2_, if_neg h13_, if_pos h14_, if_pos h15_, if_neg h16_, if_pos h17_])) (by first | with_reducible rfl | (unfold m_X5_happens; rw [if_pos h1_, if_neg h2_, if_neg h13_, if_pos h14_, if_pos h15_, if_neg h16_, if_pos h17_]))) dX5_happens_119
              ·
                refine pk_iconst (v := 1) C dX5_happens_114 (by decide) (pc2 := 115) rfl ?_
                refine pk_goto (tgt := 119) C dX5_happens_115 (by decide) ?_
                subst en1_ en2_ en14_ en15_
                exact pr_int (ty := .boolean) C hE rfl rfl (po_d_rfl (by first | with_reducible rfl | (unfold m_X5_happens; rw [if_pos h1_, if_neg h2_, if_neg h13_, if_pos h14_, if_pos h15_, if_neg h16_, if_neg h17_])) (by first | with_reducible rfl | (unfold m_X5_happens; rw [if_pos h1_, if_neg h2_, if_neg h13_, if_pos h14_, if_pos h15_, if_neg h16_, if_neg h17_]))) dX5_happens_119
          by_cases h18_ : n1_ = 1
          ·
            refine pk_tableIn (tgt := 120) C dX5_happens_43 (by rw [h18_]; decide) (by rw [h18_]; decide) (by rw [h18_]; first | done | rfl) (by decide) ?_
            refine pk_aload_n C 2 dX5_happens_120 rfl rfl (pc2 := 121) rfl ?_
            refine pk_lload C 0 dX5_happens_121 rfl (pc2 := 123) rfl ?_
            refine pk_putX (X' := (mX (zG Z) m rf (M_mk (M_cd c) (M_pt c) (M_mn c) (M_ev c) (M_co c) (M_al c) (M_re c) (M_lo c) n2_ (M_li c) (M_he c) (M_go c) (M_sp c) (M_ba c) (M_le c) (M_lf c) (M_mo c) (M_un c) (M_ch c) (M_lc c) (M_ac c) (M_bd c)) T)) C i5_ tyX5_ok nmX5 0 rfl (ci := 5) rfl 21 (by decide) w6_ rfl rfl rfl rfl rfl (Nat.le_of_ble_eq_true rfl) rfl dX5_happens_123 (pc2 := 126) rfl ?_
            refine pk_aload_n C 2 dX5_happens_126 rfl rfl (pc2 := 127) rfl ?_
            refine pk_aload_n C 2 dX5_happens_127 rfl rfl (pc2 := 128) rfl ?_
            refine pk_get (v := .ref (rf 12)) C i5_ (pw_atX 0 rfl) (ci := 5) rfl 16 (by decide) w7_ rfl rfl dX5_happens_128 (pc2 := 131) rfl ?_
            refine pk_iload_n C 3 dX5_happens_131 rfl rfl (pc2 := 132) rfl ?_
            refine pk_iald (v := ((T_nu T) (Int32.toNatClampNeg e))) C (pw_atX 13 rfl) he rfl dX5_happens_132 (pc2 := 133) rfl ?_
            refine pk_topi (fun n16_ en16_ => ?_)
            refine pk_putX (X' := (mX (zG Z) m rf (M_mk (M_cd c) (M_pt c) (M_mn c) (M_ev c) (M_co c) (M_al c) (M_re c) (M_lo c) n2_ n16_ (M_he c) (M_go c) (M_sp c) (M_ba c) (M_le c) (M_lf c) (M_mo c) (M_un c) (M_ch c) (M_lc c) (M_ac c) (M_bd c)) T)) C i5_ tyX5_ok nmX5 0 rfl (ci := 5) rfl 22 (by decide) w5_ rfl rfl rfl rfl rfl (Nat.le_of_ble_eq_true rfl) rfl dX5_happens_133 (pc2 := 136) rfl ?_
            refine pk_aload_n C 2 dX5_happens_136 rfl rfl (pc2 := 137) rfl ?_
            refine pk_get (v := .long n2_) C i5_ (pw_atX 0 rfl) (ci := 5) rfl 21 (by decide) w6_ rfl rfl dX5_happens_137 (pc2 := 140) rfl ?_
            refine pk_aload_n C 2 dX5_happens_140 rfl rfl (pc2 := 141) rfl ?_
            refine pk_dV (cx := (mX (zG Z) m rf (M_mk (M_cd c) (M_pt c) (M_mn c) (M_ev c) (M_co c) (M_al c) (M_re c) (M_lo c) n2_ n16_ (M_he c) (M_go c) (M_sp c) (M_ba c) (M_le c) (M_lf c) (M_mo c) (M_un c) (M_ch c) (M_lc c) (M_ac c) (M_bd c)) T)) (wr := []) (X2 := (mX (zG Z) m rf (M_mk (M_cd c) (M_pt c) (M_mn c) (M_ev c) (M_co c) (M_al c) (M_re c) (M_lo c) n2_ n16_ (M_he c) (M_go c) (M_sp c) (M_ba c) (M_le c) (M_lf c) (M_mo c) (M_un c) (M_ch c) (M_lc c) (M_ac c) (M_bd c)) T)) (st := [.long n2_]) (st2 := [.long (m_X5_book (M_mk (M_cd c) (M_pt c) (M_mn c) (M_ev c) (M_co c) (M_al c) (M_re c) (M_lo c) n2_ n16_ (M_he c) (M_go c) (M_sp c) (M_ba c) (M_le c) (M_lf c) (M_mo c) (M_un c) (M_ch c) (M_lc c) (M_ac c) (M_bd c)) T), .long n2_]) (As := []) C (c_X5_book (zl Z) (zG Z) L F m rf (M_mk (M_cd c) (M_pt c) (M_mn c) (M_ev c) (M_co c) (M_al c) (M_re c) (M_lo c) n2_ n16_ (M_he c) (M_go c) (M_sp c) (M_ba c) (M_le c) (M_lf c) (M_mo c) (M_un c) (M_ch c) (M_lc c) (M_ac c) (M_bd c)) T) gX5_happens_X5_book rfl rfl rfl 0 (by decide +kernel) ⟨Nat.le_of_ble_eq_true rfl, Nat.le_of_ble_eq_true rfl⟩ (pw_atX 0 rfl) rfl rfl rfl (Nat.le_of_ble_eq_true rfl) ⟨Nat.le_of_ble_eq_true rfl, Nat.le_of_ble_eq_true rfl⟩ [0, 1, 2, 3, 4, 5, 6, 7, 8, 9, 10, 11, 12, 13, 14, 15] [] [0, 1, 2, 3, 4, 5, 6, 7, 8, 9, 10, 11, 12, 13, 14, 15] rfl rfl rfl rfl (by decide) rfl rfl dX5_happens_141 (pc2 := 144) rfl rfl ?_
            refine pk_topl (fun n17_ en17_ => ?_)
            refine pk_lcmp_gt (tgt := 152) C dX5_happens_144 dX5_happens_145 (pc1 := 145) rfl (by decide) (pc2 := 148) rfl (fun h19_ => ?_) (fun h19_ => ?_)
            ·
              refine pk_iconst (v := 0) C dX5_happens_152 (by decide) (pc2 := 153) rfl ?_
              subst en1_ en2_ en16_ en17_
              exact pr_int (ty := .boolean) C hE rfl rfl (po_d_rfl (by first | with_reducible rfl | (unfold m_X5_happens; rw [if_pos h1_, if_neg h2_, if_neg h13_, if_pos h14_, if_neg h15_, if_pos h18_, if_pos h19_])) (by first | with_reducible rfl | (unfold m_X5_happens; rw [if_pos h1_, if_neg h2_, if_neg h13_, if_pos h14_, if_neg h15_, if_pos h18_, if_pos h19_]))) dX5_happens_153
            ·
              refine pk_iconst (v := 1) C dX5_happens_148 (by decide) (pc2 := 149) rfl ?_
              refine pk_goto (tgt := 153) C dX5_happens_149 (by decide) ?_
              subst en1_ en2_ en16_ en17_
              exact pr_int (ty := .boolean) C hE rfl rfl (po_d_rfl (by first | with_reducible rfl | (unfold m_X5_happens; rw [if_pos h1_, if_neg h2_, if_neg h13_, if_pos h14_, if_neg h15_, if_pos h18_, if_neg h19_])) (by first | with_reducible rfl | (unfold m_X5_happens; rw [if_pos h1_, if_neg h2_, if_neg h13_, if_pos h14_, if_neg h15_, if_pos h18_, if_neg h19_]))) dX5_happens_153
          by_cases h20_ : n1_ = 2
          ·
            refine pk_tableIn (tgt := 154) C dX5_happens_43 (by rw [h20_]; decide) (by rw [h20_]; decide) (by rw [h20_]; first | done | rfl) (by decide) ?_
            refine pk_aload_n C 2 dX5_happens_154 rfl rfl (pc2 := 155) rfl ?_
            refine pk_lload C 0 dX5_happens_155 rfl (pc2 := 157) rfl ?_
            refine pk_dV (cx := (mX (zG Z) m rf c T)) (wr := []) (X2 := (mX (zG Z) m rf (m_X5_values c T n2_) T)) (st := []) (st2 := []) (As := [.long n2_]) C (c_X5_values (zl Z) (zG Z) L F m rf c T n2_) gX5_happens_X5_values rfl rfl rfl 1 (by decide +kernel) ⟨Nat.le_of_ble_eq_true rfl, Nat.le_of_ble_eq_true rfl⟩ (pw_atX 0 rfl) rfl rfl rfl (Nat.le_of_ble_eq_true rfl) ⟨Nat.le_of_ble_eq_true rfl, Nat.le_of_ble_eq_true rfl⟩ [0, 1, 2, 3, 4, 5, 6, 7, 8, 9, 10, 11, 12, 13, 14, 15] [] [0, 1, 2, 3, 4, 5, 6, 7, 8, 9, 10, 11, 12, 13, 14, 15] rfl rfl rfl rfl (by decide) rfl rfl dX5_happens_157 (pc2 := 160) rfl rfl ?_
            generalize en18_ : (m_X5_values c T n2_) = n18_
            refine pk_iconst (v := 1) C dX5_happens_160 (by decide) (pc2 := 161) rfl ?_
            subst en1_ en2_ en18_
            exact pr_int (ty := .boolean) C hE rfl rfl (po_d_rfl (by first | with_reducible rfl | (unfold m_X5_happens; rw [if_pos h1_, if_neg h2_, if_neg h13_, if_pos h14_, if_neg h15_, if_neg h18_, if_pos h20_])) (by first | with_reducible rfl | (unfold m_X5_happens; rw [if_pos h1_, if_neg h2_, if_neg h13_, if_pos h14_, if_neg h15_, if_neg h18_, if_pos h20_]))) dX5_happens_161
          by_cases h21_ : n1_ = 3
          ·
            refine pk_tableIn (tgt := 162) C dX5_happens_43 (by rw [h21_]; decide) (by rw [h21_]; decide) (by rw [h21_]; first | done | rfl) (by decide) ?_
            refine pk_aload_n C 2 dX5_happens_162 rfl rfl (pc2 := 163) rfl ?_
            refine pk_lload C 0 dX5_happens_163 rfl (pc2 := 165) rfl ?_
            refine pk_dV (cx := (mX (zG Z) m rf c T)) (wr := []) (X2 := (mX (zG Z) m rf ((m_X5_impairs c T n2_).2) T)) (st := []) (st2 := [.int ((m_X5_impairs c T n2_).1)]) (As := [.long n2_]) C (c_X5_impairs (zl Z) (zG Z) L F m rf c T n2_) gX5_happens_X5_impairs rfl rfl rfl 1 (by decide +kernel) ⟨Nat.le_of_ble_eq_true rfl, Nat.le_of_ble_eq_true rfl⟩ (pw_atX 0 rfl) rfl rfl rfl (Nat.le_of_ble_eq_true rfl) ⟨Nat.le_of_ble_eq_true rfl, Nat.le_of_ble_eq_true rfl⟩ [0, 1, 2, 3, 4, 5, 6, 7, 8, 9, 10, 11, 12, 13, 14, 15] [] [0, 1, 2, 3, 4, 5, 6, 7, 8, 9, 10, 11, 12, 13, 14, 15] rfl rfl rfl rfl (by decide) rfl rfl dX5_happens_165 (pc2 := 168) rfl rfl ?_
            generalize en19_ : ((m_X5_impairs c T n2_).2) = n19_
            refine pk_topi (fun n20_ en20_ => ?_)
            subst en1_ en2_ en19_ en20_
            exact pr_int (ty := .boolean) C hE rfl (zb_n (zb_m_X5_impairs _ _ _)) (po_d_rfl (by first | with_reducible rfl | (unfold m_X5_happens; rw [if_pos h1_, if_neg h2_, if_neg h13_, if_pos h14_, if_neg h15_, if_neg h18_, if_neg h20_, if_pos h21_])) (by first | with_reducible rfl | (unfold m_X5_happens; rw [if_pos h1_, if_neg h2_, if_neg h13_, if_pos h14_, if_neg h15_, if_neg h18_, if_neg h20_, if_pos h21_]))) dX5_happens_168
          by_cases h22_ : n1_ = 4
          ·
            refine pk_tableIn (tgt := 169) C dX5_happens_43 (by rw [h22_]; decide) (by rw [h22_]; decide) (by rw [h22_]; first | done | rfl) (by decide) ?_
            refine pk_aload_n C 2 dX5_happens_169 rfl rfl (pc2 := 170) rfl ?_
            refine pk_lload C 0 dX5_happens_170 rfl (pc2 := 172) rfl ?_
            refine pk_iload_n C 4 dX5_happens_172 rfl rfl (pc2 := 173) rfl ?_
            refine pk_dV (cx := (mX (zG Z) m rf c T)) (wr := []) (X2 := (mX (zG Z) m rf ((m_X5_restores c T n2_ mm).2) T)) (st := []) (st2 := [.int ((m_X5_restores c T n2_ mm).1)]) (As := [.long n2_, .int mm]) C (c_X5_restores (zl Z) (zG Z) L F m rf c T n2_ mm hm) gX5_happens_X5_restores rfl rfl rfl 2 (by decide +kernel) ⟨Nat.le_of_ble_eq_true rfl, Nat.le_of_ble_eq_true rfl⟩ (pw_atX 0 rfl) rfl rfl rfl (Nat.le_of_ble_eq_true rfl) ⟨Nat.le_of_ble_eq_true rfl, Nat.le_of_ble_eq_true rfl⟩ [0, 1, 2, 3, 4, 5, 6, 7, 8, 9, 10, 11, 12, 13, 14, 15] [] [0, 1, 2, 3, 4, 5, 6, 7, 8, 9, 10, 11, 12, 13, 14, 15] rfl rfl rfl rfl (by decide) rfl rfl dX5_happens_173 (pc2 := 176) rfl rfl ?_
            generalize en21_ : ((m_X5_restores c T n2_ mm).2) = n21_
            refine pk_topi (fun n22_ en22_ => ?_)
            subst en1_ en2_ en21_ en22_
            exact pr_int (ty := .boolean) C hE rfl (zb_n (zb_m_X5_restores _ _ _ _)) (po_d_rfl (by first | with_reducible rfl | (unfold m_X5_happens; rw [if_pos h1_, if_neg h2_, if_neg h13_, if_pos h14_, if_neg h15_, if_neg h18_, if_neg h20_, if_neg h21_, if_pos h22_])) (by first | with_reducible rfl | (unfold m_X5_happens; rw [if_pos h1_, if_neg h2_, if_neg h13_, if_pos h14_, if_neg h15_, if_neg h18_, if_neg h20_, if_neg h21_, if_pos h22_]))) dX5_happens_176
          by_cases h23_ : n1_ = 6
          ·
            refine pk_tableIn (tgt := 189) C dX5_happens_43 (by rw [h23_]; decide) (by rw [h23_]; decide) (by rw [h23_]; first | done | rfl) (by decide) ?_
            refine pk_aload_n C 2 dX5_happens_189 rfl rfl (pc2 := 190) rfl ?_
            refine pk_iconst (v := 1) C dX5_happens_190 (by decide) (pc2 := 191) rfl ?_
            refine pk_putX (X' := (mX (zG Z) m rf (M_mk (M_cd c) (M_pt c) (M_mn c) (M_ev c) (M_co c) (M_al c) (M_re c) (M_lo c) (M_rs c) (M_li c) 1 (M_go c) (M_sp c) (M_ba c) (M_le c) (M_lf c) (M_mo c) (M_un c) (M_ch c) (M_lc c) (M_ac c) (M_bd c)) T)) C i5_ tyX5_ok nmX5 0 rfl (ci := 5) rfl 23 (by decide) w3_ rfl rfl rfl rfl rfl (Nat.le_of_ble_eq_true rfl) rfl dX5_happens_191 (pc2 := 194) rfl ?_
            refine pk_iconst (v := 1) C dX5_happens_194 (by decide) (pc2 := 195) rfl ?_
            subst en1_ en2_
            exact pr_int (ty := .boolean) C hE rfl rfl (po_d_rfl (by first | with_reducible rfl | (unfold m_X5_happens; rw [if_pos h1_, if_neg h2_, if_neg h13_, if_pos h14_, if_neg h15_, if_neg h18_, if_neg h20_, if_neg h21_, if_neg h22_, if_pos h23_])) (by first | with_reducible rfl | (unfold m_X5_happens; rw [if_pos h1_, if_neg h2_, if_neg h13_, if_pos h14_, if_neg h15_, if_neg h18_, if_neg h20_, if_neg h21_, if_neg h22_, if_pos h23_]))) dX5_happens_195
          refine pk_tableOut (tgt := 196) C dX5_happens_43 (sw_6 h15_ h18_ h20_ h21_ h22_ h13_ h23_) (by decide) ?_
          refine pk_aload_n C 2 dX5_happens_196 rfl rfl (pc2 := 197) rfl ?_
          refine pk_get (v := .int (M_he c)) C i5_ (pw_atX 0 rfl) (ci := 5) rfl 23 (by decide) w3_ rfl rfl dX5_happens_197 (pc2 := 200) rfl ?_
          refine pk_istore (lv' := [(6, .int (M_he c)), (4, .long n2_), (3, .int n1_), (0, .ref m), (1, .int e), (2, .int mm)]) C dX5_happens_200 (by decide) rfl (pc2 := 202) rfl ?_
          refine pk_aload_n C 3 dX5_happens_202 rfl rfl (pc2 := 203) rfl ?_
          refine pk_iconst (v := 0) C dX5_happens_203 (by decide) (pc2 := 204) rfl ?_
          refine pk_putX (X' := (mX (zG Z) m rf (M_mk (M_cd c) (M_pt c) (M_mn c) (M_ev c) (M_co c) (M_al c) (M_re c) (M_lo c) (M_rs c) (M_li c) 0 (M_go c) (M_sp c) (M_ba c) (M_le c) (M_lf c) (M_mo c) (M_un c) (M_ch c) (M_lc c) (M_ac c) (M_bd c)) T)) C i5_ tyX5_ok nmX5 0 rfl (ci := 5) rfl 23 (by decide) w3_ rfl rfl rfl rfl rfl (Nat.le_of_ble_eq_true rfl) rfl dX5_happens_204 (pc2 := 207) rfl ?_
          refine pk_iload C 0 dX5_happens_207 rfl (pc2 := 209) rfl ?_
          subst en1_ en2_
          exact pr_int (ty := .boolean) C hE rfl (zb_n (by assumption)) (po_d_rfl (by first | with_reducible rfl | (unfold m_X5_happens; rw [if_pos h1_, if_neg h2_, if_neg h13_, if_pos h14_, if_neg h15_, if_neg h18_, if_neg h20_, if_neg h21_, if_neg h22_, if_neg h23_])) (by first | with_reducible rfl | (unfold m_X5_happens; rw [if_pos h1_, if_neg h2_, if_neg h13_, if_pos h14_, if_neg h15_, if_neg h18_, if_neg h20_, if_neg h21_, if_neg h22_, if_neg h23_]))) dX5_happens_209
        ·
          refine pk_iconst (v := 0) C dX5_happens_40 (by decide) (pc2 := 41) rfl ?_
          subst en1_ en2_
          exact pr_int (ty := .boolean) C hE rfl rfl (po_d_rfl (by first | with_reducible rfl | (unfold m_X5_happens; rw [if_pos h1_, if_neg h2_, if_neg h13_, if_neg h14_])) (by first | with_reducible rfl | (unfold m_X5_happens; rw [if_pos h1_, if_neg h2_, if_neg h13_, if_neg h14_]))) dX5_happens_41
theorem zb_m_X5_happens (c : MR) (T : TR) (e : Int32) (mm : Int32) (hhe : M_he c = 0 ∨ M_he c = 1) : (m_X5_happens c T e mm).1 = 0 ∨ (m_X5_happens c T e mm).1 = 1 := by
  unfold m_X5_happens
  repeat (first | split | (exact Or.inl rfl) | (exact Or.inr rfl) | assumption | (exact (zb_m_X5_impairs _ _ _)) | (exact (zb_m_X5_restores _ _ _ _)))
def m_X5_together (c : MR) (T : TR) (p : Int32) : Int64 :=
  if ((T_me T) (Int32.toNatClampNeg p)) = 0 then (m_X5_rounded ((M_ba c) * (Int32.toInt64 (M_mo c))) (Int32.toInt64 (M_le c))) else if ((T_me T) (Int32.toNatClampNeg p)) = 2 then (m_X5_rounded ((M_ba c) * (((Int32.toInt64 (M_mo c)) * (Int32.toInt64 (M_le c))) - (((Int32.toInt64 (M_mo c)) * (Int32.toInt64 ((M_mo c) - 1))) / (2)))) (((Int32.toInt64 (M_le c)) * (Int32.toInt64 ((M_le c) + 1))) / (2))) else if (M_lf c) ≤ (M_un c) then if (M_lf c) = 0 then (M_ba c) else (m_X5_rounded ((M_ba c) * (Int32.toInt64 (M_lf c))) (Int32.toInt64 (M_lf c))) else if (M_lf c) = 0 then (M_ba c) else (m_X5_rounded ((M_ba c) * (Int32.toInt64 (M_un c))) (Int32.toInt64 (M_lf c)))
set_option maxRecDepth 100000 in
set_option maxHeartbeats 2000000 in
theorem c_X5_together (l : Launch) (G : pw_G) (L : List Nat) (F : Nat → va_E) (m : Nat) (rf : Nat → Nat) (c : MR) (T : TR) (p : Int32) (hp : vp_in p 6) (hle : 1 ≤ (M_le c).toInt ∧ (M_le c).toInt ≤ 36) : PM l yX5_together wsX5_together ⟨1, 0, 0, 23⟩ G [.ref m, .int p] (mX G m rf c T) L F 0 0 (po_d (some (.long (m_X5_together c T p))) (mX G m rf c T) L F) := by
  refine pm_entry (by decide) rfl rfl (Nat.le_of_ble_eq_true rfl) ?_
  intro Z Q C hl0 hG0 hnm hE
  subst hl0
  subst hG0
  have i5_ : ∀ w ∈ wsX50, w ∈ wsX5_together := by decide +kernel
  have w0_ : Cond.fieldLink RX5 23 "AgedAssetsModel" "methods" "[I" ∈ wsX5_together := by decide +kernel
  have w1_ : Cond.fieldLink RX5 100 "AgedAssetsModel" "stretchUnits" "I" ∈ wsX5_together := by decide +kernel
  have w2_ : Cond.fieldLink RX5 94 "AgedAssetsModel" "left" "I" ∈ wsX5_together := by decide +kernel
  have w3_ : Cond.fieldLink RX5 82 "AgedAssetsModel" "base" "J" ∈ wsX5_together := by decide +kernel
  have w4_ : Cond.fieldLink RX5 97 "AgedAssetsModel" "charged" "I" ∈ wsX5_together := by decide +kernel
  have w5_ : Cond.fieldLink RX5 88 "AgedAssetsModel" "length" "I" ∈ wsX5_together := by decide +kernel
  have w6_ : Cond.constantLong RX5 60 (2) ∈ wsX5_together := by decide +kernel
  show PW Z (mX (zG Z) m rf c T) L F 0 0 Q 0 [(0, .ref m), (1, .int p)] []
  refine pk_aload_n C 0 dX5_together_0 rfl rfl (pc2 := 1) rfl ?_
  refine pk_get (v := .ref (rf 4)) C i5_ (pw_atX 0 rfl) (ci := 5) rfl 6 (by decide) w0_ rfl rfl dX5_together_1 (pc2 := 4) rfl ?_
  refine pk_iload_n C 1 dX5_together_4 rfl rfl (pc2 := 5) rfl ?_
  refine pk_iald (v := ((T_me T) (Int32.toNatClampNeg p))) C (pw_atX 5 rfl) hp rfl dX5_together_5 (pc2 := 6) rfl ?_
  refine pk_if_ne (tgt := 28) C dX5_together_6 (by decide) (pc2 := 9) rfl (fun h1_ => ?_) (fun h1_ => ?_)
  ·
    refine pk_aload_n C 0 dX5_together_28 rfl rfl (pc2 := 29) rfl ?_
    refine pk_get (v := .ref (rf 4)) C i5_ (pw_atX 0 rfl) (ci := 5) rfl 6 (by decide) w0_ rfl rfl dX5_together_29 (pc2 := 32) rfl ?_
    refine pk_iload_n C 1 dX5_together_32 rfl rfl (pc2 := 33) rfl ?_
    refine pk_iald (v := ((T_me T) (Int32.toNatClampNeg p))) C (pw_atX 5 rfl) hp rfl dX5_together_33 (pc2 := 34) rfl ?_
    refine pk_iconst (v := 2) C dX5_together_34 (by decide) (pc2 := 35) rfl ?_
    refine pk_icmp_ne (tgt := 95) C dX5_together_35 (by decide) (pc2 := 38) rfl (fun h2_ => ?_) (fun h2_ => ?_)
    ·
      refine pk_aload_n C 0 dX5_together_95 rfl rfl (pc2 := 96) rfl ?_
      refine pk_get (v := .int (M_un c)) C i5_ (pw_atX 0 rfl) (ci := 5) rfl 30 (by decide) w1_ rfl rfl dX5_together_96 (pc2 := 99) rfl ?_
      refine pk_aload_n C 0 dX5_together_99 rfl rfl (pc2 := 100) rfl ?_
      refine pk_get (v := .int (M_lf c)) C i5_ (pw_atX 0 rfl) (ci := 5) rfl 28 (by decide) w2_ rfl rfl dX5_together_100 (pc2 := 103) rfl ?_
      refine pk_icmp_ge (tgt := 113) C dX5_together_103 (by decide) (pc2 := 106) rfl (fun h3_ => ?_) (fun h3_ => ?_)
      ·
        refine pk_aload_n C 0 dX5_together_113 rfl rfl (pc2 := 114) rfl ?_
        refine pk_get (v := .int (M_lf c)) C i5_ (pw_atX 0 rfl) (ci := 5) rfl 28 (by decide) w2_ rfl rfl dX5_together_114 (pc2 := 117) rfl ?_
        refine pk_istore_n (lv' := [(2, .int (M_lf c)), (0, .ref m), (1, .int p)]) C dX5_together_117 rfl (by decide) rfl (pc2 := 118) rfl ?_
        refine pk_aload_n C 1 dX5_together_118 rfl rfl (pc2 := 119) rfl ?_
        refine pk_get (v := .int (M_lf c)) C i5_ (pw_atX 0 rfl) (ci := 5) rfl 28 (by decide) w2_ rfl rfl dX5_together_119 (pc2 := 122) rfl ?_
        refine pk_if_ne (tgt := 132) C dX5_together_122 (by decide) (pc2 := 125) rfl (fun h4_ => ?_) (fun h4_ => ?_)
        ·
          refine pk_aload_n C 1 dX5_together_132 rfl rfl (pc2 := 133) rfl ?_
          refine pk_get (v := .long (M_ba c)) C i5_ (pw_atX 0 rfl) (ci := 5) rfl 26 (by decide) w3_ rfl rfl dX5_together_133 (pc2 := 136) rfl ?_
          refine pk_iload_n C 0 dX5_together_136 rfl rfl (pc2 := 137) rfl ?_
          refine pk_i2l C dX5_together_137 (pc2 := 138) rfl ?_
          refine pk_lmul C dX5_together_138 (pc2 := 139) rfl ?_
          refine pk_aload_n C 1 dX5_together_139 rfl rfl (pc2 := 140) rfl ?_
          refine pk_get (v := .int (M_lf c)) C i5_ (pw_atX 0 rfl) (ci := 5) rfl 28 (by decide) w2_ rfl rfl dX5_together_140 (pc2 := 143) rfl ?_
          refine pk_i2l C dX5_together_143 (pc2 := 144) rfl ?_
          refine pk_dS (cx := []) (wr := (mX (zG Z) m rf c T)) (X2 := (mX (zG Z) m rf c T)) (st := []) (st2 := [.long (m_X5_rounded ((M_ba c) * (Int32.toInt64 (M_lf c))) (Int32.toInt64 (M_lf c)))]) (As := [.long ((M_ba c) * (Int32.toInt64 (M_lf c))), .long (Int32.toInt64 (M_lf c))]) C (c_X5_rounded (zl Z) (zG Z) L F ((M_ba c) * (Int32.toInt64 (M_lf c))) (Int32.toInt64 (M_lf c)) (ld_i h4_)) gX5_together_X5_rounded rfl rfl rfl 2 (by decide +kernel) ⟨Nat.le_of_ble_eq_true rfl, Nat.le_of_ble_eq_true rfl⟩ rfl rfl (Nat.le_of_ble_eq_true rfl) ⟨Nat.le_of_ble_eq_true rfl, Nat.le_of_ble_eq_true rfl⟩ [] [0, 1, 2, 3, 4, 5, 6, 7, 8, 9, 10, 11, 12, 13, 14, 15] [0, 1, 2, 3, 4, 5, 6, 7, 8, 9, 10, 11, 12, 13, 14, 15] rfl rfl rfl rfl (by decide) rfl rfl dX5_together_144 (pc2 := 147) rfl rfl ?_
          refine pk_topl (fun n1_ en1_ => ?_)
          subst en1_
          exact pr_long C hE (po_d_rfl (by first | with_reducible rfl | (unfold m_X5_together; rw [if_neg h1_, if_neg h2_, if_pos h3_, if_neg h4_])) (by first | with_reducible rfl | (unfold m_X5_together; rw [if_neg h1_, if_neg h2_, if_pos h3_, if_neg h4_]))) dX5_together_147
        ·
          refine pk_aload_n C 1 dX5_together_125 rfl rfl (pc2 := 126) rfl ?_
          refine pk_get (v := .long (M_ba c)) C i5_ (pw_atX 0 rfl) (ci := 5) rfl 26 (by decide) w3_ rfl rfl dX5_together_126 (pc2 := 129) rfl ?_
          refine pk_goto (tgt := 147) C dX5_together_129 (by decide) ?_
          exact pr_long C hE (po_d_rfl (by first | with_reducible rfl | (unfold m_X5_together; rw [if_neg h1_, if_neg h2_, if_pos h3_, if_pos h4_])) (by first | with_reducible rfl | (unfold m_X5_together; rw [if_neg h1_, if_neg h2_, if_pos h3_, if_pos h4_]))) dX5_together_147
      ·
        refine pk_aload_n C 0 dX5_together_106 rfl rfl (pc2 := 107) rfl ?_
        refine pk_get (v := .int (M_un c)) C i5_ (pw_atX 0 rfl) (ci := 5) rfl 30 (by decide) w1_ rfl rfl dX5_together_107 (pc2 := 110) rfl ?_
        refine pk_goto (tgt := 117) C dX5_together_110 (by decide) ?_
        refine pk_istore_n (lv' := [(2, .int (M_un c)), (0, .ref m), (1, .int p)]) C dX5_together_117 rfl (by decide) rfl (pc2 := 118) rfl ?_
        refine pk_aload_n C 1 dX5_together_118 rfl rfl (pc2 := 119) rfl ?_
        refine pk_get (v := .int (M_lf c)) C i5_ (pw_atX 0 rfl) (ci := 5) rfl 28 (by decide) w2_ rfl rfl dX5_together_119 (pc2 := 122) rfl ?_
        refine pk_if_ne (tgt := 132) C dX5_together_122 (by decide) (pc2 := 125) rfl (fun h5_ => ?_) (fun h5_ => ?_)
        ·
          refine pk_aload_n C 1 dX5_together_132 rfl rfl (pc2 := 133) rfl ?_
          refine pk_get (v := .long (M_ba c)) C i5_ (pw_atX 0 rfl) (ci := 5) rfl 26 (by decide) w3_ rfl rfl dX5_together_133 (pc2 := 136) rfl ?_
          refine pk_iload_n C 0 dX5_together_136 rfl rfl (pc2 := 137) rfl ?_
          refine pk_i2l C dX5_together_137 (pc2 := 138) rfl ?_
          refine pk_lmul C dX5_together_138 (pc2 := 139) rfl ?_
          refine pk_aload_n C 1 dX5_together_139 rfl rfl (pc2 := 140) rfl ?_
          refine pk_get (v := .int (M_lf c)) C i5_ (pw_atX 0 rfl) (ci := 5) rfl 28 (by decide) w2_ rfl rfl dX5_together_140 (pc2 := 143) rfl ?_
          refine pk_i2l C dX5_together_143 (pc2 := 144) rfl ?_
          refine pk_dS (cx := []) (wr := (mX (zG Z) m rf c T)) (X2 := (mX (zG Z) m rf c T)) (st := []) (st2 := [.long (m_X5_rounded ((M_ba c) * (Int32.toInt64 (M_un c))) (Int32.toInt64 (M_lf c)))]) (As := [.long ((M_ba c) * (Int32.toInt64 (M_un c))), .long (Int32.toInt64 (M_lf c))]) C (c_X5_rounded (zl Z) (zG Z) L F ((M_ba c) * (Int32.toInt64 (M_un c))) (Int32.toInt64 (M_lf c)) (ld_i h5_)) gX5_together_X5_rounded rfl rfl rfl 2 (by decide +kernel) ⟨Nat.le_of_ble_eq_true rfl, Nat.le_of_ble_eq_true rfl⟩ rfl rfl (Nat.le_of_ble_eq_true rfl) ⟨Nat.le_of_ble_eq_true rfl, Nat.le_of_ble_eq_true rfl⟩ [] [0, 1, 2, 3, 4, 5, 6, 7, 8, 9, 10, 11, 12, 13, 14, 15] [0, 1, 2, 3, 4, 5, 6, 7, 8, 9, 10, 11, 12, 13, 14, 15] rfl rfl rfl rfl (by decide) rfl rfl dX5_together_144 (pc2 := 147) rfl rfl ?_
          refine pk_topl (fun n2_ en2_ => ?_)
          subst en2_
          exact pr_long C hE (po_d_rfl (by first | with_reducible rfl | (unfold m_X5_together; rw [if_neg h1_, if_neg h2_, if_neg h3_, if_neg h5_])) (by first | with_reducible rfl | (unfold m_X5_together; rw [if_neg h1_, if_neg h2_, if_neg h3_, if_neg h5_]))) dX5_together_147
        ·
          refine pk_aload_n C 1 dX5_together_125 rfl rfl (pc2 := 126) rfl ?_
          refine pk_get (v := .long (M_ba c)) C i5_ (pw_atX 0 rfl) (ci := 5) rfl 26 (by decide) w3_ rfl rfl dX5_together_126 (pc2 := 129) rfl ?_
          refine pk_goto (tgt := 147) C dX5_together_129 (by decide) ?_
          exact pr_long C hE (po_d_rfl (by first | with_reducible rfl | (unfold m_X5_together; rw [if_neg h1_, if_neg h2_, if_neg h3_, if_pos h5_])) (by first | with_reducible rfl | (unfold m_X5_together; rw [if_neg h1_, if_neg h2_, if_neg h3_, if_pos h5_]))) dX5_together_147
    ·
      refine pk_aload_n C 0 dX5_together_38 rfl rfl (pc2 := 39) rfl ?_
      refine pk_get (v := .int (M_mo c)) C i5_ (pw_atX 0 rfl) (ci := 5) rfl 29 (by decide) w4_ rfl rfl dX5_together_39 (pc2 := 42) rfl ?_
      refine pk_i2l C dX5_together_42 (pc2 := 43) rfl ?_
      refine pk_aload_n C 0 dX5_together_43 rfl rfl (pc2 := 44) rfl ?_
      refine pk_get (v := .int (M_le c)) C i5_ (pw_atX 0 rfl) (ci := 5) rfl 27 (by decide) w5_ rfl rfl dX5_together_44 (pc2 := 47) rfl ?_
      refine pk_i2l C dX5_together_47 (pc2 := 48) rfl ?_
      refine pk_lmul C dX5_together_48 (pc2 := 49) rfl ?_
      refine pk_aload_n C 0 dX5_together_49 rfl rfl (pc2 := 50) rfl ?_
      refine pk_get (v := .int (M_mo c)) C i5_ (pw_atX 0 rfl) (ci := 5) rfl 29 (by decide) w4_ rfl rfl dX5_together_50 (pc2 := 53) rfl ?_
      refine pk_i2l C dX5_together_53 (pc2 := 54) rfl ?_
      refine pk_aload_n C 0 dX5_together_54 rfl rfl (pc2 := 55) rfl ?_
      refine pk_get (v := .int (M_mo c)) C i5_ (pw_atX 0 rfl) (ci := 5) rfl 29 (by decide) w4_ rfl rfl dX5_together_55 (pc2 := 58) rfl ?_
      refine pk_iconst (v := 1) C dX5_together_58 (by decide) (pc2 := 59) rfl ?_
      refine pk_isub C dX5_together_59 (pc2 := 60) rfl ?_
      refine pk_i2l C dX5_together_60 (pc2 := 61) rfl ?_
      refine pk_lmul C dX5_together_61 (pc2 := 62) rfl ?_
      refine pk_ldc2 C w6_ dX5_together_62 (pc2 := 65) rfl ?_
      refine pk_ldiv C dX5_together_65 (by decide) (pc2 := 66) rfl ?_
      refine pk_lsub C dX5_together_66 (pc2 := 67) rfl ?_
      refine pk_topl (fun n3_ en3_ => ?_)
      refine pk_lstore_n (lv' := [(2, .long n3_), (0, .ref m), (1, .int p)]) C dX5_together_67 rfl (by decide) rfl (pc2 := 68) rfl ?_
      refine pk_aload_n C 1 dX5_together_68 rfl rfl (pc2 := 69) rfl ?_
      refine pk_get (v := .long (M_ba c)) C i5_ (pw_atX 0 rfl) (ci := 5) rfl 26 (by decide) w3_ rfl rfl dX5_together_69 (pc2 := 72) rfl ?_
      refine pk_lload_n C 0 dX5_together_72 rfl rfl (pc2 := 73) rfl ?_
      refine pk_lmul C dX5_together_73 (pc2 := 74) rfl ?_
      refine pk_aload_n C 1 dX5_together_74 rfl rfl (pc2 := 75) rfl ?_
      refine pk_get (v := .int (M_le c)) C i5_ (pw_atX 0 rfl) (ci := 5) rfl 27 (by decide) w5_ rfl rfl dX5_together_75 (pc2 := 78) rfl ?_
      refine pk_i2l C dX5_together_78 (pc2 := 79) rfl ?_
      refine pk_aload_n C 1 dX5_together_79 rfl rfl (pc2 := 80) rfl ?_
      refine pk_get (v := .int (M_le c)) C i5_ (pw_atX 0 rfl) (ci := 5) rfl 27 (by decide) w5_ rfl rfl dX5_together_80 (pc2 := 83) rfl ?_
      refine pk_iconst (v := 1) C dX5_together_83 (by decide) (pc2 := 84) rfl ?_
      refine pk_iadd C dX5_together_84 (pc2 := 85) rfl ?_
      refine pk_i2l C dX5_together_85 (pc2 := 86) rfl ?_
      refine pk_lmul C dX5_together_86 (pc2 := 87) rfl ?_
      refine pk_ldc2 C w6_ dX5_together_87 (pc2 := 90) rfl ?_
      refine pk_ldiv C dX5_together_90 (by decide) (pc2 := 91) rfl ?_
      refine pk_dS (cx := []) (wr := (mX (zG Z) m rf c T)) (X2 := (mX (zG Z) m rf c T)) (st := []) (st2 := [.long (m_X5_rounded ((M_ba c) * n3_) (((Int32.toInt64 (M_le c)) * (Int32.toInt64 ((M_le c) + 1))) / (2)))]) (As := [.long ((M_ba c) * n3_), .long (((Int32.toInt64 (M_le c)) * (Int32.toInt64 ((M_le c) + 1))) / (2))]) C (c_X5_rounded (zl Z) (zG Z) L F ((M_ba c) * n3_) (((Int32.toInt64 (M_le c)) * (Int32.toInt64 ((M_le c) + 1))) / (2)) (ld_t hle)) gX5_together_X5_rounded rfl rfl rfl 2 (by decide +kernel) ⟨Nat.le_of_ble_eq_true rfl, Nat.le_of_ble_eq_true rfl⟩ rfl rfl (Nat.le_of_ble_eq_true rfl) ⟨Nat.le_of_ble_eq_true rfl, Nat.le_of_ble_eq_true rfl⟩ [] [0, 1, 2, 3, 4, 5, 6, 7, 8, 9, 10, 11, 12, 13, 14, 15] [0, 1, 2, 3, 4, 5, 6, 7, 8, 9, 10, 11, 12, 13, 14, 15] rfl rfl rfl rfl (by decide) rfl rfl dX5_together_91 (pc2 := 94) rfl rfl ?_
      refine pk_topl (fun n4_ en4_ => ?_)
      subst en3_ en4_
      exact pr_long C hE (po_d_rfl (by first | with_reducible rfl | (unfold m_X5_together; rw [if_neg h1_, if_pos h2_])) (by first | with_reducible rfl | (unfold m_X5_together; rw [if_neg h1_, if_pos h2_]))) dX5_together_94
  ·
    refine pk_aload_n C 0 dX5_together_9 rfl rfl (pc2 := 10) rfl ?_
    refine pk_get (v := .long (M_ba c)) C i5_ (pw_atX 0 rfl) (ci := 5) rfl 26 (by decide) w3_ rfl rfl dX5_together_10 (pc2 := 13) rfl ?_
    refine pk_aload_n C 0 dX5_together_13 rfl rfl (pc2 := 14) rfl ?_
    refine pk_get (v := .int (M_mo c)) C i5_ (pw_atX 0 rfl) (ci := 5) rfl 29 (by decide) w4_ rfl rfl dX5_together_14 (pc2 := 17) rfl ?_
    refine pk_i2l C dX5_together_17 (pc2 := 18) rfl ?_
    refine pk_lmul C dX5_together_18 (pc2 := 19) rfl ?_
    refine pk_aload_n C 0 dX5_together_19 rfl rfl (pc2 := 20) rfl ?_
    refine pk_get (v := .int (M_le c)) C i5_ (pw_atX 0 rfl) (ci := 5) rfl 27 (by decide) w5_ rfl rfl dX5_together_20 (pc2 := 23) rfl ?_
    refine pk_i2l C dX5_together_23 (pc2 := 24) rfl ?_
    refine pk_dS (cx := []) (wr := (mX (zG Z) m rf c T)) (X2 := (mX (zG Z) m rf c T)) (st := []) (st2 := [.long (m_X5_rounded ((M_ba c) * (Int32.toInt64 (M_mo c))) (Int32.toInt64 (M_le c)))]) (As := [.long ((M_ba c) * (Int32.toInt64 (M_mo c))), .long (Int32.toInt64 (M_le c))]) C (c_X5_rounded (zl Z) (zG Z) L F ((M_ba c) * (Int32.toInt64 (M_mo c))) (Int32.toInt64 (M_le c)) (ld_l hle)) gX5_together_X5_rounded rfl rfl rfl 2 (by decide +kernel) ⟨Nat.le_of_ble_eq_true rfl, Nat.le_of_ble_eq_true rfl⟩ rfl rfl (Nat.le_of_ble_eq_true rfl) ⟨Nat.le_of_ble_eq_true rfl, Nat.le_of_ble_eq_true rfl⟩ [] [0, 1, 2, 3, 4, 5, 6, 7, 8, 9, 10, 11, 12, 13, 14, 15] [0, 1, 2, 3, 4, 5, 6, 7, 8, 9, 10, 11, 12, 13, 14, 15] rfl rfl rfl rfl (by decide) rfl rfl dX5_together_24 (pc2 := 27) rfl rfl ?_
    refine pk_topl (fun n5_ en5_ => ?_)
    subst en5_
    exact pr_long C hE (po_d_rfl (by first | with_reducible rfl | (unfold m_X5_together; rw [if_pos h1_])) (by first | with_reducible rfl | (unfold m_X5_together; rw [if_pos h1_]))) dX5_together_27
def m_X5_declining (c : MR) (T : TR) (p : Int32) (lb : Int32) : Int64 :=
  if 0 < ((m_X5_book c T) - (M_rs c)) then if (m_X5_rounded ((m_X5_book c T) * (Int32.toInt64 ((T_ra T) (Int32.toNatClampNeg p)))) (1000000)) ≤ (m_X5_rounded ((m_X5_book c T) - (M_rs c)) (Int32.toInt64 lb)) then if lb = 1 then ((m_X5_book c T) - (M_rs c)) else if (m_X5_rounded ((m_X5_book c T) - (M_rs c)) (Int32.toInt64 lb)) ≤ ((m_X5_book c T) - (M_rs c)) then (m_X5_rounded ((m_X5_book c T) - (M_rs c)) (Int32.toInt64 lb)) else ((m_X5_book c T) - (M_rs c)) else if lb = 1 then ((m_X5_book c T) - (M_rs c)) else if (m_X5_rounded ((m_X5_book c T) * (Int32.toInt64 ((T_ra T) (Int32.toNatClampNeg p)))) (1000000)) ≤ ((m_X5_book c T) - (M_rs c)) then (m_X5_rounded ((m_X5_book c T) * (Int32.toInt64 ((T_ra T) (Int32.toNatClampNeg p)))) (1000000)) else ((m_X5_book c T) - (M_rs c)) else 0
set_option maxRecDepth 100000 in
set_option maxHeartbeats 2000000 in
theorem c_X5_declining (l : Launch) (G : pw_G) (L : List Nat) (F : Nat → va_E) (m : Nat) (rf : Nat → Nat) (c : MR) (T : TR) (p : Int32) (lb : Int32) (hp : vp_in p 6) (hlb : 1 ≤ lb.toInt) : PM l yX5_declining wsX5_declining ⟨1, 0, 0, 23⟩ G [.ref m, .int p, .int lb] (mX G m rf c T) L F 0 0 (po_d (some (.long (m_X5_declining c T p lb))) (mX G m rf c T) L F) := by
  refine pm_entry (by decide) rfl rfl (Nat.le_of_ble_eq_true rfl) ?_
  intro Z Q C hl0 hG0 hnm hE
  subst hl0
  subst hG0
  have i5_ : ∀ w ∈ wsX50, w ∈ wsX5_declining := by decide +kernel
  have w0_ : Cond.fieldLink RX5 79 "AgedAssetsModel" "residual" "J" ∈ wsX5_declining := by decide +kernel
  have w1_ : Cond.fieldLink RX5 26 "AgedAssetsModel" "rates" "[I" ∈ wsX5_declining := by decide +kernel
  have w2_ : Cond.constantLong RX5 119 (1000000) ∈ wsX5_declining := by decide +kernel
  show PW Z (mX (zG Z) m rf c T) L F 0 0 Q 0 [(0, .ref m), (1, .int p), (2, .int lb)] []
  refine pk_aload_n C 0 dX5_declining_0 rfl rfl (pc2 := 1) rfl ?_
  refine pk_dV (cx := (mX (zG Z) m rf c T)) (wr := []) (X2 := (mX (zG Z) m rf c T)) (st := []) (st2 := [.long (m_X5_book c T)]) (As := []) C (c_X5_book (zl Z) (zG Z) L F m rf c T) gX5_declining_X5_book rfl rfl rfl 0 (by decide +kernel) ⟨Nat.le_of_ble_eq_true rfl, Nat.le_of_ble_eq_true rfl⟩ (pw_atX 0 rfl) rfl rfl rfl (Nat.le_of_ble_eq_true rfl) ⟨Nat.le_of_ble_eq_true rfl, Nat.le_of_ble_eq_true rfl⟩ [0, 1, 2, 3, 4, 5, 6, 7, 8, 9, 10, 11, 12, 13, 14, 15] [] [0, 1, 2, 3, 4, 5, 6, 7, 8, 9, 10, 11, 12, 13, 14, 15] rfl rfl rfl rfl (by decide) rfl rfl dX5_declining_1 (pc2 := 4) rfl rfl ?_
  refine pk_topl (fun n1_ en1_ => ?_)
  refine pk_aload_n C 0 dX5_declining_4 rfl rfl (pc2 := 5) rfl ?_
  refine pk_get (v := .long (M_rs c)) C i5_ (pw_atX 0 rfl) (ci := 5) rfl 21 (by decide) w0_ rfl rfl dX5_declining_5 (pc2 := 8) rfl ?_
  refine pk_lsub C dX5_declining_8 (pc2 := 9) rfl ?_
  refine pk_topl (fun n2_ en2_ => ?_)
  refine pk_lstore_n (lv' := [(3, .long n2_), (0, .ref m), (1, .int p), (2, .int lb)]) C dX5_declining_9 rfl (by decide) rfl (pc2 := 10) rfl ?_
  refine pk_lload_n C 0 dX5_declining_10 rfl rfl (pc2 := 11) rfl ?_
  refine pk_lconst (v := 0) C dX5_declining_11 (by decide) (pc2 := 12) rfl ?_
  refine pk_lcmp_gt (tgt := 18) C dX5_declining_12 dX5_declining_13 (pc1 := 13) rfl (by decide) (pc2 := 16) rfl (fun h1_ => ?_) (fun h1_ => ?_)
  ·
    refine pk_aload_n C 1 dX5_declining_18 rfl rfl (pc2 := 19) rfl ?_
    refine pk_dV (cx := (mX (zG Z) m rf c T)) (wr := []) (X2 := (mX (zG Z) m rf c T)) (st := []) (st2 := [.long (m_X5_book c T)]) (As := []) C (c_X5_book (zl Z) (zG Z) L F m rf c T) gX5_declining_X5_book rfl rfl rfl 0 (by decide +kernel) ⟨Nat.le_of_ble_eq_true rfl, Nat.le_of_ble_eq_true rfl⟩ (pw_atX 0 rfl) rfl rfl rfl (Nat.le_of_ble_eq_true rfl) ⟨Nat.le_of_ble_eq_true rfl, Nat.le_of_ble_eq_true rfl⟩ [0, 1, 2, 3, 4, 5, 6, 7, 8, 9, 10, 11, 12, 13, 14, 15] [] [0, 1, 2, 3, 4, 5, 6, 7, 8, 9, 10, 11, 12, 13, 14, 15] rfl rfl rfl rfl (by decide) rfl rfl dX5_declining_19 (pc2 := 22) rfl rfl ?_
    refine pk_topl (fun n3_ en3_ => ?_)
    refine pk_aload_n C 1 dX5_declining_22 rfl rfl (pc2 := 23) rfl ?_
    refine pk_get (v := .ref (rf 5)) C i5_ (pw_atX 0 rfl) (ci := 5) rfl 7 (by decide) w1_ rfl rfl dX5_declining_23 (pc2 := 26) rfl ?_
    refine pk_iload_n C 2 dX5_declining_26 rfl rfl (pc2 := 27) rfl ?_
    refine pk_iald (v := ((T_ra T) (Int32.toNatClampNeg p))) C (pw_atX 6 rfl) hp rfl dX5_declining_27 (pc2 := 28) rfl ?_
    refine pk_i2l C dX5_declining_28 (pc2 := 29) rfl ?_
    refine pk_lmul C dX5_declining_29 (pc2 := 30) rfl ?_
    refine pk_ldc2 C w2_ dX5_declining_30 (pc2 := 33) rfl ?_
    refine pk_dS (cx := []) (wr := (mX (zG Z) m rf c T)) (X2 := (mX (zG Z) m rf c T)) (st := []) (st2 := [.long (m_X5_rounded (n3_ * (Int32.toInt64 ((T_ra T) (Int32.toNatClampNeg p)))) (1000000))]) (As := [.long (n3_ * (Int32.toInt64 ((T_ra T) (Int32.toNatClampNeg p)))), .long (1000000)]) C (c_X5_rounded (zl Z) (zG Z) L F (n3_ * (Int32.toInt64 ((T_ra T) (Int32.toNatClampNeg p)))) (1000000) (by decide)) gX5_declining_X5_rounded rfl rfl rfl 2 (by decide +kernel) ⟨Nat.le_of_ble_eq_true rfl, Nat.le_of_ble_eq_true rfl⟩ rfl rfl (Nat.le_of_ble_eq_true rfl) ⟨Nat.le_of_ble_eq_true rfl, Nat.le_of_ble_eq_true rfl⟩ [] [0, 1, 2, 3, 4, 5, 6, 7, 8, 9, 10, 11, 12, 13, 14, 15] [0, 1, 2, 3, 4, 5, 6, 7, 8, 9, 10, 11, 12, 13, 14, 15] rfl rfl rfl rfl (by decide) rfl rfl dX5_declining_33 (pc2 := 36) rfl rfl ?_
    refine pk_topl (fun n4_ en4_ => ?_)
    refine pk_lstore (lv' := [(5, .long n4_), (3, .long n2_), (0, .ref m), (1, .int p), (2, .int lb)]) C dX5_declining_36 (by decide) rfl (pc2 := 38) rfl ?_
    refine pk_lload_n C 1 dX5_declining_38 rfl rfl (pc2 := 39) rfl ?_
    refine pk_iload_n C 4 dX5_declining_39 rfl rfl (pc2 := 40) rfl ?_
    refine pk_i2l C dX5_declining_40 (pc2 := 41) rfl ?_
    refine pk_dS (cx := []) (wr := (mX (zG Z) m rf c T)) (X2 := (mX (zG Z) m rf c T)) (st := []) (st2 := [.long (m_X5_rounded n2_ (Int32.toInt64 lb))]) (As := [.long n2_, .long (Int32.toInt64 lb)]) C (c_X5_rounded (zl Z) (zG Z) L F n2_ (Int32.toInt64 lb) (ld_b hlb)) gX5_declining_X5_rounded rfl rfl rfl 2 (by decide +kernel) ⟨Nat.le_of_ble_eq_true rfl, Nat.le_of_ble_eq_true rfl⟩ rfl rfl (Nat.le_of_ble_eq_true rfl) ⟨Nat.le_of_ble_eq_true rfl, Nat.le_of_ble_eq_true rfl⟩ [] [0, 1, 2, 3, 4, 5, 6, 7, 8, 9, 10, 11, 12, 13, 14, 15] [0, 1, 2, 3, 4, 5, 6, 7, 8, 9, 10, 11, 12, 13, 14, 15] rfl rfl rfl rfl (by decide) rfl rfl dX5_declining_41 (pc2 := 44) rfl rfl ?_
    refine pk_topl (fun n5_ en5_ => ?_)
    refine pk_lstore (lv' := [(7, .long n5_), (5, .long n4_), (3, .long n2_), (0, .ref m), (1, .int p), (2, .int lb)]) C dX5_declining_44 (by decide) rfl (pc2 := 46) rfl ?_
    refine pk_lload C 1 dX5_declining_46 rfl (pc2 := 48) rfl ?_
    refine pk_lload C 0 dX5_declining_48 rfl (pc2 := 50) rfl ?_
    refine pk_lcmp_le (tgt := 59) C dX5_declining_50 dX5_declining_51 (pc1 := 51) rfl (by decide) (pc2 := 54) rfl (fun h2_ => ?_) (fun h2_ => ?_)
    ·
      refine pk_lload C 0 dX5_declining_59 rfl (pc2 := 61) rfl ?_
      refine pk_lstore (lv' := [(9, .long n5_), (7, .long n5_), (5, .long n4_), (3, .long n2_), (0, .ref m), (1, .int p), (2, .int lb)]) C dX5_declining_61 (by decide) rfl (pc2 := 63) rfl ?_
      refine pk_iload_n C 6 dX5_declining_63 rfl rfl (pc2 := 64) rfl ?_
      refine pk_iconst (v := 1) C dX5_declining_64 (by decide) (pc2 := 65) rfl ?_
      refine pk_icmp_eq (tgt := 75) C dX5_declining_65 (by decide) (pc2 := 68) rfl (fun h3_ => ?_) (fun h3_ => ?_)
      ·
        refine pk_lload_n C 3 dX5_declining_75 rfl rfl (pc2 := 76) rfl ?_
        refine pk_goto (tgt := 81) C dX5_declining_76 (by decide) ?_
        subst en1_ en2_ en3_ en4_ en5_
        exact pr_long C hE (po_d_rfl (by first | with_reducible rfl | (unfold m_X5_declining; rw [if_pos h1_, if_pos h2_, if_pos h3_])) (by first | with_reducible rfl | (unfold m_X5_declining; rw [if_pos h1_, if_pos h2_, if_pos h3_]))) dX5_declining_81
      ·
        refine pk_lload C 0 dX5_declining_68 rfl (pc2 := 70) rfl ?_
        refine pk_lload_n C 3 dX5_declining_70 rfl rfl (pc2 := 71) rfl ?_
        refine pk_lcmp_le (tgt := 79) C dX5_declining_71 dX5_declining_72 (pc1 := 72) rfl (by decide) (pc2 := 75) rfl (fun h4_ => ?_) (fun h4_ => ?_)
        ·
          refine pk_lload C 0 dX5_declining_79 rfl (pc2 := 81) rfl ?_
          subst en1_ en2_ en3_ en4_ en5_
          exact pr_long C hE (po_d_rfl (by first | with_reducible rfl | (unfold m_X5_declining; rw [if_pos h1_, if_pos h2_, if_neg h3_, if_pos h4_])) (by first | with_reducible rfl | (unfold m_X5_declining; rw [if_pos h1_, if_pos h2_, if_neg h3_, if_pos h4_]))) dX5_declining_81
        ·
          refine pk_lload_n C 3 dX5_declining_75 rfl rfl (pc2 := 76) rfl ?_
          refine pk_goto (tgt := 81) C dX5_declining_76 (by decide) ?_
          subst en1_ en2_ en3_ en4_ en5_
          exact pr_long C hE (po_d_rfl (by first | with_reducible rfl | (unfold m_X5_declining; rw [if_pos h1_, if_pos h2_, if_neg h3_, if_neg h4_])) (by first | with_reducible rfl | (unfold m_X5_declining; rw [if_pos h1_, if_pos h2_, if_neg h3_, if_neg h4_]))) dX5_declining_81
    ·
      refine pk_lload C 1 dX5_declining_54 rfl (pc2 := 56) rfl ?_
      refine pk_goto (tgt := 61) C dX5_declining_56 (by decide) ?_
      refine pk_lstore (lv' := [(9, .long n4_), (7, .long n5_), (5, .long n4_), (3, .long n2_), (0, .ref m), (1, .int p), (2, .int lb)]) C dX5_declining_61 (by decide) rfl (pc2 := 63) rfl ?_
      refine pk_iload_n C 6 dX5_declining_63 rfl rfl (pc2 := 64) rfl ?_
      refine pk_iconst (v := 1) C dX5_declining_64 (by decide) (pc2 := 65) rfl ?_
      refine pk_icmp_eq (tgt := 75) C dX5_declining_65 (by decide) (pc2 := 68) rfl (fun h5_ => ?_) (fun h5_ => ?_)
      ·
        refine pk_lload_n C 3 dX5_declining_75 rfl rfl (pc2 := 76) rfl ?_
        refine pk_goto (tgt := 81) C dX5_declining_76 (by decide) ?_
        subst en1_ en2_ en3_ en4_ en5_
        exact pr_long C hE (po_d_rfl (by first | with_reducible rfl | (unfold m_X5_declining; rw [if_pos h1_, if_neg h2_, if_pos h5_])) (by first | with_reducible rfl | (unfold m_X5_declining; rw [if_pos h1_, if_neg h2_, if_pos h5_]))) dX5_declining_81
      ·
        refine pk_lload C 0 dX5_declining_68 rfl (pc2 := 70) rfl ?_
        refine pk_lload_n C 3 dX5_declining_70 rfl rfl (pc2 := 71) rfl ?_
        refine pk_lcmp_le (tgt := 79) C dX5_declining_71 dX5_declining_72 (pc1 := 72) rfl (by decide) (pc2 := 75) rfl (fun h6_ => ?_) (fun h6_ => ?_)
        ·
          refine pk_lload C 0 dX5_declining_79 rfl (pc2 := 81) rfl ?_
          subst en1_ en2_ en3_ en4_ en5_
          exact pr_long C hE (po_d_rfl (by first | with_reducible rfl | (unfold m_X5_declining; rw [if_pos h1_, if_neg h2_, if_neg h5_, if_pos h6_])) (by first | with_reducible rfl | (unfold m_X5_declining; rw [if_pos h1_, if_neg h2_, if_neg h5_, if_pos h6_]))) dX5_declining_81
        ·
          refine pk_lload_n C 3 dX5_declining_75 rfl rfl (pc2 := 76) rfl ?_
          refine pk_goto (tgt := 81) C dX5_declining_76 (by decide) ?_
          subst en1_ en2_ en3_ en4_ en5_
          exact pr_long C hE (po_d_rfl (by first | with_reducible rfl | (unfold m_X5_declining; rw [if_pos h1_, if_neg h2_, if_neg h5_, if_neg h6_])) (by first | with_reducible rfl | (unfold m_X5_declining; rw [if_pos h1_, if_neg h2_, if_neg h5_, if_neg h6_]))) dX5_declining_81
  ·
    refine pk_lconst (v := 0) C dX5_declining_16 (by decide) (pc2 := 17) rfl ?_
    subst en1_ en2_
    exact pr_long C hE (po_d_rfl (by first | with_reducible rfl | (unfold m_X5_declining; rw [if_neg h1_])) (by first | with_reducible rfl | (unfold m_X5_declining; rw [if_neg h1_]))) dX5_declining_17
def m_X5_writeOff (c : MR) (T : TR) (p : Int32) (mm : Int32) : MR :=
  if (M_he c) = 0 then if (M_go c) = 0 then if (M_li c) = 0 then (M_mk (M_cd c) (M_pt c) (M_mn c) (M_ev c) (M_co c) (M_al c) (M_re c) (M_lo c) (M_rs c) (M_li c) (M_he c) (M_go c) (M_sp c) (M_ba c) (M_le c) (M_lf c) (M_mo c) (M_un c) (M_ch c) 0 (M_ac c) (M_bd c)) else if ((T_me T) (Int32.toNatClampNeg p)) = 3 then if ((T_me T) (Int32.toNatClampNeg p)) = 1 then (M_mk (M_cd c) (M_pt c) (M_mn c) (M_ev c) (M_co c) ((M_al c) + (m_X5_declining (M_mk (M_cd c) (M_pt c) (M_mn c) (M_ev c) (M_co c) (M_al c) (M_re c) (M_lo c) (M_rs c) ((M_li c) - 1) (M_he c) (M_go c) ((M_sp c) + ((T_us T) (Int32.toNatClampNeg ((36 * p) + mm)))) (M_ba c) (M_le c) (M_lf c) ((M_mo c) + 1) ((M_un c) + ((T_us T) (Int32.toNatClampNeg ((36 * p) + mm)))) (M_ch c) 0 (M_ac c) (M_bd c)) T p (((M_li c) - 1) + 1))) (M_re c) (M_lo c) (M_rs c) ((M_li c) - 1) (M_he c) (M_go c) ((M_sp c) + ((T_us T) (Int32.toNatClampNeg ((36 * p) + mm)))) (M_ba c) (M_le c) (M_lf c) ((M_mo c) + 1) ((M_un c) + ((T_us T) (Int32.toNatClampNeg ((36 * p) + mm)))) (M_ch c) (m_X5_declining (M_mk (M_cd c) (M_pt c) (M_mn c) (M_ev c) (M_co c) (M_al c) (M_re c) (M_lo c) (M_rs c) ((M_li c) - 1) (M_he c) (M_go c) ((M_sp c) + ((T_us T) (Int32.toNatClampNeg ((36 * p) + mm)))) (M_ba c) (M_le c) (M_lf c) ((M_mo c) + 1) ((M_un c) + ((T_us T) (Int32.toNatClampNeg ((36 * p) + mm)))) (M_ch c) 0 (M_ac c) (M_bd c)) T p (((M_li c) - 1) + 1)) ((M_ac c) + (m_X5_declining (M_mk (M_cd c) (M_pt c) (M_mn c) (M_ev c) (M_co c) (M_al c) (M_re c) (M_lo c) (M_rs c) ((M_li c) - 1) (M_he c) (M_go c) ((M_sp c) + ((T_us T) (Int32.toNatClampNeg ((36 * p) + mm)))) (M_ba c) (M_le c) (M_lf c) ((M_mo c) + 1) ((M_un c) + ((T_us T) (Int32.toNatClampNeg ((36 * p) + mm)))) (M_ch c) 0 (M_ac c) (M_bd c)) T p (((M_li c) - 1) + 1))) (M_bd c)) else (M_mk (M_cd c) (M_pt c) (M_mn c) (M_ev c) (M_co c) ((M_al c) + ((m_X5_together (M_mk (M_cd c) (M_pt c) (M_mn c) (M_ev c) (M_co c) (M_al c) (M_re c) (M_lo c) (M_rs c) ((M_li c) - 1) (M_he c) (M_go c) ((M_sp c) + ((T_us T) (Int32.toNatClampNeg ((36 * p) + mm)))) (M_ba c) (M_le c) (M_lf c) ((M_mo c) + 1) ((M_un c) + ((T_us T) (Int32.toNatClampNeg ((36 * p) + mm)))) (M_ch c) 0 (M_ac c) (M_bd c)) T p) - (M_ch c))) (M_re c) (M_lo c) (M_rs c) ((M_li c) - 1) (M_he c) (M_go c) ((M_sp c) + ((T_us T) (Int32.toNatClampNeg ((36 * p) + mm)))) (M_ba c) (M_le c) (M_lf c) ((M_mo c) + 1) ((M_un c) + ((T_us T) (Int32.toNatClampNeg ((36 * p) + mm)))) (m_X5_together (M_mk (M_cd c) (M_pt c) (M_mn c) (M_ev c) (M_co c) (M_al c) (M_re c) (M_lo c) (M_rs c) ((M_li c) - 1) (M_he c) (M_go c) ((M_sp c) + ((T_us T) (Int32.toNatClampNeg ((36 * p) + mm)))) (M_ba c) (M_le c) (M_lf c) ((M_mo c) + 1) ((M_un c) + ((T_us T) (Int32.toNatClampNeg ((36 * p) + mm)))) (M_ch c) 0 (M_ac c) (M_bd c)) T p) ((m_X5_together (M_mk (M_cd c) (M_pt c) (M_mn c) (M_ev c) (M_co c) (M_al c) (M_re c) (M_lo c) (M_rs c) ((M_li c) - 1) (M_he c) (M_go c) ((M_sp c) + ((T_us T) (Int32.toNatClampNeg ((36 * p) + mm)))) (M_ba c) (M_le c) (M_lf c) ((M_mo c) + 1) ((M_un c) + ((T_us T) (Int32.toNatClampNeg ((36 * p) + mm)))) (M_ch c) 0 (M_ac c) (M_bd c)) T p) - (M_ch c)) ((M_ac c) + ((m_X5_together (M_mk (M_cd c) (M_pt c) (M_mn c) (M_ev c) (M_co c) (M_al c) (M_re c) (M_lo c) (M_rs c) ((M_li c) - 1) (M_he c) (M_go c) ((M_sp c) + ((T_us T) (Int32.toNatClampNeg ((36 * p) + mm)))) (M_ba c) (M_le c) (M_lf c) ((M_mo c) + 1) ((M_un c) + ((T_us T) (Int32.toNatClampNeg ((36 * p) + mm)))) (M_ch c) 0 (M_ac c) (M_bd c)) T p) - (M_ch c))) (M_bd c)) else if ((T_me T) (Int32.toNatClampNeg p)) = 1 then (M_mk (M_cd c) (M_pt c) (M_mn c) (M_ev c) (M_co c) ((M_al c) + (m_X5_declining (M_mk (M_cd c) (M_pt c) (M_mn c) (M_ev c) (M_co c) (M_al c) (M_re c) (M_lo c) (M_rs c) ((M_li c) - 1) (M_he c) (M_go c) (M_sp c) (M_ba c) (M_le c) (M_lf c) ((M_mo c) + 1) (M_un c) (M_ch c) 0 (M_ac c) (M_bd c)) T p (((M_li c) - 1) + 1))) (M_re c) (M_lo c) (M_rs c) ((M_li c) - 1) (M_he c) (M_go c) (M_sp c) (M_ba c) (M_le c) (M_lf c) ((M_mo c) + 1) (M_un c) (M_ch c) (m_X5_declining (M_mk (M_cd c) (M_pt c) (M_mn c) (M_ev c) (M_co c) (M_al c) (M_re c) (M_lo c) (M_rs c) ((M_li c) - 1) (M_he c) (M_go c) (M_sp c) (M_ba c) (M_le c) (M_lf c) ((M_mo c) + 1) (M_un c) (M_ch c) 0 (M_ac c) (M_bd c)) T p (((M_li c) - 1) + 1)) ((M_ac c) + (m_X5_declining (M_mk (M_cd c) (M_pt c) (M_mn c) (M_ev c) (M_co c) (M_al c) (M_re c) (M_lo c) (M_rs c) ((M_li c) - 1) (M_he c) (M_go c) (M_sp c) (M_ba c) (M_le c) (M_lf c) ((M_mo c) + 1) (M_un c) (M_ch c) 0 (M_ac c) (M_bd c)) T p (((M_li c) - 1) + 1))) (M_bd c)) else (M_mk (M_cd c) (M_pt c) (M_mn c) (M_ev c) (M_co c) ((M_al c) + ((m_X5_together (M_mk (M_cd c) (M_pt c) (M_mn c) (M_ev c) (M_co c) (M_al c) (M_re c) (M_lo c) (M_rs c) ((M_li c) - 1) (M_he c) (M_go c) (M_sp c) (M_ba c) (M_le c) (M_lf c) ((M_mo c) + 1) (M_un c) (M_ch c) 0 (M_ac c) (M_bd c)) T p) - (M_ch c))) (M_re c) (M_lo c) (M_rs c) ((M_li c) - 1) (M_he c) (M_go c) (M_sp c) (M_ba c) (M_le c) (M_lf c) ((M_mo c) + 1) (M_un c) (m_X5_together (M_mk (M_cd c) (M_pt c) (M_mn c) (M_ev c) (M_co c) (M_al c) (M_re c) (M_lo c) (M_rs c) ((M_li c) - 1) (M_he c) (M_go c) (M_sp c) (M_ba c) (M_le c) (M_lf c) ((M_mo c) + 1) (M_un c) (M_ch c) 0 (M_ac c) (M_bd c)) T p) ((m_X5_together (M_mk (M_cd c) (M_pt c) (M_mn c) (M_ev c) (M_co c) (M_al c) (M_re c) (M_lo c) (M_rs c) ((M_li c) - 1) (M_he c) (M_go c) (M_sp c) (M_ba c) (M_le c) (M_lf c) ((M_mo c) + 1) (M_un c) (M_ch c) 0 (M_ac c) (M_bd c)) T p) - (M_ch c)) ((M_ac c) + ((m_X5_together (M_mk (M_cd c) (M_pt c) (M_mn c) (M_ev c) (M_co c) (M_al c) (M_re c) (M_lo c) (M_rs c) ((M_li c) - 1) (M_he c) (M_go c) (M_sp c) (M_ba c) (M_le c) (M_lf c) ((M_mo c) + 1) (M_un c) (M_ch c) 0 (M_ac c) (M_bd c)) T p) - (M_ch c))) (M_bd c)) else (M_mk (M_cd c) (M_pt c) (M_mn c) (M_ev c) (M_co c) (M_al c) (M_re c) (M_lo c) (M_rs c) (M_li c) (M_he c) (M_go c) (M_sp c) (M_ba c) (M_le c) (M_lf c) (M_mo c) (M_un c) (M_ch c) 0 (M_ac c) (M_bd c)) else (M_mk (M_cd c) (M_pt c) (M_mn c) (M_ev c) (M_co c) (M_al c) (M_re c) (M_lo c) (M_rs c) (M_li c) (M_he c) (M_go c) (M_sp c) (M_ba c) (M_le c) (M_lf c) (M_mo c) (M_un c) (M_ch c) 0 (M_ac c) (M_bd c))
set_option maxRecDepth 100000 in
set_option maxHeartbeats 2000000 in
theorem c_X5_writeOff (l : Launch) (G : pw_G) (L : List Nat) (F : Nat → va_E) (m : Nat) (rf : Nat → Nat) (c : MR) (T : TR) (p : Int32) (mm : Int32) (hp : vp_in p 6) (hpm : vp_in ((36 * p) + mm) 216) (hli : 0 ≤ (M_li c).toInt) (hle : ¬ M_li c = 0 → 1 ≤ (M_le c).toInt ∧ (M_le c).toInt ≤ 36) : PM l yX5_writeOff wsX5_writeOff ⟨2, 0, 0, 53⟩ G [.ref m, .int p, .int mm] (mX G m rf c T) L F 0 0 (po_d none (mX G m rf (m_X5_writeOff c T p mm) T) L F) := by
  refine pm_entry (by decide) rfl rfl (Nat.le_of_ble_eq_true rfl) ?_
  intro Z Q C hl0 hG0 hnm hE
  subst hl0
  subst hG0
  have i5_ : ∀ w ∈ wsX50, w ∈ wsX5_writeOff := by decide +kernel
  have w0_ : Cond.fieldLink RX5 152 "AgedAssetsModel" "last" "J" ∈ wsX5_writeOff := by decide +kernel
  have w1_ : Cond.fieldLink RX5 134 "AgedAssetsModel" "held" "Z" ∈ wsX5_writeOff := by decide +kernel
  have w2_ : Cond.fieldLink RX5 130 "AgedAssetsModel" "gone" "Z" ∈ wsX5_writeOff := by decide +kernel
  have w3_ : Cond.fieldLink RX5 85 "AgedAssetsModel" "rest" "I" ∈ wsX5_writeOff := by decide +kernel
  have w4_ : Cond.fieldLink RX5 97 "AgedAssetsModel" "charged" "I" ∈ wsX5_writeOff := by decide +kernel
  have w5_ : Cond.fieldLink RX5 23 "AgedAssetsModel" "methods" "[I" ∈ wsX5_writeOff := by decide +kernel
  have w6_ : Cond.fieldLink RX5 103 "AgedAssetsModel" "done" "J" ∈ wsX5_writeOff := by decide +kernel
  have w7_ : Cond.fieldLink RX5 69 "AgedAssetsModel" "allowance" "J" ∈ wsX5_writeOff := by decide +kernel
  have w8_ : Cond.fieldLink RX5 163 "AgedAssetsModel" "sum" "J" ∈ wsX5_writeOff := by decide +kernel
  have w9_ : Cond.fieldLink RX5 100 "AgedAssetsModel" "stretchUnits" "I" ∈ wsX5_writeOff := by decide +kernel
  have w10_ : Cond.fieldLink RX5 29 "AgedAssetsModel" "used" "[I" ∈ wsX5_writeOff := by decide +kernel
  have w11_ : Cond.fieldLink RX5 91 "AgedAssetsModel" "spent" "I" ∈ wsX5_writeOff := by decide +kernel
  show PW Z (mX (zG Z) m rf c T) L F 0 0 Q 0 [(0, .ref m), (1, .int p), (2, .int mm)] []
  refine pk_aload_n C 0 dX5_writeOff_0 rfl rfl (pc2 := 1) rfl ?_
  refine pk_lconst (v := 0) C dX5_writeOff_1 (by decide) (pc2 := 2) rfl ?_
  refine pk_putX (X' := (mX (zG Z) m rf (M_mk (M_cd c) (M_pt c) (M_mn c) (M_ev c) (M_co c) (M_al c) (M_re c) (M_lo c) (M_rs c) (M_li c) (M_he c) (M_go c) (M_sp c) (M_ba c) (M_le c) (M_lf c) (M_mo c) (M_un c) (M_ch c) 0 (M_ac c) (M_bd c)) T)) C i5_ tyX5_ok nmX5 0 rfl (ci := 5) rfl 32 (by decide) w0_ rfl rfl rfl rfl rfl (Nat.le_of_ble_eq_true rfl) rfl dX5_writeOff_2 (pc2 := 5) rfl ?_
  refine pk_aload_n C 0 dX5_writeOff_5 rfl rfl (pc2 := 6) rfl ?_
  refine pk_get (v := .int (M_he c)) C i5_ (pw_atX 0 rfl) (ci := 5) rfl 23 (by decide) w1_ rfl rfl dX5_writeOff_6 (pc2 := 9) rfl ?_
  refine pk_if_ne (tgt := 26) C dX5_writeOff_9 (by decide) (pc2 := 12) rfl (fun h1_ => ?_) (fun h1_ => ?_)
  ·
    exact pr_void C hE (po_d_rfl rfl (by first | with_reducible rfl | (unfold m_X5_writeOff; rw [if_neg h1_]))) dX5_writeOff_26
  ·
    refine pk_aload_n C 0 dX5_writeOff_12 rfl rfl (pc2 := 13) rfl ?_
    refine pk_get (v := .int (M_go c)) C i5_ (pw_atX 0 rfl) (ci := 5) rfl 24 (by decide) w2_ rfl rfl dX5_writeOff_13 (pc2 := 16) rfl ?_
    refine pk_if_ne (tgt := 26) C dX5_writeOff_16 (by decide) (pc2 := 19) rfl (fun h2_ => ?_) (fun h2_ => ?_)
    ·
      exact pr_void C hE (po_d_rfl rfl (by first | with_reducible rfl | (unfold m_X5_writeOff; rw [if_pos h1_, if_neg h2_]))) dX5_writeOff_26
    ·
      refine pk_aload_n C 0 dX5_writeOff_19 rfl rfl (pc2 := 20) rfl ?_
      refine pk_get (v := .int (M_li c)) C i5_ (pw_atX 0 rfl) (ci := 5) rfl 22 (by decide) w3_ rfl rfl dX5_writeOff_20 (pc2 := 23) rfl ?_
      refine pk_if_ne (tgt := 27) C dX5_writeOff_23 (by decide) (pc2 := 26) rfl (fun h3_ => ?_) (fun h3_ => ?_)
      ·
        refine pk_aload_n C 0 dX5_writeOff_27 rfl rfl (pc2 := 28) rfl ?_
        refine pk_aload_n C 0 dX5_writeOff_28 rfl rfl (pc2 := 29) rfl ?_
        refine pk_get (v := .int (M_li c)) C i5_ (pw_atX 0 rfl) (ci := 5) rfl 22 (by decide) w3_ rfl rfl dX5_writeOff_29 (pc2 := 32) rfl ?_
        refine pk_iconst (v := 1) C dX5_writeOff_32 (by decide) (pc2 := 33) rfl ?_
        refine pk_isub C dX5_writeOff_33 (pc2 := 34) rfl ?_
        refine pk_topi (fun n1_ en1_ => ?_)
        refine pk_putX (X' := (mX (zG Z) m rf (M_mk (M_cd c) (M_pt c) (M_mn c) (M_ev c) (M_co c) (M_al c) (M_re c) (M_lo c) (M_rs c) n1_ (M_he c) (M_go c) (M_sp c) (M_ba c) (M_le c) (M_lf c) (M_mo c) (M_un c) (M_ch c) 0 (M_ac c) (M_bd c)) T)) C i5_ tyX5_ok nmX5 0 rfl (ci := 5) rfl 22 (by decide) w3_ rfl rfl rfl rfl rfl (Nat.le_of_ble_eq_true rfl) rfl dX5_writeOff_34 (pc2 := 37) rfl ?_
        refine pk_aload_n C 0 dX5_writeOff_37 rfl rfl (pc2 := 38) rfl ?_
        refine pk_aload_n C 0 dX5_writeOff_38 rfl rfl (pc2 := 39) rfl ?_
        refine pk_get (v := .int (M_mo c)) C i5_ (pw_atX 0 rfl) (ci := 5) rfl 29 (by decide) w4_ rfl rfl dX5_writeOff_39 (pc2 := 42) rfl ?_
        refine pk_iconst (v := 1) C dX5_writeOff_42 (by decide) (pc2 := 43) rfl ?_
        refine pk_iadd C dX5_writeOff_43 (pc2 := 44) rfl ?_
        refine pk_topi (fun n2_ en2_ => ?_)
        refine pk_putX (X' := (mX (zG Z) m rf (M_mk (M_cd c) (M_pt c) (M_mn c) (M_ev c) (M_co c) (M_al c) (M_re c) (M_lo c) (M_rs c) n1_ (M_he c) (M_go c) (M_sp c) (M_ba c) (M_le c) (M_lf c) n2_ (M_un c) (M_ch c) 0 (M_ac c) (M_bd c)) T)) C i5_ tyX5_ok nmX5 0 rfl (ci := 5) rfl 29 (by decide) w4_ rfl rfl rfl rfl rfl (Nat.le_of_ble_eq_true rfl) rfl dX5_writeOff_44 (pc2 := 47) rfl ?_
        refine pk_aload_n C 0 dX5_writeOff_47 rfl rfl (pc2 := 48) rfl ?_
        refine pk_get (v := .ref (rf 4)) C i5_ (pw_atX 0 rfl) (ci := 5) rfl 6 (by decide) w5_ rfl rfl dX5_writeOff_48 (pc2 := 51) rfl ?_
        refine pk_iload_n C 1 dX5_writeOff_51 rfl rfl (pc2 := 52) rfl ?_
        refine pk_iald (v := ((T_me T) (Int32.toNatClampNeg p))) C (pw_atX 5 rfl) hp rfl dX5_writeOff_52 (pc2 := 53) rfl ?_
        refine pk_iconst (v := 3) C dX5_writeOff_53 (by decide) (pc2 := 54) rfl ?_
        refine pk_icmp_ne (tgt := 97) C dX5_writeOff_54 (by decide) (pc2 := 57) rfl (fun h4_ => ?_) (fun h4_ => ?_)
        ·
          refine pk_aload_n C 0 dX5_writeOff_97 rfl rfl (pc2 := 98) rfl ?_
          refine pk_get (v := .ref (rf 4)) C i5_ (pw_atX 0 rfl) (ci := 5) rfl 6 (by decide) w5_ rfl rfl dX5_writeOff_98 (pc2 := 101) rfl ?_
          refine pk_iload_n C 1 dX5_writeOff_101 rfl rfl (pc2 := 102) rfl ?_
          refine pk_iald (v := ((T_me T) (Int32.toNatClampNeg p))) C (pw_atX 5 rfl) hp rfl dX5_writeOff_102 (pc2 := 103) rfl ?_
          refine pk_iconst (v := 1) C dX5_writeOff_103 (by decide) (pc2 := 104) rfl ?_
          refine pk_icmp_ne (tgt := 125) C dX5_writeOff_104 (by decide) (pc2 := 107) rfl (fun h5_ => ?_) (fun h5_ => ?_)
          ·
            refine pk_aload_n C 0 dX5_writeOff_125 rfl rfl (pc2 := 126) rfl ?_
            refine pk_iload_n C 1 dX5_writeOff_126 rfl rfl (pc2 := 127) rfl ?_
            refine pk_dV (cx := (mX (zG Z) m rf (M_mk (M_cd c) (M_pt c) (M_mn c) (M_ev c) (M_co c) (M_al c) (M_re c) (M_lo c) (M_rs c) n1_ (M_he c) (M_go c) (M_sp c) (M_ba c) (M_le c) (M_lf c) n2_ (M_un c) (M_ch c) 0 (M_ac c) (M_bd c)) T)) (wr := []) (X2 := (mX (zG Z) m rf (M_mk (M_cd c) (M_pt c) (M_mn c) (M_ev c) (M_co c) (M_al c) (M_re c) (M_lo c) (M_rs c) n1_ (M_he c) (M_go c) (M_sp c) (M_ba c) (M_le c) (M_lf c) n2_ (M_un c) (M_ch c) 0 (M_ac c) (M_bd c)) T)) (st := []) (st2 := [.long (m_X5_together (M_mk (M_cd c) (M_pt c) (M_mn c) (M_ev c) (M_co c) (M_al c) (M_re c) (M_lo c) (M_rs c) n1_ (M_he c) (M_go c) (M_sp c) (M_ba c) (M_le c) (M_lf c) n2_ (M_un c) (M_ch c) 0 (M_ac c) (M_bd c)) T p)]) (As := [.int p]) C (c_X5_together (zl Z) (zG Z) L F m rf (M_mk (M_cd c) (M_pt c) (M_mn c) (M_ev c) (M_co c) (M_al c) (M_re c) (M_lo c) (M_rs c) n1_ (M_he c) (M_go c) (M_sp c) (M_ba c) (M_le c) (M_lf c) n2_ (M_un c) (M_ch c) 0 (M_ac c) (M_bd c)) T p hp (hle h3_)) gX5_writeOff_X5_together rfl rfl rfl 1 (by decide +kernel) ⟨Nat.le_of_ble_eq_true rfl, Nat.le_of_ble_eq_true rfl⟩ (pw_atX 0 rfl) rfl rfl rfl (Nat.le_of_ble_eq_true rfl) ⟨Nat.le_of_ble_eq_true rfl, Nat.le_of_ble_eq_true rfl⟩ [0, 1, 2, 3, 4, 5, 6, 7, 8, 9, 10, 11, 12, 13, 14, 15] [] [0, 1, 2, 3, 4, 5, 6, 7, 8, 9, 10, 11, 12, 13, 14, 15] rfl rfl rfl rfl (by decide) rfl rfl dX5_writeOff_127 (pc2 := 130) rfl rfl ?_
            refine pk_topl (fun n3_ en3_ => ?_)
            refine pk_lstore_n (lv' := [(3, .long n3_), (0, .ref m), (1, .int p), (2, .int mm)]) C dX5_writeOff_130 rfl (by decide) rfl (pc2 := 131) rfl ?_
            refine pk_aload_n C 1 dX5_writeOff_131 rfl rfl (pc2 := 132) rfl ?_
            refine pk_lload_n C 0 dX5_writeOff_132 rfl rfl (pc2 := 133) rfl ?_
            refine pk_aload_n C 1 dX5_writeOff_133 rfl rfl (pc2 := 134) rfl ?_
            refine pk_get (v := .long (M_ch c)) C i5_ (pw_atX 0 rfl) (ci := 5) rfl 31 (by decide) w6_ rfl rfl dX5_writeOff_134 (pc2 := 137) rfl ?_
            refine pk_lsub C dX5_writeOff_137 (pc2 := 138) rfl ?_
            refine pk_topl (fun n4_ en4_ => ?_)
            refine pk_putX (X' := (mX (zG Z) m rf (M_mk (M_cd c) (M_pt c) (M_mn c) (M_ev c) (M_co c) (M_al c) (M_re c) (M_lo c) (M_rs c) n1_ (M_he c) (M_go c) (M_sp c) (M_ba c) (M_le c) (M_lf c) n2_ (M_un c) (M_ch c) n4_ (M_ac c) (M_bd c)) T)) C i5_ tyX5_ok nmX5 0 rfl (ci := 5) rfl 32 (by decide) w0_ rfl rfl rfl rfl rfl (Nat.le_of_ble_eq_true rfl) rfl dX5_writeOff_138 (pc2 := 141) rfl ?_
            refine pk_aload_n C 1 dX5_writeOff_141 rfl rfl (pc2 := 142) rfl ?_
            refine pk_lload_n C 0 dX5_writeOff_142 rfl rfl (pc2 := 143) rfl ?_
            refine pk_putX (X' := (mX (zG Z) m rf (M_mk (M_cd c) (M_pt c) (M_mn c) (M_ev c) (M_co c) (M_al c) (M_re c) (M_lo c) (M_rs c) n1_ (M_he c) (M_go c) (M_sp c) (M_ba c) (M_le c) (M_lf c) n2_ (M_un c) n3_ n4_ (M_ac c) (M_bd c)) T)) C i5_ tyX5_ok nmX5 0 rfl (ci := 5) rfl 31 (by decide) w6_ rfl rfl rfl rfl rfl (Nat.le_of_ble_eq_true rfl) rfl dX5_writeOff_143 (pc2 := 146) rfl ?_
            refine pk_aload_n C 1 dX5_writeOff_146 rfl rfl (pc2 := 147) rfl ?_
            refine pk_aload_n C 1 dX5_writeOff_147 rfl rfl (pc2 := 148) rfl ?_
            refine pk_get (v := .long (M_al c)) C i5_ (pw_atX 0 rfl) (ci := 5) rfl 18 (by decide) w7_ rfl rfl dX5_writeOff_148 (pc2 := 151) rfl ?_
            refine pk_aload_n C 1 dX5_writeOff_151 rfl rfl (pc2 := 152) rfl ?_
            refine pk_get (v := .long n4_) C i5_ (pw_atX 0 rfl) (ci := 5) rfl 32 (by decide) w0_ rfl rfl dX5_writeOff_152 (pc2 := 155) rfl ?_
            refine pk_ladd C dX5_writeOff_155 (pc2 := 156) rfl ?_
            refine pk_topl (fun n5_ en5_ => ?_)
            refine pk_putX (X' := (mX (zG Z) m rf (M_mk (M_cd c) (M_pt c) (M_mn c) (M_ev c) (M_co c) n5_ (M_re c) (M_lo c) (M_rs c) n1_ (M_he c) (M_go c) (M_sp c) (M_ba c) (M_le c) (M_lf c) n2_ (M_un c) n3_ n4_ (M_ac c) (M_bd c)) T)) C i5_ tyX5_ok nmX5 0 rfl (ci := 5) rfl 18 (by decide) w7_ rfl rfl rfl rfl rfl (Nat.le_of_ble_eq_true rfl) rfl dX5_writeOff_156 (pc2 := 159) rfl ?_
            refine pk_aload_n C 1 dX5_writeOff_159 rfl rfl (pc2 := 160) rfl ?_
            refine pk_aload_n C 1 dX5_writeOff_160 rfl rfl (pc2 := 161) rfl ?_
            refine pk_get (v := .long (M_ac c)) C i5_ (pw_atX 0 rfl) (ci := 5) rfl 33 (by decide) w8_ rfl rfl dX5_writeOff_161 (pc2 := 164) rfl ?_
            refine pk_aload_n C 1 dX5_writeOff_164 rfl rfl (pc2 := 165) rfl ?_
            refine pk_get (v := .long n4_) C i5_ (pw_atX 0 rfl) (ci := 5) rfl 32 (by decide) w0_ rfl rfl dX5_writeOff_165 (pc2 := 168) rfl ?_
            refine pk_ladd C dX5_writeOff_168 (pc2 := 169) rfl ?_
            refine pk_topl (fun n6_ en6_ => ?_)
            refine pk_putX (X' := (mX (zG Z) m rf (M_mk (M_cd c) (M_pt c) (M_mn c) (M_ev c) (M_co c) n5_ (M_re c) (M_lo c) (M_rs c) n1_ (M_he c) (M_go c) (M_sp c) (M_ba c) (M_le c) (M_lf c) n2_ (M_un c) n3_ n4_ n6_ (M_bd c)) T)) C i5_ tyX5_ok nmX5 0 rfl (ci := 5) rfl 33 (by decide) w8_ rfl rfl rfl rfl rfl (Nat.le_of_ble_eq_true rfl) rfl dX5_writeOff_169 (pc2 := 172) rfl ?_
            subst en1_ en2_ en3_ en4_ en5_ en6_
            exact pr_void C hE (po_d_rfl rfl (by first | with_reducible rfl | (unfold m_X5_writeOff; rw [if_pos h1_, if_pos h2_, if_neg h3_, if_neg h4_, if_neg h5_]))) dX5_writeOff_172
          ·
            refine pk_aload_n C 0 dX5_writeOff_107 rfl rfl (pc2 := 108) rfl ?_
            refine pk_aload_n C 0 dX5_writeOff_108 rfl rfl (pc2 := 109) rfl ?_
            refine pk_iload_n C 1 dX5_writeOff_109 rfl rfl (pc2 := 110) rfl ?_
            refine pk_aload_n C 0 dX5_writeOff_110 rfl rfl (pc2 := 111) rfl ?_
            refine pk_get (v := .int n1_) C i5_ (pw_atX 0 rfl) (ci := 5) rfl 22 (by decide) w3_ rfl rfl dX5_writeOff_111 (pc2 := 114) rfl ?_
            refine pk_iconst (v := 1) C dX5_writeOff_114 (by decide) (pc2 := 115) rfl ?_
            refine pk_iadd C dX5_writeOff_115 (pc2 := 116) rfl ?_
            refine pk_dV (cx := (mX (zG Z) m rf (M_mk (M_cd c) (M_pt c) (M_mn c) (M_ev c) (M_co c) (M_al c) (M_re c) (M_lo c) (M_rs c) n1_ (M_he c) (M_go c) (M_sp c) (M_ba c) (M_le c) (M_lf c) n2_ (M_un c) (M_ch c) 0 (M_ac c) (M_bd c)) T)) (wr := []) (X2 := (mX (zG Z) m rf (M_mk (M_cd c) (M_pt c) (M_mn c) (M_ev c) (M_co c) (M_al c) (M_re c) (M_lo c) (M_rs c) n1_ (M_he c) (M_go c) (M_sp c) (M_ba c) (M_le c) (M_lf c) n2_ (M_un c) (M_ch c) 0 (M_ac c) (M_bd c)) T)) (st := [.ref m]) (st2 := [.long (m_X5_declining (M_mk (M_cd c) (M_pt c) (M_mn c) (M_ev c) (M_co c) (M_al c) (M_re c) (M_lo c) (M_rs c) n1_ (M_he c) (M_go c) (M_sp c) (M_ba c) (M_le c) (M_lf c) n2_ (M_un c) (M_ch c) 0 (M_ac c) (M_bd c)) T p (n1_ + 1)), .ref m]) (As := [.int p, .int (n1_ + 1)]) C (c_X5_declining (zl Z) (zG Z) L F m rf (M_mk (M_cd c) (M_pt c) (M_mn c) (M_ev c) (M_co c) (M_al c) (M_re c) (M_lo c) (M_rs c) n1_ (M_he c) (M_go c) (M_sp c) (M_ba c) (M_le c) (M_lf c) n2_ (M_un c) (M_ch c) 0 (M_ac c) (M_bd c)) T p (n1_ + 1) hp (wo_lb h3_ hli)) gX5_writeOff_X5_declining rfl rfl rfl 2 (by decide +kernel) ⟨Nat.le_of_ble_eq_true rfl, Nat.le_of_ble_eq_true rfl⟩ (pw_atX 0 rfl) rfl rfl rfl (Nat.le_of_ble_eq_true rfl) ⟨Nat.le_of_ble_eq_true rfl, Nat.le_of_ble_eq_true rfl⟩ [0, 1, 2, 3, 4, 5, 6, 7, 8, 9, 10, 11, 12, 13, 14, 15] [] [0, 1, 2, 3, 4, 5, 6, 7, 8, 9, 10, 11, 12, 13, 14, 15] rfl rfl rfl rfl (by decide) rfl rfl dX5_writeOff_116 (pc2 := 119) rfl rfl ?_
            refine pk_topl (fun n7_ en7_ => ?_)
            refine pk_putX (X' := (mX (zG Z) m rf (M_mk (M_cd c) (M_pt c) (M_mn c) (M_ev c) (M_co c) (M_al c) (M_re c) (M_lo c) (M_rs c) n1_ (M_he c) (M_go c) (M_sp c) (M_ba c) (M_le c) (M_lf c) n2_ (M_un c) (M_ch c) n7_ (M_ac c) (M_bd c)) T)) C i5_ tyX5_ok nmX5 0 rfl (ci := 5) rfl 32 (by decide) w0_ rfl rfl rfl rfl rfl (Nat.le_of_ble_eq_true rfl) rfl dX5_writeOff_119 (pc2 := 122) rfl ?_
            refine pk_goto (tgt := 146) C dX5_writeOff_122 (by decide) ?_
            refine pk_aload_n C 0 dX5_writeOff_146 rfl rfl (pc2 := 147) rfl ?_
            refine pk_aload_n C 0 dX5_writeOff_147 rfl rfl (pc2 := 148) rfl ?_
            refine pk_get (v := .long (M_al c)) C i5_ (pw_atX 0 rfl) (ci := 5) rfl 18 (by decide) w7_ rfl rfl dX5_writeOff_148 (pc2 := 151) rfl ?_
            refine pk_aload_n C 0 dX5_writeOff_151 rfl rfl (pc2 := 152) rfl ?_
            refine pk_get (v := .long n7_) C i5_ (pw_atX 0 rfl) (ci := 5) rfl 32 (by decide) w0_ rfl rfl dX5_writeOff_152 (pc2 := 155) rfl ?_
            refine pk_ladd C dX5_writeOff_155 (pc2 := 156) rfl ?_
            refine pk_topl (fun n8_ en8_ => ?_)
            refine pk_putX (X' := (mX (zG Z) m rf (M_mk (M_cd c) (M_pt c) (M_mn c) (M_ev c) (M_co c) n8_ (M_re c) (M_lo c) (M_rs c) n1_ (M_he c) (M_go c) (M_sp c) (M_ba c) (M_le c) (M_lf c) n2_ (M_un c) (M_ch c) n7_ (M_ac c) (M_bd c)) T)) C i5_ tyX5_ok nmX5 0 rfl (ci := 5) rfl 18 (by decide) w7_ rfl rfl rfl rfl rfl (Nat.le_of_ble_eq_true rfl) rfl dX5_writeOff_156 (pc2 := 159) rfl ?_
            refine pk_aload_n C 0 dX5_writeOff_159 rfl rfl (pc2 := 160) rfl ?_
            refine pk_aload_n C 0 dX5_writeOff_160 rfl rfl (pc2 := 161) rfl ?_
            refine pk_get (v := .long (M_ac c)) C i5_ (pw_atX 0 rfl) (ci := 5) rfl 33 (by decide) w8_ rfl rfl dX5_writeOff_161 (pc2 := 164) rfl ?_
            refine pk_aload_n C 0 dX5_writeOff_164 rfl rfl (pc2 := 165) rfl ?_
            refine pk_get (v := .long n7_) C i5_ (pw_atX 0 rfl) (ci := 5) rfl 32 (by decide) w0_ rfl rfl dX5_writeOff_165 (pc2 := 168) rfl ?_
            refine pk_ladd C dX5_writeOff_168 (pc2 := 169) rfl ?_
            refine pk_topl (fun n9_ en9_ => ?_)
            refine pk_putX (X' := (mX (zG Z) m rf (M_mk (M_cd c) (M_pt c) (M_mn c) (M_ev c) (M_co c) n8_ (M_re c) (M_lo c) (M_rs c) n1_ (M_he c) (M_go c) (M_sp c) (M_ba c) (M_le c) (M_lf c) n2_ (M_un c) (M_ch c) n7_ n9_ (M_bd c)) T)) C i5_ tyX5_ok nmX5 0 rfl (ci := 5) rfl 33 (by decide) w8_ rfl rfl rfl rfl rfl (Nat.le_of_ble_eq_true rfl) rfl dX5_writeOff_169 (pc2 := 172) rfl ?_
            subst en1_ en2_ en7_ en8_ en9_
            exact pr_void C hE (po_d_rfl rfl (by first | with_reducible rfl | (unfold m_X5_writeOff; rw [if_pos h1_, if_pos h2_, if_neg h3_, if_neg h4_, if_pos h5_]))) dX5_writeOff_172
        ·
          refine pk_aload_n C 0 dX5_writeOff_57 rfl rfl (pc2 := 58) rfl ?_
          refine pk_aload_n C 0 dX5_writeOff_58 rfl rfl (pc2 := 59) rfl ?_
          refine pk_get (v := .int (M_un c)) C i5_ (pw_atX 0 rfl) (ci := 5) rfl 30 (by decide) w9_ rfl rfl dX5_writeOff_59 (pc2 := 62) rfl ?_
          refine pk_aload_n C 0 dX5_writeOff_62 rfl rfl (pc2 := 63) rfl ?_
          refine pk_get (v := .ref (rf 6)) C i5_ (pw_atX 0 rfl) (ci := 5) rfl 8 (by decide) w10_ rfl rfl dX5_writeOff_63 (pc2 := 66) rfl ?_
          refine pk_bipush (v := 36) C dX5_writeOff_66 (by decide) (pc2 := 68) rfl ?_
          refine pk_iload_n C 1 dX5_writeOff_68 rfl rfl (pc2 := 69) rfl ?_
          refine pk_imul C dX5_writeOff_69 (pc2 := 70) rfl ?_
          refine pk_iload_n C 2 dX5_writeOff_70 rfl rfl (pc2 := 71) rfl ?_
          refine pk_iadd C dX5_writeOff_71 (pc2 := 72) rfl ?_
          refine pk_iald (v := ((T_us T) (Int32.toNatClampNeg ((36 * p) + mm)))) C (pw_atX 7 rfl) hpm rfl dX5_writeOff_72 (pc2 := 73) rfl ?_
          refine pk_iadd C dX5_writeOff_73 (pc2 := 74) rfl ?_
          refine pk_topi (fun n10_ en10_ => ?_)
          refine pk_putX (X' := (mX (zG Z) m rf (M_mk (M_cd c) (M_pt c) (M_mn c) (M_ev c) (M_co c) (M_al c) (M_re c) (M_lo c) (M_rs c) n1_ (M_he c) (M_go c) (M_sp c) (M_ba c) (M_le c) (M_lf c) n2_ n10_ (M_ch c) 0 (M_ac c) (M_bd c)) T)) C i5_ tyX5_ok nmX5 0 rfl (ci := 5) rfl 30 (by decide) w9_ rfl rfl rfl rfl rfl (Nat.le_of_ble_eq_true rfl) rfl dX5_writeOff_74 (pc2 := 77) rfl ?_
          refine pk_aload_n C 0 dX5_writeOff_77 rfl rfl (pc2 := 78) rfl ?_
          refine pk_aload_n C 0 dX5_writeOff_78 rfl rfl (pc2 := 79) rfl ?_
          refine pk_get (v := .int (M_sp c)) C i5_ (pw_atX 0 rfl) (ci := 5) rfl 25 (by decide) w11_ rfl rfl dX5_writeOff_79 (pc2 := 82) rfl ?_
          refine pk_aload_n C 0 dX5_writeOff_82 rfl rfl (pc2 := 83) rfl ?_
          refine pk_get (v := .ref (rf 6)) C i5_ (pw_atX 0 rfl) (ci := 5) rfl 8 (by decide) w10_ rfl rfl dX5_writeOff_83 (pc2 := 86) rfl ?_
          refine pk_bipush (v := 36) C dX5_writeOff_86 (by decide) (pc2 := 88) rfl ?_
          refine pk_iload_n C 1 dX5_writeOff_88 rfl rfl (pc2 := 89) rfl ?_
          refine pk_imul C dX5_writeOff_89 (pc2 := 90) rfl ?_
          refine pk_iload_n C 2 dX5_writeOff_90 rfl rfl (pc2 := 91) rfl ?_
          refine pk_iadd C dX5_writeOff_91 (pc2 := 92) rfl ?_
          refine pk_iald (v := ((T_us T) (Int32.toNatClampNeg ((36 * p) + mm)))) C (pw_atX 7 rfl) hpm rfl dX5_writeOff_92 (pc2 := 93) rfl ?_
          refine pk_iadd C dX5_writeOff_93 (pc2 := 94) rfl ?_
          refine pk_topi (fun n11_ en11_ => ?_)
          refine pk_putX (X' := (mX (zG Z) m rf (M_mk (M_cd c) (M_pt c) (M_mn c) (M_ev c) (M_co c) (M_al c) (M_re c) (M_lo c) (M_rs c) n1_ (M_he c) (M_go c) n11_ (M_ba c) (M_le c) (M_lf c) n2_ n10_ (M_ch c) 0 (M_ac c) (M_bd c)) T)) C i5_ tyX5_ok nmX5 0 rfl (ci := 5) rfl 25 (by decide) w11_ rfl rfl rfl rfl rfl (Nat.le_of_ble_eq_true rfl) rfl dX5_writeOff_94 (pc2 := 97) rfl ?_
          refine pk_aload_n C 0 dX5_writeOff_97 rfl rfl (pc2 := 98) rfl ?_
          refine pk_get (v := .ref (rf 4)) C i5_ (pw_atX 0 rfl) (ci := 5) rfl 6 (by decide) w5_ rfl rfl dX5_writeOff_98 (pc2 := 101) rfl ?_
          refine pk_iload_n C 1 dX5_writeOff_101 rfl rfl (pc2 := 102) rfl ?_
          refine pk_iald (v := ((T_me T) (Int32.toNatClampNeg p))) C (pw_atX 5 rfl) hp rfl dX5_writeOff_102 (pc2 := 103) rfl ?_
          refine pk_iconst (v := 1) C dX5_writeOff_103 (by decide) (pc2 := 104) rfl ?_
          refine pk_icmp_ne (tgt := 125) C dX5_writeOff_104 (by decide) (pc2 := 107) rfl (fun h6_ => ?_) (fun h6_ => ?_)
          ·
            refine pk_aload_n C 0 dX5_writeOff_125 rfl rfl (pc2 := 126) rfl ?_
            refine pk_iload_n C 1 dX5_writeOff_126 rfl rfl (pc2 := 127) rfl ?_
            refine pk_dV (cx := (mX (zG Z) m rf (M_mk (M_cd c) (M_pt c) (M_mn c) (M_ev c) (M_co c) (M_al c) (M_re c) (M_lo c) (M_rs c) n1_ (M_he c) (M_go c) n11_ (M_ba c) (M_le c) (M_lf c) n2_ n10_ (M_ch c) 0 (M_ac c) (M_bd c)) T)) (wr := []) (X2 := (mX (zG Z) m rf (M_mk (M_cd c) (M_pt c) (M_mn c) (M_ev c) (M_co c) (M_al c) (M_re c) (M_lo c) (M_rs c) n1_ (M_he c) (M_go c) n11_ (M_ba c) (M_le c) (M_lf c) n2_ n10_ (M_ch c) 0 (M_ac c) (M_bd c)) T)) (st := []) (st2 := [.long (m_X5_together (M_mk (M_cd c) (M_pt c) (M_mn c) (M_ev c) (M_co c) (M_al c) (M_re c) (M_lo c) (M_rs c) n1_ (M_he c) (M_go c) n11_ (M_ba c) (M_le c) (M_lf c) n2_ n10_ (M_ch c) 0 (M_ac c) (M_bd c)) T p)]) (As := [.int p]) C (c_X5_together (zl Z) (zG Z) L F m rf (M_mk (M_cd c) (M_pt c) (M_mn c) (M_ev c) (M_co c) (M_al c) (M_re c) (M_lo c) (M_rs c) n1_ (M_he c) (M_go c) n11_ (M_ba c) (M_le c) (M_lf c) n2_ n10_ (M_ch c) 0 (M_ac c) (M_bd c)) T p hp (hle h3_)) gX5_writeOff_X5_together rfl rfl rfl 1 (by decide +kernel) ⟨Nat.le_of_ble_eq_true rfl, Nat.le_of_ble_eq_true rfl⟩ (pw_atX 0 rfl) rfl rfl rfl (Nat.le_of_ble_eq_true rfl) ⟨Nat.le_of_ble_eq_true rfl, Nat.le_of_ble_eq_true rfl⟩ [0, 1, 2, 3, 4, 5, 6, 7, 8, 9, 10, 11, 12, 13, 14, 15] [] [0, 1, 2, 3, 4, 5, 6, 7, 8, 9, 10, 11, 12, 13, 14, 15] rfl rfl rfl rfl (by decide) rfl rfl dX5_writeOff_127 (pc2 := 130) rfl rfl ?_
            refine pk_topl (fun n12_ en12_ => ?_)
            refine pk_lstore_n (lv' := [(3, .long n12_), (0, .ref m), (1, .int p), (2, .int mm)]) C dX5_writeOff_130 rfl (by decide) rfl (pc2 := 131) rfl ?_
            refine pk_aload_n C 1 dX5_writeOff_131 rfl rfl (pc2 := 132) rfl ?_
            refine pk_lload_n C 0 dX5_writeOff_132 rfl rfl (pc2 := 133) rfl ?_
            refine pk_aload_n C 1 dX5_writeOff_133 rfl rfl (pc2 := 134) rfl ?_
            refine pk_get (v := .long (M_ch c)) C i5_ (pw_atX 0 rfl) (ci := 5) rfl 31 (by decide) w6_ rfl rfl dX5_writeOff_134 (pc2 := 137) rfl ?_
            refine pk_lsub C dX5_writeOff_137 (pc2 := 138) rfl ?_
            refine pk_topl (fun n13_ en13_ => ?_)
            refine pk_putX (X' := (mX (zG Z) m rf (M_mk (M_cd c) (M_pt c) (M_mn c) (M_ev c) (M_co c) (M_al c) (M_re c) (M_lo c) (M_rs c) n1_ (M_he c) (M_go c) n11_ (M_ba c) (M_le c) (M_lf c) n2_ n10_ (M_ch c) n13_ (M_ac c) (M_bd c)) T)) C i5_ tyX5_ok nmX5 0 rfl (ci := 5) rfl 32 (by decide) w0_ rfl rfl rfl rfl rfl (Nat.le_of_ble_eq_true rfl) rfl dX5_writeOff_138 (pc2 := 141) rfl ?_
            refine pk_aload_n C 1 dX5_writeOff_141 rfl rfl (pc2 := 142) rfl ?_
            refine pk_lload_n C 0 dX5_writeOff_142 rfl rfl (pc2 := 143) rfl ?_
            refine pk_putX (X' := (mX (zG Z) m rf (M_mk (M_cd c) (M_pt c) (M_mn c) (M_ev c) (M_co c) (M_al c) (M_re c) (M_lo c) (M_rs c) n1_ (M_he c) (M_go c) n11_ (M_ba c) (M_le c) (M_lf c) n2_ n10_ n12_ n13_ (M_ac c) (M_bd c)) T)) C i5_ tyX5_ok nmX5 0 rfl (ci := 5) rfl 31 (by decide) w6_ rfl rfl rfl rfl rfl (Nat.le_of_ble_eq_true rfl) rfl dX5_writeOff_143 (pc2 := 146) rfl ?_
            refine pk_aload_n C 1 dX5_writeOff_146 rfl rfl (pc2 := 147) rfl ?_
            refine pk_aload_n C 1 dX5_writeOff_147 rfl rfl (pc2 := 148) rfl ?_
            refine pk_get (v := .long (M_al c)) C i5_ (pw_atX 0 rfl) (ci := 5) rfl 18 (by decide) w7_ rfl rfl dX5_writeOff_148 (pc2 := 151) rfl ?_
            refine pk_aload_n C 1 dX5_writeOff_151 rfl rfl (pc2 := 152) rfl ?_
            refine pk_get (v := .long n13_) C i5_ (pw_atX 0 rfl) (ci := 5) rfl 32 (by decide) w0_ rfl rfl dX5_writeOff_152 (pc2 := 155) rfl ?_
            refine pk_ladd C dX5_writeOff_155 (pc2 := 156) rfl ?_
            refine pk_topl (fun n14_ en14_ => ?_)
            refine pk_putX (X' := (mX (zG Z) m rf (M_mk (M_cd c) (M_pt c) (M_mn c) (M_ev c) (M_co c) n14_ (M_re c) (M_lo c) (M_rs c) n1_ (M_he c) (M_go c) n11_ (M_ba c) (M_le c) (M_lf c) n2_ n10_ n12_ n13_ (M_ac c) (M_bd c)) T)) C i5_ tyX5_ok nmX5 0 rfl (ci := 5) rfl 18 (by decide) w7_ rfl rfl rfl rfl rfl (Nat.le_of_ble_eq_true rfl) rfl dX5_writeOff_156 (pc2 := 159) rfl ?_
            refine pk_aload_n C 1 dX5_writeOff_159 rfl rfl (pc2 := 160) rfl ?_
            refine pk_aload_n C 1 dX5_writeOff_160 rfl rfl (pc2 := 161) rfl ?_
            refine pk_get (v := .long (M_ac c)) C i5_ (pw_atX 0 rfl) (ci := 5) rfl 33 (by decide) w8_ rfl rfl dX5_writeOff_161 (pc2 := 164) rfl ?_
            refine pk_aload_n C 1 dX5_writeOff_164 rfl rfl (pc2 := 165) rfl ?_
            refine pk_get (v := .long n13_) C i5_ (pw_atX 0 rfl) (ci := 5) rfl 32 (by decide) w0_ rfl rfl dX5_writeOff_165 (pc2 := 168) rfl ?_
            refine pk_ladd C dX5_writeOff_168 (pc2 := 169) rfl ?_
            refine pk_topl (fun n15_ en15_ => ?_)
            refine pk_putX (X' := (mX (zG Z) m rf (M_mk (M_cd c) (M_pt c) (M_mn c) (M_ev c) (M_co c) n14_ (M_re c) (M_lo c) (M_rs c) n1_ (M_he c) (M_go c) n11_ (M_ba c) (M_le c) (M_lf c) n2_ n10_ n12_ n13_ n15_ (M_bd c)) T)) C i5_ tyX5_ok nmX5 0 rfl (ci := 5) rfl 33 (by decide) w8_ rfl rfl rfl rfl rfl (Nat.le_of_ble_eq_true rfl) rfl dX5_writeOff_169 (pc2 := 172) rfl ?_
            subst en1_ en2_ en10_ en11_ en12_ en13_ en14_ en15_
            exact pr_void C hE (po_d_rfl rfl (by first | with_reducible rfl | (unfold m_X5_writeOff; rw [if_pos h1_, if_pos h2_, if_neg h3_, if_pos h4_, if_neg h6_]))) dX5_writeOff_172
          ·
            refine pk_aload_n C 0 dX5_writeOff_107 rfl rfl (pc2 := 108) rfl ?_
            refine pk_aload_n C 0 dX5_writeOff_108 rfl rfl (pc2 := 109) rfl ?_
            refine pk_iload_n C 1 dX5_writeOff_109 rfl rfl (pc2 := 110) rfl ?_
            refine pk_aload_n C 0 dX5_writeOff_110 rfl rfl (pc2 := 111) rfl ?_
            refine pk_get (v := .int n1_) C i5_ (pw_atX 0 rfl) (ci := 5) rfl 22 (by decide) w3_ rfl rfl dX5_writeOff_111 (pc2 := 114) rfl ?_
            refine pk_iconst (v := 1) C dX5_writeOff_114 (by decide) (pc2 := 115) rfl ?_
            refine pk_iadd C dX5_writeOff_115 (pc2 := 116) rfl ?_
            refine pk_dV (cx := (mX (zG Z) m rf (M_mk (M_cd c) (M_pt c) (M_mn c) (M_ev c) (M_co c) (M_al c) (M_re c) (M_lo c) (M_rs c) n1_ (M_he c) (M_go c) n11_ (M_ba c) (M_le c) (M_lf c) n2_ n10_ (M_ch c) 0 (M_ac c) (M_bd c)) T)) (wr := []) (X2 := (mX (zG Z) m rf (M_mk (M_cd c) (M_pt c) (M_mn c) (M_ev c) (M_co c) (M_al c) (M_re c) (M_lo c) (M_rs c) n1_ (M_he c) (M_go c) n11_ (M_ba c) (M_le c) (M_lf c) n2_ n10_ (M_ch c) 0 (M_ac c) (M_bd c)) T)) (st := [.ref m]) (st2 := [.long (m_X5_declining (M_mk (M_cd c) (M_pt c) (M_mn c) (M_ev c) (M_co c) (M_al c) (M_re c) (M_lo c) (M_rs c) n1_ (M_he c) (M_go c) n11_ (M_ba c) (M_le c) (M_lf c) n2_ n10_ (M_ch c) 0 (M_ac c) (M_bd c)) T p (n1_ + 1)), .ref m]) (As := [.int p, .int (n1_ + 1)]) C (c_X5_declining (zl Z) (zG Z) L F m rf (M_mk (M_cd c) (M_pt c) (M_mn c) (M_ev c) (M_co c) (M_al c) (M_re c) (M_lo c) (M_rs c) n1_ (M_he c) (M_go c) n11_ (M_ba c) (M_le c) (M_lf c) n2_ n10_ (M_ch c) 0 (M_ac c) (M_bd c)) T p (n1_ + 1) hp (wo_lb h3_ hli)) gX5_writeOff_X5_declining rfl rfl rfl 2 (by decide +kernel) ⟨Nat.le_of_ble_eq_true rfl, Nat.le_of_ble_eq_true rfl⟩ (pw_atX 0 rfl) rfl rfl rfl (Nat.le_of_ble_eq_true rfl) ⟨Nat.le_of_ble_eq_true rfl, Nat.le_of_ble_eq_true rfl⟩ [0, 1, 2, 3, 4, 5, 6, 7, 8, 9, 10, 11, 12, 13, 14, 15] [] [0, 1, 2, 3, 4, 5, 6, 7, 8, 9, 10, 11, 12, 13, 14, 15] rfl rfl rfl rfl (by decide) rfl rfl dX5_writeOff_116 (pc2 := 119) rfl rfl ?_
            refine pk_topl (fun n16_ en16_ => ?_)
            refine pk_putX (X' := (mX (zG Z) m rf (M_mk (M_cd c) (M_pt c) (M_mn c) (M_ev c) (M_co c) (M_al c) (M_re c) (M_lo c) (M_rs c) n1_ (M_he c) (M_go c) n11_ (M_ba c) (M_le c) (M_lf c) n2_ n10_ (M_ch c) n16_ (M_ac c) (M_bd c)) T)) C i5_ tyX5_ok nmX5 0 rfl (ci := 5) rfl 32 (by decide) w0_ rfl rfl rfl rfl rfl (Nat.le_of_ble_eq_true rfl) rfl dX5_writeOff_119 (pc2 := 122) rfl ?_
            refine pk_goto (tgt := 146) C dX5_writeOff_122 (by decide) ?_
            refine pk_aload_n C 0 dX5_writeOff_146 rfl rfl (pc2 := 147) rfl ?_
            refine pk_aload_n C 0 dX5_writeOff_147 rfl rfl (pc2 := 148) rfl ?_
            refine pk_get (v := .long (M_al c)) C i5_ (pw_atX 0 rfl) (ci := 5) rfl 18 (by decide) w7_ rfl rfl dX5_writeOff_148 (pc2 := 151) rfl ?_
            refine pk_aload_n C 0 dX5_writeOff_151 rfl rfl (pc2 := 152) rfl ?_
            refine pk_get (v := .long n16_) C i5_ (pw_atX 0 rfl) (ci := 5) rfl 32 (by decide) w0_ rfl rfl dX5_writeOff_152 (pc2 := 155) rfl ?_
            refine pk_ladd C dX5_writeOff_155 (pc2 := 156) rfl ?_
            refine pk_topl (fun n17_ en17_ => ?_)
            refine pk_putX (X' := (mX (zG Z) m rf (M_mk (M_cd c) (M_pt c) (M_mn c) (M_ev c) (M_co c) n17_ (M_re c) (M_lo c) (M_rs c) n1_ (M_he c) (M_go c) n11_ (M_ba c) (M_le c) (M_lf c) n2_ n10_ (M_ch c) n16_ (M_ac c) (M_bd c)) T)) C i5_ tyX5_ok nmX5 0 rfl (ci := 5) rfl 18 (by decide) w7_ rfl rfl rfl rfl rfl (Nat.le_of_ble_eq_true rfl) rfl dX5_writeOff_156 (pc2 := 159) rfl ?_
            refine pk_aload_n C 0 dX5_writeOff_159 rfl rfl (pc2 := 160) rfl ?_
            refine pk_aload_n C 0 dX5_writeOff_160 rfl rfl (pc2 := 161) rfl ?_
            refine pk_get (v := .long (M_ac c)) C i5_ (pw_atX 0 rfl) (ci := 5) rfl 33 (by decide) w8_ rfl rfl dX5_writeOff_161 (pc2 := 164) rfl ?_
            refine pk_aload_n C 0 dX5_writeOff_164 rfl rfl (pc2 := 165) rfl ?_
            refine pk_get (v := .long n16_) C i5_ (pw_atX 0 rfl) (ci := 5) rfl 32 (by decide) w0_ rfl rfl dX5_writeOff_165 (pc2 := 168) rfl ?_
            refine pk_ladd C dX5_writeOff_168 (pc2 := 169) rfl ?_
            refine pk_topl (fun n18_ en18_ => ?_)
            refine pk_putX (X' := (mX (zG Z) m rf (M_mk (M_cd c) (M_pt c) (M_mn c) (M_ev c) (M_co c) n17_ (M_re c) (M_lo c) (M_rs c) n1_ (M_he c) (M_go c) n11_ (M_ba c) (M_le c) (M_lf c) n2_ n10_ (M_ch c) n16_ n18_ (M_bd c)) T)) C i5_ tyX5_ok nmX5 0 rfl (ci := 5) rfl 33 (by decide) w8_ rfl rfl rfl rfl rfl (Nat.le_of_ble_eq_true rfl) rfl dX5_writeOff_169 (pc2 := 172) rfl ?_
            subst en1_ en2_ en10_ en11_ en16_ en17_ en18_
            exact pr_void C hE (po_d_rfl rfl (by first | with_reducible rfl | (unfold m_X5_writeOff; rw [if_pos h1_, if_pos h2_, if_neg h3_, if_pos h4_, if_pos h6_]))) dX5_writeOff_172
      ·
        exact pr_void C hE (po_d_rfl rfl (by first | with_reducible rfl | (unfold m_X5_writeOff; rw [if_pos h1_, if_pos h2_, if_pos h3_]))) dX5_writeOff_26
def m_X5_clear (c : MR) (T : TR) : MR :=
  (M_mk (M_cd c) (M_pt c) (M_mn c) (M_ev c) 0 0 0 0 0 0 0 0 0 (M_ba c) (M_le c) (M_lf c) (M_mo c) (M_un c) (M_ch c) 0 0 (M_bd c))
set_option maxRecDepth 100000 in
set_option maxHeartbeats 2000000 in
theorem c_X5_clear (l : Launch) (G : pw_G) (L : List Nat) (F : Nat → va_E) (m : Nat) (rf : Nat → Nat) (c : MR) (T : TR) : PM l yX5_clear wsX5_clear ⟨0, 0, 0, 0⟩ G [.ref m] (mX G m rf c T) L F 0 0 (po_d none (mX G m rf (m_X5_clear c T) T) L F) := by
  refine pm_entry (by decide) rfl rfl (Nat.le_of_ble_eq_true rfl) ?_
  intro Z Q C hl0 hG0 hnm hE
  subst hl0
  subst hG0
  have i5_ : ∀ w ∈ wsX50, w ∈ wsX5_clear := by decide +kernel
  have w0_ : Cond.fieldLink RX5 65 "AgedAssetsModel" "cost" "J" ∈ wsX5_clear := by decide +kernel
  have w1_ : Cond.fieldLink RX5 69 "AgedAssetsModel" "allowance" "J" ∈ wsX5_clear := by decide +kernel
  have w2_ : Cond.fieldLink RX5 106 "AgedAssetsModel" "reserve" "J" ∈ wsX5_clear := by decide +kernel
  have w3_ : Cond.fieldLink RX5 109 "AgedAssetsModel" "losses" "J" ∈ wsX5_clear := by decide +kernel
  have w4_ : Cond.fieldLink RX5 79 "AgedAssetsModel" "residual" "J" ∈ wsX5_clear := by decide +kernel
  have w5_ : Cond.fieldLink RX5 85 "AgedAssetsModel" "rest" "I" ∈ wsX5_clear := by decide +kernel
  have w6_ : Cond.fieldLink RX5 134 "AgedAssetsModel" "held" "Z" ∈ wsX5_clear := by decide +kernel
  have w7_ : Cond.fieldLink RX5 130 "AgedAssetsModel" "gone" "Z" ∈ wsX5_clear := by decide +kernel
  have w8_ : Cond.fieldLink RX5 91 "AgedAssetsModel" "spent" "I" ∈ wsX5_clear := by decide +kernel
  have w9_ : Cond.fieldLink RX5 152 "AgedAssetsModel" "last" "J" ∈ wsX5_clear := by decide +kernel
  have w10_ : Cond.fieldLink RX5 163 "AgedAssetsModel" "sum" "J" ∈ wsX5_clear := by decide +kernel
  show PW Z (mX (zG Z) m rf c T) L F 0 0 Q 0 [(0, .ref m)] []
  refine pk_aload_n C 0 dX5_clear_0 rfl rfl (pc2 := 1) rfl ?_
  refine pk_lconst (v := 0) C dX5_clear_1 (by decide) (pc2 := 2) rfl ?_
  refine pk_putX (X' := (mX (zG Z) m rf (M_mk (M_cd c) (M_pt c) (M_mn c) (M_ev c) 0 (M_al c) (M_re c) (M_lo c) (M_rs c) (M_li c) (M_he c) (M_go c) (M_sp c) (M_ba c) (M_le c) (M_lf c) (M_mo c) (M_un c) (M_ch c) (M_lc c) (M_ac c) (M_bd c)) T)) C i5_ tyX5_ok nmX5 0 rfl (ci := 5) rfl 17 (by decide) w0_ rfl rfl rfl rfl rfl (Nat.le_of_ble_eq_true rfl) rfl dX5_clear_2 (pc2 := 5) rfl ?_
  refine pk_aload_n C 0 dX5_clear_5 rfl rfl (pc2 := 6) rfl ?_
  refine pk_lconst (v := 0) C dX5_clear_6 (by decide) (pc2 := 7) rfl ?_
  refine pk_putX (X' := (mX (zG Z) m rf (M_mk (M_cd c) (M_pt c) (M_mn c) (M_ev c) 0 0 (M_re c) (M_lo c) (M_rs c) (M_li c) (M_he c) (M_go c) (M_sp c) (M_ba c) (M_le c) (M_lf c) (M_mo c) (M_un c) (M_ch c) (M_lc c) (M_ac c) (M_bd c)) T)) C i5_ tyX5_ok nmX5 0 rfl (ci := 5) rfl 18 (by decide) w1_ rfl rfl rfl rfl rfl (Nat.le_of_ble_eq_true rfl) rfl dX5_clear_7 (pc2 := 10) rfl ?_
  refine pk_aload_n C 0 dX5_clear_10 rfl rfl (pc2 := 11) rfl ?_
  refine pk_lconst (v := 0) C dX5_clear_11 (by decide) (pc2 := 12) rfl ?_
  refine pk_putX (X' := (mX (zG Z) m rf (M_mk (M_cd c) (M_pt c) (M_mn c) (M_ev c) 0 0 0 (M_lo c) (M_rs c) (M_li c) (M_he c) (M_go c) (M_sp c) (M_ba c) (M_le c) (M_lf c) (M_mo c) (M_un c) (M_ch c) (M_lc c) (M_ac c) (M_bd c)) T)) C i5_ tyX5_ok nmX5 0 rfl (ci := 5) rfl 19 (by decide) w2_ rfl rfl rfl rfl rfl (Nat.le_of_ble_eq_true rfl) rfl dX5_clear_12 (pc2 := 15) rfl ?_
  refine pk_aload_n C 0 dX5_clear_15 rfl rfl (pc2 := 16) rfl ?_
  refine pk_lconst (v := 0) C dX5_clear_16 (by decide) (pc2 := 17) rfl ?_
  refine pk_putX (X' := (mX (zG Z) m rf (M_mk (M_cd c) (M_pt c) (M_mn c) (M_ev c) 0 0 0 0 (M_rs c) (M_li c) (M_he c) (M_go c) (M_sp c) (M_ba c) (M_le c) (M_lf c) (M_mo c) (M_un c) (M_ch c) (M_lc c) (M_ac c) (M_bd c)) T)) C i5_ tyX5_ok nmX5 0 rfl (ci := 5) rfl 20 (by decide) w3_ rfl rfl rfl rfl rfl (Nat.le_of_ble_eq_true rfl) rfl dX5_clear_17 (pc2 := 20) rfl ?_
  refine pk_aload_n C 0 dX5_clear_20 rfl rfl (pc2 := 21) rfl ?_
  refine pk_lconst (v := 0) C dX5_clear_21 (by decide) (pc2 := 22) rfl ?_
  refine pk_putX (X' := (mX (zG Z) m rf (M_mk (M_cd c) (M_pt c) (M_mn c) (M_ev c) 0 0 0 0 0 (M_li c) (M_he c) (M_go c) (M_sp c) (M_ba c) (M_le c) (M_lf c) (M_mo c) (M_un c) (M_ch c) (M_lc c) (M_ac c) (M_bd c)) T)) C i5_ tyX5_ok nmX5 0 rfl (ci := 5) rfl 21 (by decide) w4_ rfl rfl rfl rfl rfl (Nat.le_of_ble_eq_true rfl) rfl dX5_clear_22 (pc2 := 25) rfl ?_
  refine pk_aload_n C 0 dX5_clear_25 rfl rfl (pc2 := 26) rfl ?_
  refine pk_iconst (v := 0) C dX5_clear_26 (by decide) (pc2 := 27) rfl ?_
  refine pk_putX (X' := (mX (zG Z) m rf (M_mk (M_cd c) (M_pt c) (M_mn c) (M_ev c) 0 0 0 0 0 0 (M_he c) (M_go c) (M_sp c) (M_ba c) (M_le c) (M_lf c) (M_mo c) (M_un c) (M_ch c) (M_lc c) (M_ac c) (M_bd c)) T)) C i5_ tyX5_ok nmX5 0 rfl (ci := 5) rfl 22 (by decide) w5_ rfl rfl rfl rfl rfl (Nat.le_of_ble_eq_true rfl) rfl dX5_clear_27 (pc2 := 30) rfl ?_
  refine pk_aload_n C 0 dX5_clear_30 rfl rfl (pc2 := 31) rfl ?_
  refine pk_iconst (v := 0) C dX5_clear_31 (by decide) (pc2 := 32) rfl ?_
  refine pk_putX (X' := (mX (zG Z) m rf (M_mk (M_cd c) (M_pt c) (M_mn c) (M_ev c) 0 0 0 0 0 0 0 (M_go c) (M_sp c) (M_ba c) (M_le c) (M_lf c) (M_mo c) (M_un c) (M_ch c) (M_lc c) (M_ac c) (M_bd c)) T)) C i5_ tyX5_ok nmX5 0 rfl (ci := 5) rfl 23 (by decide) w6_ rfl rfl rfl rfl rfl (Nat.le_of_ble_eq_true rfl) rfl dX5_clear_32 (pc2 := 35) rfl ?_
  refine pk_aload_n C 0 dX5_clear_35 rfl rfl (pc2 := 36) rfl ?_
  refine pk_iconst (v := 0) C dX5_clear_36 (by decide) (pc2 := 37) rfl ?_
  refine pk_putX (X' := (mX (zG Z) m rf (M_mk (M_cd c) (M_pt c) (M_mn c) (M_ev c) 0 0 0 0 0 0 0 0 (M_sp c) (M_ba c) (M_le c) (M_lf c) (M_mo c) (M_un c) (M_ch c) (M_lc c) (M_ac c) (M_bd c)) T)) C i5_ tyX5_ok nmX5 0 rfl (ci := 5) rfl 24 (by decide) w7_ rfl rfl rfl rfl rfl (Nat.le_of_ble_eq_true rfl) rfl dX5_clear_37 (pc2 := 40) rfl ?_
  refine pk_aload_n C 0 dX5_clear_40 rfl rfl (pc2 := 41) rfl ?_
  refine pk_iconst (v := 0) C dX5_clear_41 (by decide) (pc2 := 42) rfl ?_
  refine pk_putX (X' := (mX (zG Z) m rf (M_mk (M_cd c) (M_pt c) (M_mn c) (M_ev c) 0 0 0 0 0 0 0 0 0 (M_ba c) (M_le c) (M_lf c) (M_mo c) (M_un c) (M_ch c) (M_lc c) (M_ac c) (M_bd c)) T)) C i5_ tyX5_ok nmX5 0 rfl (ci := 5) rfl 25 (by decide) w8_ rfl rfl rfl rfl rfl (Nat.le_of_ble_eq_true rfl) rfl dX5_clear_42 (pc2 := 45) rfl ?_
  refine pk_aload_n C 0 dX5_clear_45 rfl rfl (pc2 := 46) rfl ?_
  refine pk_lconst (v := 0) C dX5_clear_46 (by decide) (pc2 := 47) rfl ?_
  refine pk_putX (X' := (mX (zG Z) m rf (M_mk (M_cd c) (M_pt c) (M_mn c) (M_ev c) 0 0 0 0 0 0 0 0 0 (M_ba c) (M_le c) (M_lf c) (M_mo c) (M_un c) (M_ch c) 0 (M_ac c) (M_bd c)) T)) C i5_ tyX5_ok nmX5 0 rfl (ci := 5) rfl 32 (by decide) w9_ rfl rfl rfl rfl rfl (Nat.le_of_ble_eq_true rfl) rfl dX5_clear_47 (pc2 := 50) rfl ?_
  refine pk_aload_n C 0 dX5_clear_50 rfl rfl (pc2 := 51) rfl ?_
  refine pk_lconst (v := 0) C dX5_clear_51 (by decide) (pc2 := 52) rfl ?_
  refine pk_putX (X' := (mX (zG Z) m rf (M_mk (M_cd c) (M_pt c) (M_mn c) (M_ev c) 0 0 0 0 0 0 0 0 0 (M_ba c) (M_le c) (M_lf c) (M_mo c) (M_un c) (M_ch c) 0 0 (M_bd c)) T)) C i5_ tyX5_ok nmX5 0 rfl (ci := 5) rfl 33 (by decide) w10_ rfl rfl rfl rfl rfl (Nat.le_of_ble_eq_true rfl) rfl dX5_clear_52 (pc2 := 55) rfl ?_
  exact pr_void C hE (po_d_rfl rfl (by first | with_reducible rfl | (unfold m_X5_clear; with_reducible rfl))) dX5_clear_55

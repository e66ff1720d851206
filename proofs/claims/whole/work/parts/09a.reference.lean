theorem ld_i {x : Int32} (h : ¬ x = 0) : ¬ ((2) * (Int32.toInt64 x)) = 0 := by
  intro e
  have h2 := congrArg Int64.toInt e
  rw [Int64.toInt_mul, Int32.toInt_toInt64] at h2
  have h4 : (2 : Int64).toInt = 2 := rfl
  have h5 : (0 : Int64).toInt = 0 := rfl
  rw [h4, h5, Int.bmod_def] at h2
  have h6 := x.toInt_lt
  have h7 := x.le_toInt
  have h8 : ¬ x.toInt = 0 := fun z => h (Int32.toInt_inj.mp (by rw [z]; rfl))
  omega
theorem ld_b {x : Int32} (h : 1 ≤ x.toInt) : ¬ ((2) * (Int32.toInt64 x)) = 0 := ld_i (fun z => by rw [z] at h; exact absurd h (by decide))
theorem ld_l {x : Int32} (h : 1 ≤ x.toInt ∧ x.toInt ≤ 36) : ¬ ((2) * (Int32.toInt64 x)) = 0 := ld_b h.1
theorem ld_t {x : Int32} (h : 1 ≤ x.toInt ∧ x.toInt ≤ 36) : ¬ ((2) * (((Int32.toInt64 x) * (Int32.toInt64 (x + 1))) / (2))) = 0 := by
  obtain ⟨h1, h2⟩ := h
  obtain ⟨k, hk, rfl⟩ : ∃ k : Nat, k < 37 ∧ x = nI k := ⟨x.toInt.toNat, by omega, Int32.toInt_inj.mp (by rw [nI_toInt (by omega)]; omega)⟩
  rw [nI_toInt (by omega)] at h1
  have key : ∀ k : Nat, k < 37 → 1 ≤ k → ¬ ((2) * (((Int32.toInt64 (nI k)) * (Int32.toInt64 (nI k + 1))) / (2))) = 0 := by decide +kernel
  exact key k hk (by omega)
theorem wo_lb {x : Int32} (h : ¬ x = 0) (h2 : 0 ≤ x.toInt) : 1 ≤ ((x - 1) + 1).toInt := by
  have e : (x - 1) + 1 = x := by rw [Int32.sub_add_cancel]
  rw [e]
  have h8 : ¬ x.toInt = 0 := fun z => h (Int32.toInt_inj.mp (by rw [z]; rfl))
  omega
def m_X5_thrown (c : MR) (T : TR) : Int32 :=
  (M_cd c)
set_option maxRecDepth 100000 in
set_option maxHeartbeats 2000000 in
theorem c_X5_thrown (l : Launch) (G : pw_G) (L : List Nat) (F : Nat → va_E) (m : Nat) (rf : Nat → Nat) (c : MR) (T : TR) : PM l yX5_thrown wsX5_thrown ⟨0, 0, 0, 0⟩ G [.ref m] (mX G m rf c T) L F 0 0 (po_d (some (.int (m_X5_thrown c T))) (mX G m rf c T) L F) := by
  refine pm_entry (by decide) rfl rfl (Nat.le_of_ble_eq_true rfl) ?_
  intro Z Q C hl0 hG0 hnm hE
  subst hl0
  subst hG0
  have i5_ : ∀ w ∈ wsX50, w ∈ wsX5_thrown := by decide +kernel
  have w0_ : Cond.fieldLink RX5 56 "AgedAssetsModel" "code" "I" ∈ wsX5_thrown := by decide +kernel
  show PW Z (mX (zG Z) m rf c T) L F 0 0 Q 0 [(0, .ref m)] []
  refine pk_aload_n C 0 dX5_thrown_0 rfl rfl (pc2 := 1) rfl ?_
  refine pk_get (v := .int (M_cd c)) C i5_ (pw_atX 0 rfl) (ci := 5) rfl 0 (by decide) w0_ rfl rfl dX5_thrown_1 (pc2 := 4) rfl ?_
  exact pr_int (ty := .int) C hE rfl rfl (po_d_rfl (by first | with_reducible rfl | (unfold m_X5_thrown; with_reducible rfl)) (by first | with_reducible rfl | (unfold m_X5_thrown; with_reducible rfl))) dX5_thrown_4
def m_X5_isIn (v : Int64) (lo : Int64) (hi : Int64) : Int32 :=
  if v < lo then 0 else if hi < v then 0 else 1
set_option maxRecDepth 100000 in
set_option maxHeartbeats 2000000 in
theorem c_X5_isIn (l : Launch) (G : pw_G) (L : List Nat) (F : Nat → va_E)  (v : Int64) (lo : Int64) (hi : Int64) : PM l yX5_isIn wsX5_isIn ⟨0, 0, 0, 0⟩ G [.long v, .long lo, .long hi] [] L F 0 0 (po_d (some (.int (m_X5_isIn v lo hi))) [] L F) := by
  refine pm_entry (by decide) rfl rfl (Nat.le_of_ble_eq_true rfl) ?_
  intro Z Q C hl0 hG0 hnm hE
  subst hl0
  subst hG0
  show PW Z [] L F 0 0 Q 0 [(0, .long v), (2, .long lo), (4, .long hi)] []
  refine pk_lload_n C 0 dX5_isIn_0 rfl rfl (pc2 := 1) rfl ?_
  refine pk_lload_n C 1 dX5_isIn_1 rfl rfl (pc2 := 2) rfl ?_
  refine pk_lcmp_lt (tgt := 17) C dX5_isIn_2 dX5_isIn_3 (pc1 := 3) rfl (by decide) (pc2 := 6) rfl (fun h1_ => ?_) (fun h1_ => ?_)
  ·
    refine pk_iconst (v := 0) C dX5_isIn_17 (by decide) (pc2 := 18) rfl ?_
    exact pr_int (ty := .boolean) C hE rfl rfl (po_d_rfl (by first | with_reducible rfl | (unfold m_X5_isIn; rw [if_pos h1_])) (by first | with_reducible rfl | (unfold m_X5_isIn; rw [if_pos h1_]))) dX5_isIn_18
  ·
    refine pk_lload_n C 0 dX5_isIn_6 rfl rfl (pc2 := 7) rfl ?_
    refine pk_lload C 2 dX5_isIn_7 rfl (pc2 := 9) rfl ?_
    refine pk_lcmp_gt (tgt := 17) C dX5_isIn_9 dX5_isIn_10 (pc1 := 10) rfl (by decide) (pc2 := 13) rfl (fun h2_ => ?_) (fun h2_ => ?_)
    ·
      refine pk_iconst (v := 0) C dX5_isIn_17 (by decide) (pc2 := 18) rfl ?_
      exact pr_int (ty := .boolean) C hE rfl rfl (po_d_rfl (by first | with_reducible rfl | (unfold m_X5_isIn; rw [if_neg h1_, if_pos h2_])) (by first | with_reducible rfl | (unfold m_X5_isIn; rw [if_neg h1_, if_pos h2_]))) dX5_isIn_18
    ·
      refine pk_iconst (v := 1) C dX5_isIn_13 (by decide) (pc2 := 14) rfl ?_
      refine pk_goto (tgt := 18) C dX5_isIn_14 (by decide) ?_
      exact pr_int (ty := .boolean) C hE rfl rfl (po_d_rfl (by first | with_reducible rfl | (unfold m_X5_isIn; rw [if_neg h1_, if_neg h2_])) (by first | with_reducible rfl | (unfold m_X5_isIn; rw [if_neg h1_, if_neg h2_]))) dX5_isIn_18
theorem zb_m_X5_isIn (v : Int64) (lo : Int64) (hi : Int64) : (m_X5_isIn v lo hi) = 0 ∨ (m_X5_isIn v lo hi) = 1 := by
  unfold m_X5_isIn
  repeat (first | split | (exact Or.inl rfl) | (exact Or.inr rfl) | assumption)
def m_X5_rounded (x : Int64) (y : Int64) : Int64 :=
  ((((2) * x) + y) / ((2) * y))
set_option maxRecDepth 100000 in
set_option maxHeartbeats 2000000 in
theorem c_X5_rounded (l : Launch) (G : pw_G) (L : List Nat) (F : Nat → va_E)  (x : Int64) (y : Int64) (hy : ¬ ((2) * y) = 0) : PM l yX5_rounded wsX5_rounded ⟨0, 0, 0, 0⟩ G [.long x, .long y] [] L F 0 0 (po_d (some (.long (m_X5_rounded x y))) [] L F) := by
  refine pm_entry (by decide) rfl rfl (Nat.le_of_ble_eq_true rfl) ?_
  intro Z Q C hl0 hG0 hnm hE
  subst hl0
  subst hG0
  have w0_ : Cond.constantLong RX5 60 (2) ∈ wsX5_rounded := by decide +kernel
  show PW Z [] L F 0 0 Q 0 [(0, .long x), (2, .long y)] []
  refine pk_ldc2 C w0_ dX5_rounded_0 (pc2 := 3) rfl ?_
  refine pk_lload_n C 0 dX5_rounded_3 rfl rfl (pc2 := 4) rfl ?_
  refine pk_lmul C dX5_rounded_4 (pc2 := 5) rfl ?_
  refine pk_lload_n C 1 dX5_rounded_5 rfl rfl (pc2 := 6) rfl ?_
  refine pk_ladd C dX5_rounded_6 (pc2 := 7) rfl ?_
  refine pk_ldc2 C w0_ dX5_rounded_7 (pc2 := 10) rfl ?_
  refine pk_lload_n C 1 dX5_rounded_10 rfl rfl (pc2 := 11) rfl ?_
  refine pk_lmul C dX5_rounded_11 (pc2 := 12) rfl ?_
  refine pk_ldiv C dX5_rounded_12 hy (pc2 := 13) rfl ?_
  exact pr_long C hE (po_d_rfl (by first | with_reducible rfl | (unfold m_X5_rounded; with_reducible rfl)) (by first | with_reducible rfl | (unfold m_X5_rounded; with_reducible rfl))) dX5_rounded_13
def m_X5_isPart (c : MR) (T : TR) (p : Int32) : Int32 :=
  if p < 0 then 0 else if (M_pt c) ≤ p then 0 else 1
set_option maxRecDepth 100000 in
set_option maxHeartbeats 2000000 in
theorem c_X5_isPart (l : Launch) (G : pw_G) (L : List Nat) (F : Nat → va_E) (m : Nat) (rf : Nat → Nat) (c : MR) (T : TR) (p : Int32) : PM l yX5_isPart wsX5_isPart ⟨0, 0, 0, 0⟩ G [.ref m, .int p] (mX G m rf c T) L F 0 0 (po_d (some (.int (m_X5_isPart c T p))) (mX G m rf c T) L F) := by
  refine pm_entry (by decide) rfl rfl (Nat.le_of_ble_eq_true rfl) ?_
  intro Z Q C hl0 hG0 hnm hE
  subst hl0
  subst hG0
  have i5_ : ∀ w ∈ wsX50, w ∈ wsX5_isPart := by decide +kernel
  have w0_ : Cond.fieldLink RX5 62 "AgedAssetsModel" "parts" "I" ∈ wsX5_isPart := by decide +kernel
  show PW Z (mX (zG Z) m rf c T) L F 0 0 Q 0 [(0, .ref m), (1, .int p)] []
  refine pk_iload_n C 1 dX5_isPart_0 rfl rfl (pc2 := 1) rfl ?_
  refine pk_if_lt (tgt := 16) C dX5_isPart_1 (by decide) (pc2 := 4) rfl (fun h1_ => ?_) (fun h1_ => ?_)
  ·
    refine pk_iconst (v := 0) C dX5_isPart_16 (by decide) (pc2 := 17) rfl ?_
    exact pr_int (ty := .boolean) C hE rfl rfl (po_d_rfl (by first | with_reducible rfl | (unfold m_X5_isPart; rw [if_pos h1_])) (by first | with_reducible rfl | (unfold m_X5_isPart; rw [if_pos h1_]))) dX5_isPart_17
  ·
    refine pk_iload_n C 1 dX5_isPart_4 rfl rfl (pc2 := 5) rfl ?_
    refine pk_aload_n C 0 dX5_isPart_5 rfl rfl (pc2 := 6) rfl ?_
    refine pk_get (v := .int (M_pt c)) C i5_ (pw_atX 0 rfl) (ci := 5) rfl 1 (by decide) w0_ rfl rfl dX5_isPart_6 (pc2 := 9) rfl ?_
    refine pk_icmp_ge (tgt := 16) C dX5_isPart_9 (by decide) (pc2 := 12) rfl (fun h2_ => ?_) (fun h2_ => ?_)
    ·
      refine pk_iconst (v := 0) C dX5_isPart_16 (by decide) (pc2 := 17) rfl ?_
      exact pr_int (ty := .boolean) C hE rfl rfl (po_d_rfl (by first | with_reducible rfl | (unfold m_X5_isPart; rw [if_neg h1_, if_pos h2_])) (by first | with_reducible rfl | (unfold m_X5_isPart; rw [if_neg h1_, if_pos h2_]))) dX5_isPart_17
    ·
      refine pk_iconst (v := 1) C dX5_isPart_12 (by decide) (pc2 := 13) rfl ?_
      refine pk_goto (tgt := 17) C dX5_isPart_13 (by decide) ?_
      exact pr_int (ty := .boolean) C hE rfl rfl (po_d_rfl (by first | with_reducible rfl | (unfold m_X5_isPart; rw [if_neg h1_, if_neg h2_])) (by first | with_reducible rfl | (unfold m_X5_isPart; rw [if_neg h1_, if_neg h2_]))) dX5_isPart_17
theorem zb_m_X5_isPart (c : MR) (T : TR) (p : Int32) : (m_X5_isPart c T p) = 0 ∨ (m_X5_isPart c T p) = 1 := by
  unfold m_X5_isPart
  repeat (first | split | (exact Or.inl rfl) | (exact Or.inr rfl) | assumption)
def m_X5_isMonth (mm : Int32) : Int32 :=
  if mm < 0 then 0 else if 36 ≤ mm then 0 else 1
set_option maxRecDepth 100000 in
set_option maxHeartbeats 2000000 in
theorem c_X5_isMonth (l : Launch) (G : pw_G) (L : List Nat) (F : Nat → va_E)  (mm : Int32) : PM l yX5_isMonth wsX5_isMonth ⟨0, 0, 0, 0⟩ G [.int mm] [] L F 0 0 (po_d (some (.int (m_X5_isMonth mm))) [] L F) := by
  refine pm_entry (by decide) rfl rfl (Nat.le_of_ble_eq_true rfl) ?_
  intro Z Q C hl0 hG0 hnm hE
  subst hl0
  subst hG0
  show PW Z [] L F 0 0 Q 0 [(0, .int mm)] []
  refine pk_iload_n C 0 dX5_isMonth_0 rfl rfl (pc2 := 1) rfl ?_
  refine pk_if_lt (tgt := 14) C dX5_isMonth_1 (by decide) (pc2 := 4) rfl (fun h1_ => ?_) (fun h1_ => ?_)
  ·
    refine pk_iconst (v := 0) C dX5_isMonth_14 (by decide) (pc2 := 15) rfl ?_
    exact pr_int (ty := .boolean) C hE rfl rfl (po_d_rfl (by first | with_reducible rfl | (unfold m_X5_isMonth; rw [if_pos h1_])) (by first | with_reducible rfl | (unfold m_X5_isMonth; rw [if_pos h1_]))) dX5_isMonth_15
  ·
    refine pk_iload_n C 0 dX5_isMonth_4 rfl rfl (pc2 := 5) rfl ?_
    refine pk_bipush (v := 36) C dX5_isMonth_5 (by decide) (pc2 := 7) rfl ?_
    refine pk_icmp_ge (tgt := 14) C dX5_isMonth_7 (by decide) (pc2 := 10) rfl (fun h2_ => ?_) (fun h2_ => ?_)
    ·
      refine pk_iconst (v := 0) C dX5_isMonth_14 (by decide) (pc2 := 15) rfl ?_
      exact pr_int (ty := .boolean) C hE rfl rfl (po_d_rfl (by first | with_reducible rfl | (unfold m_X5_isMonth; rw [if_neg h1_, if_pos h2_])) (by first | with_reducible rfl | (unfold m_X5_isMonth; rw [if_neg h1_, if_pos h2_]))) dX5_isMonth_15
    ·
      refine pk_iconst (v := 1) C dX5_isMonth_10 (by decide) (pc2 := 11) rfl ?_
      refine pk_goto (tgt := 15) C dX5_isMonth_11 (by decide) ?_
      exact pr_int (ty := .boolean) C hE rfl rfl (po_d_rfl (by first | with_reducible rfl | (unfold m_X5_isMonth; rw [if_neg h1_, if_neg h2_])) (by first | with_reducible rfl | (unfold m_X5_isMonth; rw [if_neg h1_, if_neg h2_]))) dX5_isMonth_15
theorem zb_m_X5_isMonth (mm : Int32) : (m_X5_isMonth mm) = 0 ∨ (m_X5_isMonth mm) = 1 := by
  unfold m_X5_isMonth
  repeat (first | split | (exact Or.inl rfl) | (exact Or.inr rfl) | assumption)
def m_X5_book (c : MR) (T : TR) : Int64 :=
  ((M_co c) - (M_al c))
set_option maxRecDepth 100000 in
set_option maxHeartbeats 2000000 in
theorem c_X5_book (l : Launch) (G : pw_G) (L : List Nat) (F : Nat → va_E) (m : Nat) (rf : Nat → Nat) (c : MR) (T : TR) : PM l yX5_book wsX5_book ⟨0, 0, 0, 0⟩ G [.ref m] (mX G m rf c T) L F 0 0 (po_d (some (.long (m_X5_book c T))) (mX G m rf c T) L F) := by
  refine pm_entry (by decide) rfl rfl (Nat.le_of_ble_eq_true rfl) ?_
  intro Z Q C hl0 hG0 hnm hE
  subst hl0
  subst hG0
  have i5_ : ∀ w ∈ wsX50, w ∈ wsX5_book := by decide +kernel
  have w0_ : Cond.fieldLink RX5 65 "AgedAssetsModel" "cost" "J" ∈ wsX5_book := by decide +kernel
  have w1_ : Cond.fieldLink RX5 69 "AgedAssetsModel" "allowance" "J" ∈ wsX5_book := by decide +kernel
  show PW Z (mX (zG Z) m rf c T) L F 0 0 Q 0 [(0, .ref m)] []
  refine pk_aload_n C 0 dX5_book_0 rfl rfl (pc2 := 1) rfl ?_
  refine pk_get (v := .long (M_co c)) C i5_ (pw_atX 0 rfl) (ci := 5) rfl 17 (by decide) w0_ rfl rfl dX5_book_1 (pc2 := 4) rfl ?_
  refine pk_aload_n C 0 dX5_book_4 rfl rfl (pc2 := 5) rfl ?_
  refine pk_get (v := .long (M_al c)) C i5_ (pw_atX 0 rfl) (ci := 5) rfl 18 (by decide) w1_ rfl rfl dX5_book_5 (pc2 := 8) rfl ?_
  refine pk_lsub C dX5_book_8 (pc2 := 9) rfl ?_
  exact pr_long C hE (po_d_rfl (by first | with_reducible rfl | (unfold m_X5_book; with_reducible rfl)) (by first | with_reducible rfl | (unfold m_X5_book; with_reducible rfl))) dX5_book_9

def m_X0_book (c : CR) (t : SR) : Int64 :=
  ((C_co c) - (C_al c))
set_option maxRecDepth 100000 in
set_option maxHeartbeats 2000000 in
theorem c_X0_book (l : Launch) (G : pw_G) (L : List Nat) (F : Nat → va_E) (a b : Nat) (c : CR) (t : SR) : PM l yX0_book wsX0_book ⟨0, 0, 0, 0⟩ G [.ref a] [(a, cC b c), (b, cS t)] L F 0 0 (po_d (some (.long (m_X0_book c t))) [(a, cC b c), (b, cS t)] L F) := by
  refine pm_entry (by decide) rfl rfl (Nat.le_of_ble_eq_true rfl) ?_
  intro Z Q C hl0 hG0 hnm hE
  subst hl0
  subst hG0
  have i0_ : ∀ w ∈ wsX00, w ∈ wsX0_book := by decide +kernel
  have w0_ : Cond.fieldLink RX0 33 "AgedAssets$Course" "cost" "J" ∈ wsX0_book := by decide +kernel
  have w1_ : Cond.fieldLink RX0 34 "AgedAssets$Course" "allowance" "J" ∈ wsX0_book := by decide +kernel
  show PW Z [(a, cC b c), (b, cS t)] L F 0 0 Q 0 [(0, .ref a)] []
  refine pk_aload_n C 0 dX0_book_0 rfl rfl (pc2 := 1) rfl ?_
  refine pk_get (v := .long (C_co c)) C i0_ (pw_atX 0 rfl) (ci := 0) rfl 3 (by decide) w0_ rfl rfl dX0_book_1 (pc2 := 4) rfl ?_
  refine pk_aload_n C 0 dX0_book_4 rfl rfl (pc2 := 5) rfl ?_
  refine pk_get (v := .long (C_al c)) C i0_ (pw_atX 0 rfl) (ci := 0) rfl 4 (by decide) w1_ rfl rfl dX0_book_5 (pc2 := 8) rfl ?_
  refine pk_lsub C dX0_book_8 (pc2 := 9) rfl ?_
  exact pr_long C hE (po_d_rfl (by first | with_reducible rfl | (unfold m_X0_book; with_reducible rfl)) (by first | with_reducible rfl | (unfold m_X0_book; with_reducible rfl))) dX0_book_9
def m_X0_bookOrNone (c : CR) (t : SR) : Int64 :=
  if (C_br c) = 0 then (m_X0_book c t) else (-1)
set_option maxRecDepth 100000 in
set_option maxHeartbeats 2000000 in
theorem c_X0_bookOrNone (l : Launch) (G : pw_G) (L : List Nat) (F : Nat → va_E) (a b : Nat) (c : CR) (t : SR) : PM l yX0_bookOrNone wsX0_bookOrNone ⟨1, 0, 0, 20⟩ G [.ref a] [(a, cC b c), (b, cS t)] L F 0 0 (po_d (some (.long (m_X0_bookOrNone c t))) [(a, cC b c), (b, cS t)] L F) := by
  refine pm_entry (by decide) rfl rfl (Nat.le_of_ble_eq_true rfl) ?_
  intro Z Q C hl0 hG0 hnm hE
  subst hl0
  subst hG0
  have i0_ : ∀ w ∈ wsX00, w ∈ wsX0_bookOrNone := by decide +kernel
  have w0_ : Cond.fieldLink RX0 60 "AgedAssets$Course" "breached" "Z" ∈ wsX0_bookOrNone := by decide +kernel
  have w1_ : Cond.constantLong RX0 75 (-1) ∈ wsX0_bookOrNone := by decide +kernel
  show PW Z [(a, cC b c), (b, cS t)] L F 0 0 Q 0 [(0, .ref a)] []
  refine pk_aload_n C 0 dX0_bookOrNone_0 rfl rfl (pc2 := 1) rfl ?_
  refine pk_get (v := .int (C_br c)) C i0_ (pw_atX 0 rfl) (ci := 0) rfl 11 (by decide) w0_ rfl rfl dX0_bookOrNone_1 (pc2 := 4) rfl ?_
  refine pk_if_eq (tgt := 13) C dX0_bookOrNone_4 (by decide) (pc2 := 7) rfl (fun h1_ => ?_) (fun h1_ => ?_)
  ·
    refine pk_aload_n C 0 dX0_bookOrNone_13 rfl rfl (pc2 := 14) rfl ?_
    refine pk_dV (cx := [(a, cC b c), (b, cS t)]) (wr := []) (X2 := [(a, cC b c), (b, cS t)]) (st := []) (st2 := [.long (m_X0_book c t)]) (As := []) C (c_X0_book (zl Z) (zG Z) L F a b c t) gX0_bookOrNone_X0_book rfl rfl rfl 0 (by decide +kernel) ⟨Nat.le_of_ble_eq_true rfl, Nat.le_of_ble_eq_true rfl⟩ (pw_atX 0 rfl) rfl rfl rfl (Nat.le_of_ble_eq_true rfl) ⟨Nat.le_of_ble_eq_true rfl, Nat.le_of_ble_eq_true rfl⟩ [0, 1] [] [0, 1] rfl rfl rfl rfl (by decide) rfl rfl dX0_bookOrNone_14 (pc2 := 17) rfl rfl ?_
    refine pk_topl (fun n1_ en1_ => ?_)
    subst en1_
    exact pr_long C hE (po_d_rfl (by first | with_reducible rfl | (unfold m_X0_bookOrNone; rw [if_pos h1_])) (by first | with_reducible rfl | (unfold m_X0_bookOrNone; rw [if_pos h1_]))) dX0_bookOrNone_17
  ·
    refine pk_ldc2 C w1_ dX0_bookOrNone_7 (pc2 := 10) rfl ?_
    refine pk_goto (tgt := 17) C dX0_bookOrNone_10 (by decide) ?_
    exact pr_long C hE (po_d_rfl (by first | with_reducible rfl | (unfold m_X0_bookOrNone; rw [if_neg h1_])) (by first | with_reducible rfl | (unfold m_X0_bookOrNone; rw [if_neg h1_]))) dX0_bookOrNone_17
def m_X0_lose (c : CR) (t : SR) (x : Int64) : CR :=
  (C_mk (C_me c) (C_ra c) (C_co c) (C_al c) ((C_re c) - (jmin x (C_re c))) ((C_lo c) + (x - (jmin x (C_re c)))) (C_rs c) (C_li c) (C_he c) (C_go c) (C_br c) (C_cu c) (C_lc c) (C_ac c))
set_option maxRecDepth 100000 in
set_option maxHeartbeats 2000000 in
theorem c_X0_lose (l : Launch) (G : pw_G) (L : List Nat) (F : Nat → va_E) (a b : Nat) (c : CR) (t : SR) (x : Int64) : PM l yX0_lose wsX0_lose ⟨1, 0, 0, 15⟩ G [.ref a, .long x] [(a, cC b c), (b, cS t)] L F 0 0 (po_d none [(a, cC b (m_X0_lose c t x)), (b, cS t)] L F) := by
  refine pm_entry (by decide) rfl rfl (Nat.le_of_ble_eq_true rfl) ?_
  intro Z Q C hl0 hG0 hnm hE
  subst hl0
  subst hG0
  have i0_ : ∀ w ∈ wsX00, w ∈ wsX0_lose := by decide +kernel
  have w0_ : Cond.fieldLink RX0 37 "AgedAssets$Course" "reserve" "J" ∈ wsX0_lose := by decide +kernel
  have w1_ : Cond.methodLink RX0 124 Lib.MathLoose.min_long.x ∈ wsX0_lose := by decide +kernel
  have w2_ : Cond.static Lib.MathLoose.min_long.x ∈ wsX0_lose := by decide +kernel
  have w3_ : Cond.initialized "java/lang/Math" ∈ wsX0_lose := by decide +kernel
  have w4_ : Cond.code Lib.MathLoose.min_long.x Lib.MathLoose.min_long.code 4 (some .long) ∈ wsX0_lose := by decide +kernel
  have w5_ : Cond.fieldLink RX0 40 "AgedAssets$Course" "losses" "J" ∈ wsX0_lose := by decide +kernel
  show PW Z [(a, cC b c), (b, cS t)] L F 0 0 Q 0 [(0, .ref a), (1, .long x)] []
  refine pk_lload_n C 1 dX0_lose_0 rfl rfl (pc2 := 1) rfl ?_
  refine pk_aload_n C 0 dX0_lose_1 rfl rfl (pc2 := 2) rfl ?_
  refine pk_get (v := .long (C_re c)) C i0_ (pw_atX 0 rfl) (ci := 0) rfl 5 (by decide) w0_ rfl rfl dX0_lose_2 (pc2 := 5) rfl ?_
  refine pk_minl (v := (jmin x (C_re c))) C ⟨w1_, w2_, w3_, w4_⟩ (Nat.le_of_ble_eq_true rfl) (Nat.le_of_ble_eq_true rfl) (Nat.le_of_ble_eq_true rfl) (Nat.le_of_ble_eq_true rfl) dX0_lose_5 (pc2 := 8) rfl rfl ?_
  refine pk_topl (fun n1_ en1_ => ?_)
  refine pk_lstore_n (lv' := [(3, .long n1_), (0, .ref a), (1, .long x)]) C dX0_lose_8 rfl (by decide) rfl (pc2 := 9) rfl ?_
  refine pk_aload_n C 1 dX0_lose_9 rfl rfl (pc2 := 10) rfl ?_
  refine pk_dup C dX0_lose_10 rfl (pc2 := 11) rfl ?_
  refine pk_get (v := .long (C_re c)) C i0_ (pw_atX 0 rfl) (ci := 0) rfl 5 (by decide) w0_ rfl rfl dX0_lose_11 (pc2 := 14) rfl ?_
  refine pk_lload_n C 0 dX0_lose_14 rfl rfl (pc2 := 15) rfl ?_
  refine pk_lsub C dX0_lose_15 (pc2 := 16) rfl ?_
  refine pk_topl (fun n2_ en2_ => ?_)
  refine pk_putX (X' := [(a, kC b (C_me c) (C_ra c) (C_co c) (C_al c) n2_ (C_lo c) (C_rs c) (C_li c) (C_he c) (C_go c) (C_br c) (C_cu c) (C_lc c) (C_ac c)), (b, cS t)]) C i0_ tyX0_ok nmX0 0 rfl (ci := 0) rfl 5 (by decide) w0_ rfl rfl rfl rfl rfl (Nat.le_of_ble_eq_true rfl) rfl dX0_lose_16 (pc2 := 19) rfl ?_
  refine pk_aload_n C 1 dX0_lose_19 rfl rfl (pc2 := 20) rfl ?_
  refine pk_dup C dX0_lose_20 rfl (pc2 := 21) rfl ?_
  refine pk_get (v := .long (C_lo c)) C i0_ (pw_atX 0 rfl) (ci := 0) rfl 6 (by decide) w5_ rfl rfl dX0_lose_21 (pc2 := 24) rfl ?_
  refine pk_lload_n C 2 dX0_lose_24 rfl rfl (pc2 := 25) rfl ?_
  refine pk_lload_n C 0 dX0_lose_25 rfl rfl (pc2 := 26) rfl ?_
  refine pk_lsub C dX0_lose_26 (pc2 := 27) rfl ?_
  refine pk_ladd C dX0_lose_27 (pc2 := 28) rfl ?_
  refine pk_topl (fun n3_ en3_ => ?_)
  refine pk_putX (X' := [(a, kC b (C_me c) (C_ra c) (C_co c) (C_al c) n2_ n3_ (C_rs c) (C_li c) (C_he c) (C_go c) (C_br c) (C_cu c) (C_lc c) (C_ac c)), (b, cS t)]) C i0_ tyX0_ok nmX0 0 rfl (ci := 0) rfl 6 (by decide) w5_ rfl rfl rfl rfl rfl (Nat.le_of_ble_eq_true rfl) rfl dX0_lose_28 (pc2 := 31) rfl ?_
  refine pw_conv (X' := [(a, cC b (C_mk (C_me c) (C_ra c) (C_co c) (C_al c) n2_ n3_ (C_rs c) (C_li c) (C_he c) (C_go c) (C_br c) (C_cu c) (C_lc c) (C_ac c))), (b, cS t)]) rfl ?_
  subst en1_ en2_ en3_
  exact pr_void C hE (po_d_rfl rfl (by first | with_reducible rfl | (unfold m_X0_lose; with_reducible rfl))) dX0_lose_31
def m_X0_impair (c : CR) (t : SR) (x : Int64) : CR :=
  (C_mk (C_me (m_X0_lose c t x)) (C_ra (m_X0_lose c t x)) (C_co (m_X0_lose c t x)) ((C_al (m_X0_lose c t x)) + x) (C_re (m_X0_lose c t x)) (C_lo (m_X0_lose c t x)) (C_rs (m_X0_lose c t x)) (C_li (m_X0_lose c t x)) (C_he (m_X0_lose c t x)) (C_go (m_X0_lose c t x)) (C_br (m_X0_lose c t x)) (C_cu (m_X0_lose c t x)) (C_lc (m_X0_lose c t x)) (C_ac (m_X0_lose c t x)))
set_option maxRecDepth 100000 in
set_option maxHeartbeats 2000000 in
theorem c_X0_impair (l : Launch) (G : pw_G) (L : List Nat) (F : Nat → va_E) (a b : Nat) (c : CR) (t : SR) (x : Int64) : PM l yX0_impair wsX0_impair ⟨2, 0, 0, 39⟩ G [.ref a, .long x] [(a, cC b c), (b, cS t)] L F 0 0 (po_d none [(a, cC b (m_X0_impair c t x)), (b, cS t)] L F) := by
  refine pm_entry (by decide) rfl rfl (Nat.le_of_ble_eq_true rfl) ?_
  intro Z Q C hl0 hG0 hnm hE
  subst hl0
  subst hG0
  have i0_ : ∀ w ∈ wsX00, w ∈ wsX0_impair := by decide +kernel
  have w0_ : Cond.fieldLink RX0 34 "AgedAssets$Course" "allowance" "J" ∈ wsX0_impair := by decide +kernel
  show PW Z [(a, cC b c), (b, cS t)] L F 0 0 Q 0 [(0, .ref a), (1, .long x)] []
  refine pk_aload_n C 0 dX0_impair_0 rfl rfl (pc2 := 1) rfl ?_
  refine pk_lload_n C 1 dX0_impair_1 rfl rfl (pc2 := 2) rfl ?_
  refine pk_dV (cx := [(a, cC b c), (b, cS t)]) (wr := []) (X2 := [(a, cC b (m_X0_lose c t x)), (b, cS t)]) (st := []) (st2 := []) (As := [.long x]) C (c_X0_lose (zl Z) (zG Z) L F a b c t x) gX0_impair_X0_lose rfl rfl rfl 1 (by decide +kernel) ⟨Nat.le_of_ble_eq_true rfl, Nat.le_of_ble_eq_true rfl⟩ (pw_atX 0 rfl) rfl rfl rfl (Nat.le_of_ble_eq_true rfl) ⟨Nat.le_of_ble_eq_true rfl, Nat.le_of_ble_eq_true rfl⟩ [0, 1] [] [0, 1] rfl rfl rfl rfl (by decide) rfl rfl dX0_impair_2 (pc2 := 5) rfl rfl ?_
  generalize en1_ : (m_X0_lose c t x) = n1_
  refine pk_aload_n C 0 dX0_impair_5 rfl rfl (pc2 := 6) rfl ?_
  refine pk_dup C dX0_impair_6 rfl (pc2 := 7) rfl ?_
  refine pk_get (v := .long (C_al n1_)) C i0_ (pw_atX 0 rfl) (ci := 0) rfl 4 (by decide) w0_ rfl rfl dX0_impair_7 (pc2 := 10) rfl ?_
  refine pk_lload_n C 1 dX0_impair_10 rfl rfl (pc2 := 11) rfl ?_
  refine pk_ladd C dX0_impair_11 (pc2 := 12) rfl ?_
  refine pk_topl (fun n2_ en2_ => ?_)
  refine pk_putX (X' := [(a, kC b (C_me n1_) (C_ra n1_) (C_co n1_) n2_ (C_re n1_) (C_lo n1_) (C_rs n1_) (C_li n1_) (C_he n1_) (C_go n1_) (C_br n1_) (C_cu n1_) (C_lc n1_) (C_ac n1_)), (b, cS t)]) C i0_ tyX0_ok nmX0 0 rfl (ci := 0) rfl 4 (by decide) w0_ rfl rfl rfl rfl rfl (Nat.le_of_ble_eq_true rfl) rfl dX0_impair_12 (pc2 := 15) rfl ?_
  refine pw_conv (X' := [(a, cC b (C_mk (C_me n1_) (C_ra n1_) (C_co n1_) n2_ (C_re n1_) (C_lo n1_) (C_rs n1_) (C_li n1_) (C_he n1_) (C_go n1_) (C_br n1_) (C_cu n1_) (C_lc n1_) (C_ac n1_))), (b, cS t)]) rfl ?_
  subst en1_ en2_
  exact pr_void C hE (po_d_rfl rfl (by first | with_reducible rfl | (unfold m_X0_impair; with_reducible rfl))) dX0_impair_15
def m_X0_restore (c : CR) (t : SR) (x : Int64) : CR :=
  (C_mk (C_me c) (C_ra c) (C_co c) ((C_al c) - x) (C_re c) ((C_lo c) - (jmin x (C_lo c))) (C_rs c) (C_li c) (C_he c) (C_go c) (C_br c) (C_cu c) (C_lc c) (C_ac c))
set_option maxRecDepth 100000 in
set_option maxHeartbeats 2000000 in
theorem c_X0_restore (l : Launch) (G : pw_G) (L : List Nat) (F : Nat → va_E) (a b : Nat) (c : CR) (t : SR) (x : Int64) : PM l yX0_restore wsX0_restore ⟨1, 0, 0, 18⟩ G [.ref a, .long x] [(a, cC b c), (b, cS t)] L F 0 0 (po_d none [(a, cC b (m_X0_restore c t x)), (b, cS t)] L F) := by
  refine pm_entry (by decide) rfl rfl (Nat.le_of_ble_eq_true rfl) ?_
  intro Z Q C hl0 hG0 hnm hE
  subst hl0
  subst hG0
  have i0_ : ∀ w ∈ wsX00, w ∈ wsX0_restore := by decide +kernel
  have w0_ : Cond.fieldLink RX0 34 "AgedAssets$Course" "allowance" "J" ∈ wsX0_restore := by decide +kernel
  have w1_ : Cond.fieldLink RX0 40 "AgedAssets$Course" "losses" "J" ∈ wsX0_restore := by decide +kernel
  have w2_ : Cond.methodLink RX0 124 Lib.MathLoose.min_long.x ∈ wsX0_restore := by decide +kernel
  have w3_ : Cond.static Lib.MathLoose.min_long.x ∈ wsX0_restore := by decide +kernel
  have w4_ : Cond.initialized "java/lang/Math" ∈ wsX0_restore := by decide +kernel
  have w5_ : Cond.code Lib.MathLoose.min_long.x Lib.MathLoose.min_long.code 4 (some .long) ∈ wsX0_restore := by decide +kernel
  show PW Z [(a, cC b c), (b, cS t)] L F 0 0 Q 0 [(0, .ref a), (1, .long x)] []
  refine pk_aload_n C 0 dX0_restore_0 rfl rfl (pc2 := 1) rfl ?_
  refine pk_dup C dX0_restore_1 rfl (pc2 := 2) rfl ?_
  refine pk_get (v := .long (C_al c)) C i0_ (pw_atX 0 rfl) (ci := 0) rfl 4 (by decide) w0_ rfl rfl dX0_restore_2 (pc2 := 5) rfl ?_
  refine pk_lload_n C 1 dX0_restore_5 rfl rfl (pc2 := 6) rfl ?_
  refine pk_lsub C dX0_restore_6 (pc2 := 7) rfl ?_
  refine pk_topl (fun n1_ en1_ => ?_)
  refine pk_putX (X' := [(a, kC b (C_me c) (C_ra c) (C_co c) n1_ (C_re c) (C_lo c) (C_rs c) (C_li c) (C_he c) (C_go c) (C_br c) (C_cu c) (C_lc c) (C_ac c)), (b, cS t)]) C i0_ tyX0_ok nmX0 0 rfl (ci := 0) rfl 4 (by decide) w0_ rfl rfl rfl rfl rfl (Nat.le_of_ble_eq_true rfl) rfl dX0_restore_7 (pc2 := 10) rfl ?_
  refine pk_aload_n C 0 dX0_restore_10 rfl rfl (pc2 := 11) rfl ?_
  refine pk_dup C dX0_restore_11 rfl (pc2 := 12) rfl ?_
  refine pk_get (v := .long (C_lo c)) C i0_ (pw_atX 0 rfl) (ci := 0) rfl 6 (by decide) w1_ rfl rfl dX0_restore_12 (pc2 := 15) rfl ?_
  refine pk_lload_n C 1 dX0_restore_15 rfl rfl (pc2 := 16) rfl ?_
  refine pk_aload_n C 0 dX0_restore_16 rfl rfl (pc2 := 17) rfl ?_
  refine pk_get (v := .long (C_lo c)) C i0_ (pw_atX 0 rfl) (ci := 0) rfl 6 (by decide) w1_ rfl rfl dX0_restore_17 (pc2 := 20) rfl ?_
  refine pk_minl (v := (jmin x (C_lo c))) C ⟨w2_, w3_, w4_, w5_⟩ (Nat.le_of_ble_eq_true rfl) (Nat.le_of_ble_eq_true rfl) (Nat.le_of_ble_eq_true rfl) (Nat.le_of_ble_eq_true rfl) dX0_restore_20 (pc2 := 23) rfl rfl ?_
  refine pk_lsub C dX0_restore_23 (pc2 := 24) rfl ?_
  refine pk_topl (fun n2_ en2_ => ?_)
  refine pk_putX (X' := [(a, kC b (C_me c) (C_ra c) (C_co c) n1_ (C_re c) n2_ (C_rs c) (C_li c) (C_he c) (C_go c) (C_br c) (C_cu c) (C_lc c) (C_ac c)), (b, cS t)]) C i0_ tyX0_ok nmX0 0 rfl (ci := 0) rfl 6 (by decide) w1_ rfl rfl rfl rfl rfl (Nat.le_of_ble_eq_true rfl) rfl dX0_restore_24 (pc2 := 27) rfl ?_
  refine pw_conv (X' := [(a, cC b (C_mk (C_me c) (C_ra c) (C_co c) n1_ (C_re c) n2_ (C_rs c) (C_li c) (C_he c) (C_go c) (C_br c) (C_cu c) (C_lc c) (C_ac c))), (b, cS t)]) rfl ?_
  subst en1_ en2_
  exact pr_void C hE (po_d_rfl rfl (by first | with_reducible rfl | (unfold m_X0_restore; with_reducible rfl))) dX0_restore_27
def m_X0_revalue (c : CR) (t : SR) (x : Int64) : CR :=
  if x ≤ (m_X0_book c t) then (C_mk (C_me (m_X0_lose c t ((m_X0_book c t) - x))) (C_ra (m_X0_lose c t ((m_X0_book c t) - x))) x 0 (C_re (m_X0_lose c t ((m_X0_book c t) - x))) (C_lo (m_X0_lose c t ((m_X0_book c t) - x))) (C_rs (m_X0_lose c t ((m_X0_book c t) - x))) (C_li (m_X0_lose c t ((m_X0_book c t) - x))) (C_he (m_X0_lose c t ((m_X0_book c t) - x))) (C_go (m_X0_lose c t ((m_X0_book c t) - x))) (C_br (m_X0_lose c t ((m_X0_book c t) - x))) (C_cu (m_X0_lose c t ((m_X0_book c t) - x))) (C_lc (m_X0_lose c t ((m_X0_book c t) - x))) (C_ac (m_X0_lose c t ((m_X0_book c t) - x)))) else (C_mk (C_me c) (C_ra c) x 0 ((C_re c) + (x - (m_X0_book c t))) (C_lo c) (C_rs c) (C_li c) (C_he c) (C_go c) (C_br c) (C_cu c) (C_lc c) (C_ac c))
set_option maxRecDepth 100000 in
set_option maxHeartbeats 2000000 in
theorem c_X0_revalue (l : Launch) (G : pw_G) (L : List Nat) (F : Nat → va_E) (a b : Nat) (c : CR) (t : SR) (x : Int64) : PM l yX0_revalue wsX0_revalue ⟨2, 0, 0, 39⟩ G [.ref a, .long x] [(a, cC b c), (b, cS t)] L F 0 0 (po_d none [(a, cC b (m_X0_revalue c t x)), (b, cS t)] L F) := by
  refine pm_entry (by decide) rfl rfl (Nat.le_of_ble_eq_true rfl) ?_
  intro Z Q C hl0 hG0 hnm hE
  subst hl0
  subst hG0
  have i0_ : ∀ w ∈ wsX00, w ∈ wsX0_revalue := by decide +kernel
  have w0_ : Cond.fieldLink RX0 33 "AgedAssets$Course" "cost" "J" ∈ wsX0_revalue := by decide +kernel
  have w1_ : Cond.fieldLink RX0 34 "AgedAssets$Course" "allowance" "J" ∈ wsX0_revalue := by decide +kernel
  have w2_ : Cond.fieldLink RX0 37 "AgedAssets$Course" "reserve" "J" ∈ wsX0_revalue := by decide +kernel
  show PW Z [(a, cC b c), (b, cS t)] L F 0 0 Q 0 [(0, .ref a), (1, .long x)] []
  refine pk_lload_n C 1 dX0_revalue_0 rfl rfl (pc2 := 1) rfl ?_
  refine pk_aload_n C 0 dX0_revalue_1 rfl rfl (pc2 := 2) rfl ?_
  refine pk_dV (cx := [(a, cC b c), (b, cS t)]) (wr := []) (X2 := [(a, cC b c), (b, cS t)]) (st := [.long x]) (st2 := [.long (m_X0_book c t), .long x]) (As := []) C (c_X0_book (zl Z) (zG Z) L F a b c t) gX0_revalue_X0_book rfl rfl rfl 0 (by decide +kernel) ⟨Nat.le_of_ble_eq_true rfl, Nat.le_of_ble_eq_true rfl⟩ (pw_atX 0 rfl) rfl rfl rfl (Nat.le_of_ble_eq_true rfl) ⟨Nat.le_of_ble_eq_true rfl, Nat.le_of_ble_eq_true rfl⟩ [0, 1] [] [0, 1] rfl rfl rfl rfl (by decide) rfl rfl dX0_revalue_2 (pc2 := 5) rfl rfl ?_
  refine pk_topl (fun n1_ en1_ => ?_)
  refine pk_lcmp_le (tgt := 27) C dX0_revalue_5 dX0_revalue_6 (pc1 := 6) rfl (by decide) (pc2 := 9) rfl (fun h1_ => ?_) (fun h1_ => ?_)
  ·
    refine pk_aload_n C 0 dX0_revalue_27 rfl rfl (pc2 := 28) rfl ?_
    refine pk_aload_n C 0 dX0_revalue_28 rfl rfl (pc2 := 29) rfl ?_
    refine pk_dV (cx := [(a, cC b c), (b, cS t)]) (wr := []) (X2 := [(a, cC b c), (b, cS t)]) (st := [.ref a]) (st2 := [.long (m_X0_book c t), .ref a]) (As := []) C (c_X0_book (zl Z) (zG Z) L F a b c t) gX0_revalue_X0_book rfl rfl rfl 0 (by decide +kernel) ⟨Nat.le_of_ble_eq_true rfl, Nat.le_of_ble_eq_true rfl⟩ (pw_atX 0 rfl) rfl rfl rfl (Nat.le_of_ble_eq_true rfl) ⟨Nat.le_of_ble_eq_true rfl, Nat.le_of_ble_eq_true rfl⟩ [0, 1] [] [0, 1] rfl rfl rfl rfl (by decide) rfl rfl dX0_revalue_29 (pc2 := 32) rfl rfl ?_
    refine pk_topl (fun n2_ en2_ => ?_)
    refine pk_lload_n C 1 dX0_revalue_32 rfl rfl (pc2 := 33) rfl ?_
    refine pk_lsub C dX0_revalue_33 (pc2 := 34) rfl ?_
    refine pk_dV (cx := [(a, cC b c), (b, cS t)]) (wr := []) (X2 := [(a, cC b (m_X0_lose c t (n2_ - x))), (b, cS t)]) (st := []) (st2 := []) (As := [.long (n2_ - x)]) C (c_X0_lose (zl Z) (zG Z) L F a b c t (n2_ - x)) gX0_revalue_X0_lose rfl rfl rfl 1 (by decide +kernel) ⟨Nat.le_of_ble_eq_true rfl, Nat.le_of_ble_eq_true rfl⟩ (pw_atX 0 rfl) rfl rfl rfl (Nat.le_of_ble_eq_true rfl) ⟨Nat.le_of_ble_eq_true rfl, Nat.le_of_ble_eq_true rfl⟩ [0, 1] [] [0, 1] rfl rfl rfl rfl (by decide) rfl rfl dX0_revalue_34 (pc2 := 37) rfl rfl ?_
    generalize en3_ : (m_X0_lose c t (n2_ - x)) = n3_
    refine pk_aload_n C 0 dX0_revalue_37 rfl rfl (pc2 := 38) rfl ?_
    refine pk_lload_n C 1 dX0_revalue_38 rfl rfl (pc2 := 39) rfl ?_
    refine pk_putX (X' := [(a, kC b (C_me n3_) (C_ra n3_) x (C_al n3_) (C_re n3_) (C_lo n3_) (C_rs n3_) (C_li n3_) (C_he n3_) (C_go n3_) (C_br n3_) (C_cu n3_) (C_lc n3_) (C_ac n3_)), (b, cS t)]) C i0_ tyX0_ok nmX0 0 rfl (ci := 0) rfl 3 (by decide) w0_ rfl rfl rfl rfl rfl (Nat.le_of_ble_eq_true rfl) rfl dX0_revalue_39 (pc2 := 42) rfl ?_
    refine pk_aload_n C 0 dX0_revalue_42 rfl rfl (pc2 := 43) rfl ?_
    refine pk_lconst (v := 0) C dX0_revalue_43 (by decide) (pc2 := 44) rfl ?_
    refine pk_putX (X' := [(a, kC b (C_me n3_) (C_ra n3_) x 0 (C_re n3_) (C_lo n3_) (C_rs n3_) (C_li n3_) (C_he n3_) (C_go n3_) (C_br n3_) (C_cu n3_) (C_lc n3_) (C_ac n3_)), (b, cS t)]) C i0_ tyX0_ok nmX0 0 rfl (ci := 0) rfl 4 (by decide) w1_ rfl rfl rfl rfl rfl (Nat.le_of_ble_eq_true rfl) rfl dX0_revalue_44 (pc2 := 47) rfl ?_
    refine pw_conv (X' := [(a, cC b (C_mk (C_me n3_) (C_ra n3_) x 0 (C_re n3_) (C_lo n3_) (C_rs n3_) (C_li n3_) (C_he n3_) (C_go n3_) (C_br n3_) (C_cu n3_) (C_lc n3_) (C_ac n3_))), (b, cS t)]) rfl ?_
    subst en1_ en2_ en3_
    exact pr_void C hE (po_d_rfl rfl (by first | with_reducible rfl | (unfold m_X0_revalue; rw [if_pos h1_]))) dX0_revalue_47
  ·
    refine pk_aload_n C 0 dX0_revalue_9 rfl rfl (pc2 := 10) rfl ?_
    refine pk_dup C dX0_revalue_10 rfl (pc2 := 11) rfl ?_
    refine pk_get (v := .long (C_re c)) C i0_ (pw_atX 0 rfl) (ci := 0) rfl 5 (by decide) w2_ rfl rfl dX0_revalue_11 (pc2 := 14) rfl ?_
    refine pk_lload_n C 1 dX0_revalue_14 rfl rfl (pc2 := 15) rfl ?_
    refine pk_aload_n C 0 dX0_revalue_15 rfl rfl (pc2 := 16) rfl ?_
    refine pk_dV (cx := [(a, cC b c), (b, cS t)]) (wr := []) (X2 := [(a, cC b c), (b, cS t)]) (st := [.long x, .long (C_re c), .ref a]) (st2 := [.long (m_X0_book c t), .long x, .long (C_re c), .ref a]) (As := []) C (c_X0_book (zl Z) (zG Z) L F a b c t) gX0_revalue_X0_book rfl rfl rfl 0 (by decide +kernel) ⟨Nat.le_of_ble_eq_true rfl, Nat.le_of_ble_eq_true rfl⟩ (pw_atX 0 rfl) rfl rfl rfl (Nat.le_of_ble_eq_true rfl) ⟨Nat.le_of_ble_eq_true rfl, Nat.le_of_ble_eq_true rfl⟩ [0, 1] [] [0, 1] rfl rfl rfl rfl (by decide) rfl rfl dX0_revalue_16 (pc2 := 19) rfl rfl ?_
    refine pk_topl (fun n4_ en4_ => ?_)
    refine pk_lsub C dX0_revalue_19 (pc2 := 20) rfl ?_
    refine pk_ladd C dX0_revalue_20 (pc2 := 21) rfl ?_
    refine pk_topl (fun n5_ en5_ => ?_)
    refine pk_putX (X' := [(a, kC b (C_me c) (C_ra c) (C_co c) (C_al c) n5_ (C_lo c) (C_rs c) (C_li c) (C_he c) (C_go c) (C_br c) (C_cu c) (C_lc c) (C_ac c)), (b, cS t)]) C i0_ tyX0_ok nmX0 0 rfl (ci := 0) rfl 5 (by decide) w2_ rfl rfl rfl rfl rfl (Nat.le_of_ble_eq_true rfl) rfl dX0_revalue_21 (pc2 := 24) rfl ?_
    refine pk_goto (tgt := 37) C dX0_revalue_24 (by decide) ?_
    refine pk_aload_n C 0 dX0_revalue_37 rfl rfl (pc2 := 38) rfl ?_
    refine pk_lload_n C 1 dX0_revalue_38 rfl rfl (pc2 := 39) rfl ?_
    refine pk_putX (X' := [(a, kC b (C_me c) (C_ra c) x (C_al c) n5_ (C_lo c) (C_rs c) (C_li c) (C_he c) (C_go c) (C_br c) (C_cu c) (C_lc c) (C_ac c)), (b, cS t)]) C i0_ tyX0_ok nmX0 0 rfl (ci := 0) rfl 3 (by decide) w0_ rfl rfl rfl rfl rfl (Nat.le_of_ble_eq_true rfl) rfl dX0_revalue_39 (pc2 := 42) rfl ?_
    refine pk_aload_n C 0 dX0_revalue_42 rfl rfl (pc2 := 43) rfl ?_
    refine pk_lconst (v := 0) C dX0_revalue_43 (by decide) (pc2 := 44) rfl ?_
    refine pk_putX (X' := [(a, kC b (C_me c) (C_ra c) x 0 n5_ (C_lo c) (C_rs c) (C_li c) (C_he c) (C_go c) (C_br c) (C_cu c) (C_lc c) (C_ac c)), (b, cS t)]) C i0_ tyX0_ok nmX0 0 rfl (ci := 0) rfl 4 (by decide) w1_ rfl rfl rfl rfl rfl (Nat.le_of_ble_eq_true rfl) rfl dX0_revalue_44 (pc2 := 47) rfl ?_
    refine pw_conv (X' := [(a, cC b (C_mk (C_me c) (C_ra c) x 0 n5_ (C_lo c) (C_rs c) (C_li c) (C_he c) (C_go c) (C_br c) (C_cu c) (C_lc c) (C_ac c))), (b, cS t)]) rfl ?_
    subst en1_ en4_ en5_
    exact pr_void C hE (po_d_rfl rfl (by first | with_reducible rfl | (unfold m_X0_revalue; rw [if_neg h1_]))) dX0_revalue_47

def m_X0_book (c : CR) (t : SR) : Int64 :=
  ((C_co c) - (C_al c))
set_option maxRecDepth 100000 in
set_option maxHeartbeats 4000000 in
theorem c_X0_book (l : Launch) (G : pw_G) (L : List Nat) (F : Nat → va_E) (a b : Nat) (c : CR) (t : SR) : PM l yX0_book wsX0_book ⟨0, 0, 0, 0⟩ G [.ref a] [(a, cC b c), (b, cS t)] L F 0 0 (po_d (some (.long (m_X0_book c t))) [(a, cC b c), (b, cS t)] L F) := by
  refine pm_entry (by decide) rfl rfl (Nat.le_of_ble_eq_true rfl) ?_
  intro Z Q C hl0 hG0 hnm hE
  subst hl0
  subst hG0
  have i0_ : ∀ w ∈ wsX00, w ∈ wsX0_book := by decide +kernel
  have w0_ : Cond.fieldLink RX0 33 "AgedAssets$Course" "cost" "J" ∈ wsX0_book := by decide +kernel
  have w1_ : Cond.fieldLink RX0 34 "AgedAssets$Course" "allowance" "J" ∈ wsX0_book := by decide +kernel
  show PW Z [(a, cC b c), (b, cS t)] L F 0 0 Q 0 [(0, .ref a)] []
  refine pk_aload_n C 0 dX0_book_0 rfl rfl (pc2 := 1) rfl ?_
  refine pk_get (v := .long (C_co c)) C i0_ (pw_atX 0 rfl) (ci := 0) rfl 3 (by decide) w0_ rfl rfl dX0_book_1 (pc2 := 4) rfl ?_
  refine pk_aload_n C 0 dX0_book_4 rfl rfl (pc2 := 5) rfl ?_
  refine pk_get (v := .long (C_al c)) C i0_ (pw_atX 0 rfl) (ci := 0) rfl 4 (by decide) w1_ rfl rfl dX0_book_5 (pc2 := 8) rfl ?_
  refine pk_lsub C dX0_book_8 (pc2 := 9) rfl ?_
  exact pr_long C hE (po_d_rfl (by first | rfl | (unfold m_X0_book; rfl)) (by first | rfl | (unfold m_X0_book; rfl))) dX0_book_9
def m_X0_bookOrNone (c : CR) (t : SR) : Int64 :=
  if (C_br c) = 0 then (m_X0_book c t) else (-1)
set_option maxRecDepth 100000 in
set_option maxHeartbeats 4000000 in
theorem c_X0_bookOrNone (l : Launch) (G : pw_G) (L : List Nat) (F : Nat → va_E) (a b : Nat) (c : CR) (t : SR) : PM l yX0_bookOrNone wsX0_bookOrNone ⟨1, 0, 0, 20⟩ G [.ref a] [(a, cC b c), (b, cS t)] L F 0 0 (po_d (some (.long (m_X0_bookOrNone c t))) [(a, cC b c), (b, cS t)] L F) := by
  refine pm_entry (by decide) rfl rfl (Nat.le_of_ble_eq_true rfl) ?_
  intro Z Q C hl0 hG0 hnm hE
  subst hl0
  subst hG0
  have i0_ : ∀ w ∈ wsX00, w ∈ wsX0_bookOrNone := by decide +kernel
  have w0_ : Cond.fieldLink RX0 60 "AgedAssets$Course" "breached" "Z" ∈ wsX0_bookOrNone := by decide +kernel
  have w1_ : Cond.constantLong RX0 75 (-1) ∈ wsX0_bookOrNone := by decide +kernel
  show PW Z [(a, cC b c), (b, cS t)] L F 0 0 Q 0 [(0, .ref a)] []
  refine pk_aload_n C 0 dX0_bookOrNone_0 rfl rfl (pc2 := 1) rfl ?_
  refine pk_get (v := .int (C_br c)) C i0_ (pw_atX 0 rfl) (ci := 0) rfl 11 (by decide) w0_ rfl rfl dX0_bookOrNone_1 (pc2 := 4) rfl ?_
  refine pk_if_eq (tgt := 13) C dX0_bookOrNone_4 (by decide) (pc2 := 7) rfl (fun h1_ => ?_) (fun h1_ => ?_)
  ·
    refine pk_aload_n C 0 dX0_bookOrNone_13 rfl rfl (pc2 := 14) rfl ?_
    refine pk_dV (cx := [(a, cC b c), (b, cS t)]) (wr := []) (X2 := [(a, cC b c), (b, cS t)]) (st := []) (st2 := [.long (m_X0_book c t)]) (As := []) C (c_X0_book (zl Z) (zG Z) L F a b c t) gX0_bookOrNone_X0_book rfl rfl rfl 0 (by decide +kernel) (by decide) (pw_atX 0 rfl) rfl rfl rfl (by decide) (by decide) [0, 1] [] [0, 1] rfl rfl rfl rfl (by decide) rfl rfl dX0_bookOrNone_14 (pc2 := 17) rfl rfl ?_
    exact pr_long C hE (po_d_rfl (by first | rfl | (unfold m_X0_bookOrNone; first | rfl | (rw [if_pos h1_]; done) | (rw [if_pos h1_]; rfl) | (simp only [h1_, if_true, if_false, ite_true, ite_false]; done))) (by first | rfl | (unfold m_X0_bookOrNone; first | rfl | (rw [if_pos h1_]; done) | (rw [if_pos h1_]; rfl) | (simp only [h1_, if_true, if_false, ite_true, ite_false]; done)))) dX0_bookOrNone_17
  ·
    refine pk_ldc2 C w1_ dX0_bookOrNone_7 (pc2 := 10) rfl ?_
    refine pk_goto (tgt := 17) C dX0_bookOrNone_10 (by decide) ?_
    exact pr_long C hE (po_d_rfl (by first | rfl | (unfold m_X0_bookOrNone; first | rfl | (rw [if_neg h1_]; done) | (rw [if_neg h1_]; rfl) | (simp only [h1_, if_true, if_false, ite_true, ite_false]; done))) (by first | rfl | (unfold m_X0_bookOrNone; first | rfl | (rw [if_neg h1_]; done) | (rw [if_neg h1_]; rfl) | (simp only [h1_, if_true, if_false, ite_true, ite_false]; done)))) dX0_bookOrNone_17
def m_X0_lose (c : CR) (t : SR) (x : Int64) : Unit :=
  ()
set_option maxRecDepth 100000 in
set_option maxHeartbeats 4000000 in
theorem c_X0_lose (l : Launch) (G : pw_G) (L : List Nat) (F : Nat → va_E) (a b : Nat) (c : CR) (t : SR) (x : Int64) : PM l yX0_lose wsX0_lose ⟨1, 0, 0, 15⟩ G [.ref a, .long x] [(a, cC b (C_s_lo (C_s_re c ((C_re c) - (jmin x (C_re c)))) ((C_lo c) + (x - (jmin x (C_re c)))))), (b, cS t)] L F 0 0 (po_d none [(a, cC b (C_s_lo (C_s_re c ((C_re c) - (jmin x (C_re c)))) ((C_lo c) + (x - (jmin x (C_re c)))))), (b, cS t)] L F) := by
  refine pm_entry (by decide) rfl rfl (Nat.le_of_ble_eq_true rfl) ?_
  intro Z Q C hl0 hG0 hnm hE
  subst hl0
  subst hG0
  have i0_ : ∀ w ∈ wsX00, w ∈ wsX0_lose := by decide +kernel
  have w0_ : Cond.fieldLink RX0 37 "AgedAssets$Course" "reserve" "J" ∈ wsX0_lose := by decide +kernel
  have w1_ : Cond.methodLink RX0 124 Lib.MathLoose.min_long.x ∈ wsX0_lose := by decide +kernel
  have w2_ : Cond.static Lib.MathLoose.min_long.x ∈ wsX0_lose := by decide +kernel
  have w3_ : Cond.initialized "java/lang/Math" ∈ wsX0_lose := by decide +kernel
  have w4_ : Cond.code Lib.MathLoose.min_long.x Lib.MathLoose.min_long.code 4 (some .long) ∈ wsX0_lose := by decide +kernel
  have w5_ : Cond.fieldLink RX0 40 "AgedAssets$Course" "losses" "J" ∈ wsX0_lose := by decide +kernel
  show PW Z [(a, cC b (C_s_lo (C_s_re c ((C_re c) - (jmin x (C_re c)))) ((C_lo c) + (x - (jmin x (C_re c)))))), (b, cS t)] L F 0 0 Q 0 [(0, .ref a), (1, .long x)] []
  refine pk_lload_n C 1 dX0_lose_0 rfl rfl (pc2 := 1) rfl ?_
  refine pk_aload_n C 0 dX0_lose_1 rfl rfl (pc2 := 2) rfl ?_
  refine pk_get (v := .long (C_re c)) C i0_ (pw_atX 0 rfl) (ci := 0) rfl 5 (by decide) w0_ rfl rfl dX0_lose_2 (pc2 := 5) rfl ?_
  refine pk_minl (v := (jmin x (C_re c))) C ⟨w1_, w2_, w3_, w4_⟩ (by decide) (by decide) (by decide) (by decide) dX0_lose_5 (pc2 := 8) rfl rfl ?_
  refine pk_lstore_n (lv' := [(3, .long (jmin x (C_re c))), (0, .ref a), (1, .long x)]) C dX0_lose_8 rfl (by decide) rfl (pc2 := 9) rfl ?_
  refine pk_aload_n C 1 dX0_lose_9 rfl rfl (pc2 := 10) rfl ?_
  refine pk_dup C dX0_lose_10 rfl (pc2 := 11) rfl ?_
  refine pk_get (v := .long (C_re c)) C i0_ (pw_atX 0 rfl) (ci := 0) rfl 5 (by decide) w0_ rfl rfl dX0_lose_11 (pc2 := 14) rfl ?_
  refine pk_lload_n C 0 dX0_lose_14 rfl rfl (pc2 := 15) rfl ?_
  refine pk_lsub C dX0_lose_15 (pc2 := 16) rfl ?_
  refine pk_putX (X' := [(a, cC b (C_s_re c ((C_re c) - (jmin x (C_re c))))), (b, cS t)]) C i0_ tyX0_ok nmX0 0 rfl (ci := 0) rfl 5 (by decide) w0_ rfl rfl rfl rfl (by first | rfl | decide) (by decide) rfl dX0_lose_16 (pc2 := 19) rfl ?_
  refine pk_aload_n C 1 dX0_lose_19 rfl rfl (pc2 := 20) rfl ?_
  refine pk_dup C dX0_lose_20 rfl (pc2 := 21) rfl ?_
  refine pk_get (v := .long (C_lo c)) C i0_ (pw_atX 0 rfl) (ci := 0) rfl 6 (by decide) w5_ rfl rfl dX0_lose_21 (pc2 := 24) rfl ?_
  refine pk_lload_n C 2 dX0_lose_24 rfl rfl (pc2 := 25) rfl ?_
  refine pk_lload_n C 0 dX0_lose_25 rfl rfl (pc2 := 26) rfl ?_
  refine pk_lsub C dX0_lose_26 (pc2 := 27) rfl ?_
  refine pk_ladd C dX0_lose_27 (pc2 := 28) rfl ?_
  refine pk_putX (X' := [(a, cC b (C_s_lo (C_s_re c ((C_re c) - (jmin x (C_re c)))) ((C_lo c) + (x - (jmin x (C_re c)))))), (b, cS t)]) C i0_ tyX0_ok nmX0 0 rfl (ci := 0) rfl 6 (by decide) w5_ rfl rfl rfl rfl (by first | rfl | decide) (by decide) rfl dX0_lose_28 (pc2 := 31) rfl ?_
  exact pr_void C hE (po_d_rfl rfl (by first | rfl | (unfold m_X0_lose; rfl))) dX0_lose_31
def m_X0_impair (c : CR) (t : SR) (x : Int64) : CR :=
  (C_s_al c ((C_al c) + x))
set_option maxRecDepth 100000 in
set_option maxHeartbeats 4000000 in
theorem c_X0_impair (l : Launch) (G : pw_G) (L : List Nat) (F : Nat → va_E) (a b : Nat) (c : CR) (t : SR) (x : Int64) : PM l yX0_impair wsX0_impair ⟨2, 0, 0, 39⟩ G [.ref a, .long x] [(a, cC b c), (b, cS t)] L F 0 0 (po_d none [(a, cC b (m_X0_impair c t x)), (b, cS t)] L F) := by
  refine pm_entry (by decide) rfl rfl (Nat.le_of_ble_eq_true rfl) ?_
  intro Z Q C hl0 hG0 hnm hE
  subst hl0
  subst hG0
  have i0_ : ∀ w ∈ wsX00, w ∈ wsX0_impair := by decide +kernel
  have w0_ : Cond.fieldLink RX0 34 "AgedAssets$Course" "allowance" "J" ∈ wsX0_impair := by decide +kernel
  show PW Z [(a, cC b c), (b, cS t)] L F 0 0 Q 0 [(0, .ref a), (1, .long x)] []
  refine pk_aload_n C 0 dX0_impair_0 rfl rfl (pc2 := 1) rfl ?_
  refine pk_lload_n C 1 dX0_impair_1 rfl rfl (pc2 := 2) rfl ?_
  refine pk_dV (cx := [(a, cC b c), (b, cS t)]) (wr := []) (X2 := [(a, cC b c), (b, cS t)]) (st := []) (st2 := []) (As := [.long x]) C (c_X0_lose (zl Z) (zG Z) L F a b c t x) gX0_impair_X0_lose rfl rfl rfl 1 (by decide +kernel) (by decide) (pw_atX 0 rfl) rfl rfl rfl (by decide) (by decide) [0, 1] [] [0, 1] rfl rfl rfl rfl (by decide) rfl rfl dX0_impair_2 (pc2 := 5) rfl rfl ?_
  refine pk_aload_n C 0 dX0_impair_5 rfl rfl (pc2 := 6) rfl ?_
  refine pk_dup C dX0_impair_6 rfl (pc2 := 7) rfl ?_
  refine pk_get (v := .long (C_al c)) C i0_ (pw_atX 0 rfl) (ci := 0) rfl 4 (by decide) w0_ rfl rfl dX0_impair_7 (pc2 := 10) rfl ?_
  refine pk_lload_n C 1 dX0_impair_10 rfl rfl (pc2 := 11) rfl ?_
  refine pk_ladd C dX0_impair_11 (pc2 := 12) rfl ?_
  refine pk_putX (X' := [(a, cC b (C_s_al c ((C_al c) + x))), (b, cS t)]) C i0_ tyX0_ok nmX0 0 rfl (ci := 0) rfl 4 (by decide) w0_ rfl rfl rfl rfl (by first | rfl | decide) (by decide) rfl dX0_impair_12 (pc2 := 15) rfl ?_
  exact pr_void C hE (po_d_rfl rfl (by first | rfl | (unfold m_X0_impair; rfl))) dX0_impair_15
def m_X0_restore (c : CR) (t : SR) (x : Int64) : Unit :=
  ()
set_option maxRecDepth 100000 in
set_option maxHeartbeats 4000000 in
theorem c_X0_restore (l : Launch) (G : pw_G) (L : List Nat) (F : Nat → va_E) (a b : Nat) (c : CR) (t : SR) (x : Int64) : PM l yX0_restore wsX0_restore ⟨1, 0, 0, 18⟩ G [.ref a, .long x] [(a, cC b (C_s_lo (C_s_al c ((C_al c) - x)) ((C_lo c) - (jmin x (C_lo c))))), (b, cS t)] L F 0 0 (po_d none [(a, cC b (C_s_lo (C_s_al c ((C_al c) - x)) ((C_lo c) - (jmin x (C_lo c))))), (b, cS t)] L F) := by
  refine pm_entry (by decide) rfl rfl (Nat.le_of_ble_eq_true rfl) ?_
  intro Z Q C hl0 hG0 hnm hE
  subst hl0
  subst hG0
  have i0_ : ∀ w ∈ wsX00, w ∈ wsX0_restore := by decide +kernel
  have w0_ : Cond.fieldLink RX0 34 "AgedAssets$Course" "allowance" "J" ∈ wsX0_restore := by decide +kernel
  have w1_ : Cond.fieldLink RX0 40 "AgedAssets$Course" "losses" "J" ∈ wsX0_restore := by decide +kernel
  have w2_ : Cond.methodLink RX0 124 Lib.MathLoose.min_long.x ∈ wsX0_restore := by decide +kernel
  have w3_ : Cond.static Lib.MathLoose.min_long.x ∈ wsX0_restore := by decide +kernel
  have w4_ : Cond.initialized "java/lang/Math" ∈ wsX0_restore := by decide +kernel
  have w5_ : Cond.code Lib.MathLoose.min_long.x Lib.MathLoose.min_long.code 4 (some .long) ∈ wsX0_restore := by decide +kernel
  show PW Z [(a, cC b (C_s_lo (C_s_al c ((C_al c) - x)) ((C_lo c) - (jmin x (C_lo c))))), (b, cS t)] L F 0 0 Q 0 [(0, .ref a), (1, .long x)] []
  refine pk_aload_n C 0 dX0_restore_0 rfl rfl (pc2 := 1) rfl ?_
  refine pk_dup C dX0_restore_1 rfl (pc2 := 2) rfl ?_
  refine pk_get (v := .long (C_al c)) C i0_ (pw_atX 0 rfl) (ci := 0) rfl 4 (by decide) w0_ rfl rfl dX0_restore_2 (pc2 := 5) rfl ?_
  refine pk_lload_n C 1 dX0_restore_5 rfl rfl (pc2 := 6) rfl ?_
  refine pk_lsub C dX0_restore_6 (pc2 := 7) rfl ?_
  refine pk_putX (X' := [(a, cC b (C_s_al c ((C_al c) - x))), (b, cS t)]) C i0_ tyX0_ok nmX0 0 rfl (ci := 0) rfl 4 (by decide) w0_ rfl rfl rfl rfl (by first | rfl | decide) (by decide) rfl dX0_restore_7 (pc2 := 10) rfl ?_
  refine pk_aload_n C 0 dX0_restore_10 rfl rfl (pc2 := 11) rfl ?_
  refine pk_dup C dX0_restore_11 rfl (pc2 := 12) rfl ?_
  refine pk_get (v := .long (C_lo c)) C i0_ (pw_atX 0 rfl) (ci := 0) rfl 6 (by decide) w1_ rfl rfl dX0_restore_12 (pc2 := 15) rfl ?_
  refine pk_lload_n C 1 dX0_restore_15 rfl rfl (pc2 := 16) rfl ?_
  refine pk_aload_n C 0 dX0_restore_16 rfl rfl (pc2 := 17) rfl ?_
  refine pk_get (v := .long (C_lo c)) C i0_ (pw_atX 0 rfl) (ci := 0) rfl 6 (by decide) w1_ rfl rfl dX0_restore_17 (pc2 := 20) rfl ?_
  refine pk_minl (v := (jmin x (C_lo c))) C ⟨w2_, w3_, w4_, w5_⟩ (by decide) (by decide) (by decide) (by decide) dX0_restore_20 (pc2 := 23) rfl rfl ?_
  refine pk_lsub C dX0_restore_23 (pc2 := 24) rfl ?_
  refine pk_putX (X' := [(a, cC b (C_s_lo (C_s_al c ((C_al c) - x)) ((C_lo c) - (jmin x (C_lo c))))), (b, cS t)]) C i0_ tyX0_ok nmX0 0 rfl (ci := 0) rfl 6 (by decide) w1_ rfl rfl rfl rfl (by first | rfl | decide) (by decide) rfl dX0_restore_24 (pc2 := 27) rfl ?_
  exact pr_void C hE (po_d_rfl rfl (by first | rfl | (unfold m_X0_restore; rfl))) dX0_restore_27
def m_X0_revalue (c : CR) (t : SR) (x : Int64) : CR :=
  if x ≤ (m_X0_book c t) then (C_s_al (C_s_co c x) 0) else (C_s_re (C_s_al (C_s_co c x) 0) ((C_re c) + (x - (m_X0_book c t))))
set_option maxRecDepth 100000 in
set_option maxHeartbeats 4000000 in
theorem c_X0_revalue (l : Launch) (G : pw_G) (L : List Nat) (F : Nat → va_E) (a b : Nat) (c : CR) (t : SR) (x : Int64) : PM l yX0_revalue wsX0_revalue ⟨2, 0, 0, 39⟩ G [.ref a, .long x] [(a, cC b c), (b, cS t)] L F 0 0 (po_d none [(a, cC b (m_X0_revalue c t x)), (b, cS t)] L F) := by
  refine pm_entry (by decide) rfl rfl (Nat.le_of_ble_eq_true rfl) ?_
  intro Z Q C hl0 hG0 hnm hE
  subst hl0
  subst hG0
  have i0_ : ∀ w ∈ wsX00, w ∈ wsX0_revalue := by decide +kernel
  have w0_ : Cond.fieldLink RX0 33 "AgedAssets$Course" "cost" "J" ∈ wsX0_revalue := by decide +kernel
  have w1_ : Cond.fieldLink RX0 34 "AgedAssets$Course" "allowance" "J" ∈ wsX0_revalue := by decide +kernel
  have w2_ : Cond.fieldLink RX0 37 "AgedAssets$Course" "reserve" "J" ∈ wsX0_revalue := by decide +kernel
  show PW Z [(a, cC b c), (b, cS t)] L F 0 0 Q 0 [(0, .ref a), (1, .long x)] []
  refine pk_lload_n C 1 dX0_revalue_0 rfl rfl (pc2 := 1) rfl ?_
  refine pk_aload_n C 0 dX0_revalue_1 rfl rfl (pc2 := 2) rfl ?_
  refine pk_dV (cx := [(a, cC b c), (b, cS t)]) (wr := []) (X2 := [(a, cC b c), (b, cS t)]) (st := [.long x]) (st2 := [.long (m_X0_book c t), .long x]) (As := []) C (c_X0_book (zl Z) (zG Z) L F a b c t) gX0_revalue_X0_book rfl rfl rfl 0 (by decide +kernel) (by decide) (pw_atX 0 rfl) rfl rfl rfl (by decide) (by decide) [0, 1] [] [0, 1] rfl rfl rfl rfl (by decide) rfl rfl dX0_revalue_2 (pc2 := 5) rfl rfl ?_
  refine pk_lcmp_le (tgt := 27) C dX0_revalue_5 dX0_revalue_6 (pc1 := 6) rfl (by decide) (pc2 := 9) rfl (fun h1_ => ?_) (fun h1_ => ?_)
  ·
    refine pk_aload_n C 0 dX0_revalue_27 rfl rfl (pc2 := 28) rfl ?_
    refine pk_aload_n C 0 dX0_revalue_28 rfl rfl (pc2 := 29) rfl ?_
    refine pk_dV (cx := [(a, cC b c), (b, cS t)]) (wr := []) (X2 := [(a, cC b c), (b, cS t)]) (st := [.ref a]) (st2 := [.long (m_X0_book c t), .ref a]) (As := []) C (c_X0_book (zl Z) (zG Z) L F a b c t) gX0_revalue_X0_book rfl rfl rfl 0 (by decide +kernel) (by decide) (pw_atX 0 rfl) rfl rfl rfl (by decide) (by decide) [0, 1] [] [0, 1] rfl rfl rfl rfl (by decide) rfl rfl dX0_revalue_29 (pc2 := 32) rfl rfl ?_
    refine pk_lload_n C 1 dX0_revalue_32 rfl rfl (pc2 := 33) rfl ?_
    refine pk_lsub C dX0_revalue_33 (pc2 := 34) rfl ?_
    refine pk_dV (cx := [(a, cC b c), (b, cS t)]) (wr := []) (X2 := [(a, cC b c), (b, cS t)]) (st := []) (st2 := []) (As := [.long ((m_X0_book c t) - x)]) C (c_X0_lose (zl Z) (zG Z) L F a b c t ((m_X0_book c t) - x)) gX0_revalue_X0_lose rfl rfl rfl 1 (by decide +kernel) (by decide) (pw_atX 0 rfl) rfl rfl rfl (by decide) (by decide) [0, 1] [] [0, 1] rfl rfl rfl rfl (by decide) rfl rfl dX0_revalue_34 (pc2 := 37) rfl rfl ?_
    refine pk_aload_n C 0 dX0_revalue_37 rfl rfl (pc2 := 38) rfl ?_
    refine pk_lload_n C 1 dX0_revalue_38 rfl rfl (pc2 := 39) rfl ?_
    refine pk_putX (X' := [(a, cC b (C_s_co c x)), (b, cS t)]) C i0_ tyX0_ok nmX0 0 rfl (ci := 0) rfl 3 (by decide) w0_ rfl rfl rfl rfl (by first | rfl | decide) (by decide) rfl dX0_revalue_39 (pc2 := 42) rfl ?_
    refine pk_aload_n C 0 dX0_revalue_42 rfl rfl (pc2 := 43) rfl ?_
    refine pk_lconst (v := 0) C dX0_revalue_43 (by decide) (pc2 := 44) rfl ?_
    refine pk_putX (X' := [(a, cC b (C_s_al (C_s_co c x) 0)), (b, cS t)]) C i0_ tyX0_ok nmX0 0 rfl (ci := 0) rfl 4 (by decide) w1_ rfl rfl rfl rfl (by first | rfl | decide) (by decide) rfl dX0_revalue_44 (pc2 := 47) rfl ?_
    exact pr_void C hE (po_d_rfl rfl (by first | rfl | (unfold m_X0_revalue; first | rfl | (rw [if_pos h1_]; done) | (rw [if_pos h1_]; rfl) | (simp only [h1_, if_true, if_false, ite_true, ite_false]; done)))) dX0_revalue_47
  ·
    refine pk_aload_n C 0 dX0_revalue_9 rfl rfl (pc2 := 10) rfl ?_
    refine pk_dup C dX0_revalue_10 rfl (pc2 := 11) rfl ?_
    refine pk_get (v := .long (C_re c)) C i0_ (pw_atX 0 rfl) (ci := 0) rfl 5 (by decide) w2_ rfl rfl dX0_revalue_11 (pc2 := 14) rfl ?_
    refine pk_lload_n C 1 dX0_revalue_14 rfl rfl (pc2 := 15) rfl ?_
    refine pk_aload_n C 0 dX0_revalue_15 rfl rfl (pc2 := 16) rfl ?_
    refine pk_dV (cx := [(a, cC b c), (b, cS t)]) (wr := []) (X2 := [(a, cC b c), (b, cS t)]) (st := [.long x, .long (C_re c), .ref a]) (st2 := [.long (m_X0_book c t), .long x, .long (C_re c), .ref a]) (As := []) C (c_X0_book (zl Z) (zG Z) L F a b c t) gX0_revalue_X0_book rfl rfl rfl 0 (by decide +kernel) (by decide) (pw_atX 0 rfl) rfl rfl rfl (by decide) (by decide) [0, 1] [] [0, 1] rfl rfl rfl rfl (by decide) rfl rfl dX0_revalue_16 (pc2 := 19) rfl rfl ?_
    refine pk_lsub C dX0_revalue_19 (pc2 := 20) rfl ?_
    refine pk_ladd C dX0_revalue_20 (pc2 := 21) rfl ?_
    refine pk_putX (X' := [(a, cC b (C_s_re c ((C_re c) + (x - (m_X0_book c t))))), (b, cS t)]) C i0_ tyX0_ok nmX0 0 rfl (ci := 0) rfl 5 (by decide) w2_ rfl rfl rfl rfl (by first | rfl | decide) (by decide) rfl dX0_revalue_21 (pc2 := 24) rfl ?_
    refine pk_goto (tgt := 37) C dX0_revalue_24 (by decide) ?_
    refine pk_aload_n C 0 dX0_revalue_37 rfl rfl (pc2 := 38) rfl ?_
    refine pk_lload_n C 1 dX0_revalue_38 rfl rfl (pc2 := 39) rfl ?_
    refine pk_putX (X' := [(a, cC b (C_s_re (C_s_co c x) ((C_re c) + (x - (m_X0_book c t))))), (b, cS t)]) C i0_ tyX0_ok nmX0 0 rfl (ci := 0) rfl 3 (by decide) w0_ rfl rfl rfl rfl (by first | rfl | decide) (by decide) rfl dX0_revalue_39 (pc2 := 42) rfl ?_
    refine pk_aload_n C 0 dX0_revalue_42 rfl rfl (pc2 := 43) rfl ?_
    refine pk_lconst (v := 0) C dX0_revalue_43 (by decide) (pc2 := 44) rfl ?_
    refine pk_putX (X' := [(a, cC b (C_s_re (C_s_al (C_s_co c x) 0) ((C_re c) + (x - (m_X0_book c t))))), (b, cS t)]) C i0_ tyX0_ok nmX0 0 rfl (ci := 0) rfl 4 (by decide) w1_ rfl rfl rfl rfl (by first | rfl | decide) (by decide) rfl dX0_revalue_44 (pc2 := 47) rfl ?_
    exact pr_void C hE (po_d_rfl rfl (by first | rfl | (unfold m_X0_revalue; first | rfl | (rw [if_neg h1_]; done) | (rw [if_neg h1_]; rfl) | (simp only [h1_, if_true, if_false, ite_true, ite_false]; done)))) dX0_revalue_47
def m_X0_sell (c : CR) (t : SR) (mi : Int32) : CR :=
  if mi = (1000000) then (C_s_go (C_s_rs (C_s_re (C_s_al (C_s_co c ((C_co c) - (m_X4_rounded ((C_co c) * (Int32.toInt64 mi)) (1000000)))) ((C_al c) - (m_X4_rounded ((C_al c) * (Int32.toInt64 mi)) (1000000)))) ((C_re c) - (m_X4_rounded ((C_re c) * (Int32.toInt64 mi)) (1000000)))) ((C_rs c) - (m_X4_rounded ((C_rs c) * (Int32.toInt64 mi)) (1000000)))) 1) else (C_s_go (C_s_rs (C_s_re (C_s_al (C_s_co c ((C_co c) - (m_X4_rounded ((C_co c) * (Int32.toInt64 mi)) (1000000)))) ((C_al c) - (m_X4_rounded ((C_al c) * (Int32.toInt64 mi)) (1000000)))) ((C_re c) - (m_X4_rounded ((C_re c) * (Int32.toInt64 mi)) (1000000)))) ((C_rs c) - (m_X4_rounded ((C_rs c) * (Int32.toInt64 mi)) (1000000)))) 0)
set_option maxRecDepth 100000 in
set_option maxHeartbeats 4000000 in
theorem c_X0_sell (l : Launch) (G : pw_G) (L : List Nat) (F : Nat → va_E) (a b : Nat) (c : CR) (t : SR) (mi : Int32) : PM l yX0_sell wsX0_sell ⟨1, 0, 0, 23⟩ G [.ref a, .int mi] [(a, cC b c), (b, cS t)] L F 0 0 (po_d none [(a, cC b (m_X0_sell c t mi)), (b, cS t)] L F) := by
  refine pm_entry (by decide) rfl rfl (Nat.le_of_ble_eq_true rfl) ?_
  intro Z Q C hl0 hG0 hnm hE
  subst hl0
  subst hG0
  have i0_ : ∀ w ∈ wsX00, w ∈ wsX0_sell := by decide +kernel
  have w0_ : Cond.fieldLink RX0 33 "AgedAssets$Course" "cost" "J" ∈ wsX0_sell := by decide +kernel
  have w1_ : Cond.constantLong RX0 130 (1000000) ∈ wsX0_sell := by decide +kernel
  have w2_ : Cond.methodLinkNest RX0 132 yX4_rounded RX4 ∈ pw_N := by decide +kernel
  have w3_ : Cond.static yX4_rounded ∈ wsX0_sell := by decide +kernel
  have w4_ : Cond.initialized RX4 ∈ wsX0_sell := by decide +kernel
  have w5_ : Cond.fieldLink RX0 34 "AgedAssets$Course" "allowance" "J" ∈ wsX0_sell := by decide +kernel
  have w6_ : Cond.fieldLink RX0 37 "AgedAssets$Course" "reserve" "J" ∈ wsX0_sell := by decide +kernel
  have w7_ : Cond.fieldLink RX0 46 "AgedAssets$Course" "residual" "J" ∈ wsX0_sell := by decide +kernel
  have w8_ : Cond.constant RX0 135 (1000000) ∈ wsX0_sell := by decide +kernel
  have w9_ : Cond.fieldLink RX0 57 "AgedAssets$Course" "gone" "Z" ∈ wsX0_sell := by decide +kernel
  show PW Z [(a, cC b c), (b, cS t)] L F 0 0 Q 0 [(0, .ref a), (1, .int mi)] []
  refine pk_aload_n C 0 dX0_sell_0 rfl rfl (pc2 := 1) rfl ?_
  refine pk_dup C dX0_sell_1 rfl (pc2 := 2) rfl ?_
  refine pk_get (v := .long (C_co c)) C i0_ (pw_atX 0 rfl) (ci := 0) rfl 3 (by decide) w0_ rfl rfl dX0_sell_2 (pc2 := 5) rfl ?_
  refine pk_aload_n C 0 dX0_sell_5 rfl rfl (pc2 := 6) rfl ?_
  refine pk_get (v := .long (C_co c)) C i0_ (pw_atX 0 rfl) (ci := 0) rfl 3 (by decide) w0_ rfl rfl dX0_sell_6 (pc2 := 9) rfl ?_
  refine pk_iload_n C 1 dX0_sell_9 rfl rfl (pc2 := 10) rfl ?_
  refine pk_i2l C dX0_sell_10 (pc2 := 11) rfl ?_
  refine pk_lmul C dX0_sell_11 (pc2 := 12) rfl ?_
  refine pk_ldc2 C w1_ dX0_sell_12 (pc2 := 15) rfl ?_
  refine pk_dSN (cx := []) (wr := [(a, cC b c), (b, cS t)]) (X2 := [(a, cC b c), (b, cS t)]) (st := [.long (C_co c), .ref a]) (st2 := [.long (m_X4_rounded ((C_co c) * (Int32.toInt64 mi)) (1000000)), .long (C_co c), .ref a]) (As := [.long ((C_co c) * (Int32.toInt64 mi)), .long (1000000)]) C (c_X4_rounded (zl Z) (zG Z) L F ((C_co c) * (Int32.toInt64 mi)) (1000000)) gX0_sell_X4_rounded_n132 rfl w2_ w3_ w4_ rfl rfl 2 (by decide +kernel) (by decide) rfl rfl (by decide) (by decide) [] [0, 1] [0, 1] rfl rfl rfl rfl (by decide) rfl rfl dX0_sell_15 (pc2 := 18) rfl rfl ?_
  refine pk_lsub C dX0_sell_18 (pc2 := 19) rfl ?_
  refine pk_putX (X' := [(a, cC b (C_s_co c ((C_co c) - (m_X4_rounded ((C_co c) * (Int32.toInt64 mi)) (1000000))))), (b, cS t)]) C i0_ tyX0_ok nmX0 0 rfl (ci := 0) rfl 3 (by decide) w0_ rfl rfl rfl rfl (by first | rfl | decide) (by decide) rfl dX0_sell_19 (pc2 := 22) rfl ?_
  refine pk_aload_n C 0 dX0_sell_22 rfl rfl (pc2 := 23) rfl ?_
  refine pk_dup C dX0_sell_23 rfl (pc2 := 24) rfl ?_
  refine pk_get (v := .long (C_al c)) C i0_ (pw_atX 0 rfl) (ci := 0) rfl 4 (by decide) w5_ rfl rfl dX0_sell_24 (pc2 := 27) rfl ?_
  refine pk_aload_n C 0 dX0_sell_27 rfl rfl (pc2 := 28) rfl ?_
  refine pk_get (v := .long (C_al c)) C i0_ (pw_atX 0 rfl) (ci := 0) rfl 4 (by decide) w5_ rfl rfl dX0_sell_28 (pc2 := 31) rfl ?_
  refine pk_iload_n C 1 dX0_sell_31 rfl rfl (pc2 := 32) rfl ?_
  refine pk_i2l C dX0_sell_32 (pc2 := 33) rfl ?_
  refine pk_lmul C dX0_sell_33 (pc2 := 34) rfl ?_
  refine pk_ldc2 C w1_ dX0_sell_34 (pc2 := 37) rfl ?_
  refine pk_dSN (cx := []) (wr := [(a, cC b (C_s_co c ((C_co c) - (m_X4_rounded ((C_co c) * (Int32.toInt64 mi)) (1000000))))), (b, cS t)]) (X2 := [(a, cC b (C_s_co c ((C_co c) - (m_X4_rounded ((C_co c) * (Int32.toInt64 mi)) (1000000))))), (b, cS t)]) (st := [.long (C_al c), .ref a]) (st2 := [.long (m_X4_rounded ((C_al c) * (Int32.toInt64 mi)) (1000000)), .long (C_al c), .ref a]) (As := [.long ((C_al c) * (Int32.toInt64 mi)), .long (1000000)]) C (c_X4_rounded (zl Z) (zG Z) L F ((C_al c) * (Int32.toInt64 mi)) (1000000)) gX0_sell_X4_rounded_n132 rfl w2_ w3_ w4_ rfl rfl 2 (by decide +kernel) (by decide) rfl rfl (by decide) (by decide) [] [0, 1] [0, 1] rfl rfl rfl rfl (by decide) rfl rfl dX0_sell_37 (pc2 := 40) rfl rfl ?_
  refine pk_lsub C dX0_sell_40 (pc2 := 41) rfl ?_
  refine pk_putX (X' := [(a, cC b (C_s_al (C_s_co c ((C_co c) - (m_X4_rounded ((C_co c) * (Int32.toInt64 mi)) (1000000)))) ((C_al c) - (m_X4_rounded ((C_al c) * (Int32.toInt64 mi)) (1000000))))), (b, cS t)]) C i0_ tyX0_ok nmX0 0 rfl (ci := 0) rfl 4 (by decide) w5_ rfl rfl rfl rfl (by first | rfl | decide) (by decide) rfl dX0_sell_41 (pc2 := 44) rfl ?_
  refine pk_aload_n C 0 dX0_sell_44 rfl rfl (pc2 := 45) rfl ?_
  refine pk_dup C dX0_sell_45 rfl (pc2 := 46) rfl ?_
  refine pk_get (v := .long (C_re c)) C i0_ (pw_atX 0 rfl) (ci := 0) rfl 5 (by decide) w6_ rfl rfl dX0_sell_46 (pc2 := 49) rfl ?_
  refine pk_aload_n C 0 dX0_sell_49 rfl rfl (pc2 := 50) rfl ?_
  refine pk_get (v := .long (C_re c)) C i0_ (pw_atX 0 rfl) (ci := 0) rfl 5 (by decide) w6_ rfl rfl dX0_sell_50 (pc2 := 53) rfl ?_
  refine pk_iload_n C 1 dX0_sell_53 rfl rfl (pc2 := 54) rfl ?_
  refine pk_i2l C dX0_sell_54 (pc2 := 55) rfl ?_
  refine pk_lmul C dX0_sell_55 (pc2 := 56) rfl ?_
  refine pk_ldc2 C w1_ dX0_sell_56 (pc2 := 59) rfl ?_
  refine pk_dSN (cx := []) (wr := [(a, cC b (C_s_al (C_s_co c ((C_co c) - (m_X4_rounded ((C_co c) * (Int32.toInt64 mi)) (1000000)))) ((C_al c) - (m_X4_rounded ((C_al c) * (Int32.toInt64 mi)) (1000000))))), (b, cS t)]) (X2 := [(a, cC b (C_s_al (C_s_co c ((C_co c) - (m_X4_rounded ((C_co c) * (Int32.toInt64 mi)) (1000000)))) ((C_al c) - (m_X4_rounded ((C_al c) * (Int32.toInt64 mi)) (1000000))))), (b, cS t)]) (st := [.long (C_re c), .ref a]) (st2 := [.long (m_X4_rounded ((C_re c) * (Int32.toInt64 mi)) (1000000)), .long (C_re c), .ref a]) (As := [.long ((C_re c) * (Int32.toInt64 mi)), .long (1000000)]) C (c_X4_rounded (zl Z) (zG Z) L F ((C_re c) * (Int32.toInt64 mi)) (1000000)) gX0_sell_X4_rounded_n132 rfl w2_ w3_ w4_ rfl rfl 2 (by decide +kernel) (by decide) rfl rfl (by decide) (by decide) [] [0, 1] [0, 1] rfl rfl rfl rfl (by decide) rfl rfl dX0_sell_59 (pc2 := 62) rfl rfl ?_
  refine pk_lsub C dX0_sell_62 (pc2 := 63) rfl ?_
  refine pk_putX (X' := [(a, cC b (C_s_re (C_s_al (C_s_co c ((C_co c) - (m_X4_rounded ((C_co c) * (Int32.toInt64 mi)) (1000000)))) ((C_al c) - (m_X4_rounded ((C_al c) * (Int32.toInt64 mi)) (1000000)))) ((C_re c) - (m_X4_rounded ((C_re c) * (Int32.toInt64 mi)) (1000000))))), (b, cS t)]) C i0_ tyX0_ok nmX0 0 rfl (ci := 0) rfl 5 (by decide) w6_ rfl rfl rfl rfl (by first | rfl | decide) (by decide) rfl dX0_sell_63 (pc2 := 66) rfl ?_
  refine pk_aload_n C 0 dX0_sell_66 rfl rfl (pc2 := 67) rfl ?_
  refine pk_dup C dX0_sell_67 rfl (pc2 := 68) rfl ?_
  refine pk_get (v := .long (C_rs c)) C i0_ (pw_atX 0 rfl) (ci := 0) rfl 7 (by decide) w7_ rfl rfl dX0_sell_68 (pc2 := 71) rfl ?_
  refine pk_aload_n C 0 dX0_sell_71 rfl rfl (pc2 := 72) rfl ?_
  refine pk_get (v := .long (C_rs c)) C i0_ (pw_atX 0 rfl) (ci := 0) rfl 7 (by decide) w7_ rfl rfl dX0_sell_72 (pc2 := 75) rfl ?_
  refine pk_iload_n C 1 dX0_sell_75 rfl rfl (pc2 := 76) rfl ?_
  refine pk_i2l C dX0_sell_76 (pc2 := 77) rfl ?_
  refine pk_lmul C dX0_sell_77 (pc2 := 78) rfl ?_
  refine pk_ldc2 C w1_ dX0_sell_78 (pc2 := 81) rfl ?_
  refine pk_dSN (cx := []) (wr := [(a, cC b (C_s_re (C_s_al (C_s_co c ((C_co c) - (m_X4_rounded ((C_co c) * (Int32.toInt64 mi)) (1000000)))) ((C_al c) - (m_X4_rounded ((C_al c) * (Int32.toInt64 mi)) (1000000)))) ((C_re c) - (m_X4_rounded ((C_re c) * (Int32.toInt64 mi)) (1000000))))), (b, cS t)]) (X2 := [(a, cC b (C_s_re (C_s_al (C_s_co c ((C_co c) - (m_X4_rounded ((C_co c) * (Int32.toInt64 mi)) (1000000)))) ((C_al c) - (m_X4_rounded ((C_al c) * (Int32.toInt64 mi)) (1000000)))) ((C_re c) - (m_X4_rounded ((C_re c) * (Int32.toInt64 mi)) (1000000))))), (b, cS t)]) (st := [.long (C_rs c), .ref a]) (st2 := [.long (m_X4_rounded ((C_rs c) * (Int32.toInt64 mi)) (1000000)), .long (C_rs c), .ref a]) (As := [.long ((C_rs c) * (Int32.toInt64 mi)), .long (1000000)]) C (c_X4_rounded (zl Z) (zG Z) L F ((C_rs c) * (Int32.toInt64 mi)) (1000000)) gX0_sell_X4_rounded_n132 rfl w2_ w3_ w4_ rfl rfl 2 (by decide +kernel) (by decide) rfl rfl (by decide) (by decide) [] [0, 1] [0, 1] rfl rfl rfl rfl (by decide) rfl rfl dX0_sell_81 (pc2 := 84) rfl rfl ?_
  refine pk_lsub C dX0_sell_84 (pc2 := 85) rfl ?_
  refine pk_putX (X' := [(a, cC b (C_s_rs (C_s_re (C_s_al (C_s_co c ((C_co c) - (m_X4_rounded ((C_co c) * (Int32.toInt64 mi)) (1000000)))) ((C_al c) - (m_X4_rounded ((C_al c) * (Int32.toInt64 mi)) (1000000)))) ((C_re c) - (m_X4_rounded ((C_re c) * (Int32.toInt64 mi)) (1000000)))) ((C_rs c) - (m_X4_rounded ((C_rs c) * (Int32.toInt64 mi)) (1000000))))), (b, cS t)]) C i0_ tyX0_ok nmX0 0 rfl (ci := 0) rfl 7 (by decide) w7_ rfl rfl rfl rfl (by first | rfl | decide) (by decide) rfl dX0_sell_85 (pc2 := 88) rfl ?_
  refine pk_aload_n C 0 dX0_sell_88 rfl rfl (pc2 := 89) rfl ?_
  refine pk_iload_n C 1 dX0_sell_89 rfl rfl (pc2 := 90) rfl ?_
  refine pk_ldc C w8_ dX0_sell_90 (pc2 := 92) rfl ?_
  refine pk_icmp_ne (tgt := 99) C dX0_sell_92 (by decide) (pc2 := 95) rfl (fun h1_ => ?_) (fun h1_ => ?_)
  ·
    refine pk_iconst (v := 0) C dX0_sell_99 (by decide) (pc2 := 100) rfl ?_
    refine pk_putX (X' := [(a, cC b (C_s_go (C_s_rs (C_s_re (C_s_al (C_s_co c ((C_co c) - (m_X4_rounded ((C_co c) * (Int32.toInt64 mi)) (1000000)))) ((C_al c) - (m_X4_rounded ((C_al c) * (Int32.toInt64 mi)) (1000000)))) ((C_re c) - (m_X4_rounded ((C_re c) * (Int32.toInt64 mi)) (1000000)))) ((C_rs c) - (m_X4_rounded ((C_rs c) * (Int32.toInt64 mi)) (1000000)))) 0)), (b, cS t)]) C i0_ tyX0_ok nmX0 0 rfl (ci := 0) rfl 10 (by decide) w9_ rfl rfl rfl rfl rfl (by decide) rfl dX0_sell_100 (pc2 := 103) rfl ?_
    exact pr_void C hE (po_d_rfl rfl (by first | rfl | (unfold m_X0_sell; first | rfl | (rw [if_neg h1_]; done) | (rw [if_neg h1_]; rfl) | (simp only [h1_, if_true, if_false, ite_true, ite_false]; done)))) dX0_sell_103
  ·
    refine pk_iconst (v := 1) C dX0_sell_95 (by decide) (pc2 := 96) rfl ?_
    refine pk_goto (tgt := 100) C dX0_sell_96 (by decide) ?_
    refine pk_putX (X' := [(a, cC b (C_s_go (C_s_rs (C_s_re (C_s_al (C_s_co c ((C_co c) - (m_X4_rounded ((C_co c) * (Int32.toInt64 mi)) (1000000)))) ((C_al c) - (m_X4_rounded ((C_al c) * (Int32.toInt64 mi)) (1000000)))) ((C_re c) - (m_X4_rounded ((C_re c) * (Int32.toInt64 mi)) (1000000)))) ((C_rs c) - (m_X4_rounded ((C_rs c) * (Int32.toInt64 mi)) (1000000)))) 1)), (b, cS t)]) C i0_ tyX0_ok nmX0 0 rfl (ci := 0) rfl 10 (by decide) w9_ rfl rfl rfl rfl rfl (by decide) rfl dX0_sell_100 (pc2 := 103) rfl ?_
    exact pr_void C hE (po_d_rfl rfl (by first | rfl | (unfold m_X0_sell; first | rfl | (rw [if_pos h1_]; done) | (rw [if_pos h1_]; rfl) | (simp only [h1_, if_true, if_false, ite_true, ite_false]; done)))) dX0_sell_103
def m_X0_beginStretch (c : CR) (t : SR) : Unit :=
  ()
set_option maxRecDepth 100000 in
set_option maxHeartbeats 4000000 in
theorem c_X0_beginStretch (l : Launch) (G : pw_G) (L : List Nat) (F : Nat → va_E) (a b : Nat) (c : CR) (t : SR) : PM l yX0_beginStretch wsX0_beginStretch ⟨1, 0, 0, 26⟩ G [.ref a] [(a, cC b c), (b, cS t)] L F 0 0 (po_d none [(a, cC b c), (b, cS t)] L F) := by
  refine pm_entry (by decide) rfl rfl (Nat.le_of_ble_eq_true rfl) ?_
  intro Z Q C hl0 hG0 hnm hE
  subst hl0
  subst hG0
  have i0_ : ∀ w ∈ wsX00, w ∈ wsX0_beginStretch := by decide +kernel
  have w0_ : Cond.fieldLink RX0 12 "AgedAssets$Course" "stretch" "LAgedAssets$Stretch;" ∈ wsX0_beginStretch := by decide +kernel
  have w1_ : Cond.fieldLink RX0 46 "AgedAssets$Course" "residual" "J" ∈ wsX0_beginStretch := by decide +kernel
  have w2_ : Cond.methodLink RX0 136 Lib.MathLoose.max_long.x ∈ wsX0_beginStretch := by decide +kernel
  have w3_ : Cond.static Lib.MathLoose.max_long.x ∈ wsX0_beginStretch := by decide +kernel
  have w4_ : Cond.initialized "java/lang/Math" ∈ wsX0_beginStretch := by decide +kernel
  have w5_ : Cond.code Lib.MathLoose.max_long.x Lib.MathLoose.max_long.code 4 (some .long) ∈ wsX0_beginStretch := by decide +kernel
  have w6_ : Cond.fieldLink RX0 50 "AgedAssets$Course" "restOfLife" "I" ∈ wsX0_beginStretch := by decide +kernel
  have w7_ : Cond.fieldLink RX0 28 "AgedAssets$Course" "rate" "I" ∈ wsX0_beginStretch := by decide +kernel
  have w8_ : Cond.fieldLink RX0 63 "AgedAssets$Course" "chargedUnits" "J" ∈ wsX0_beginStretch := by decide +kernel
  show PW Z [(a, cC b c), (b, cS t)] L F 0 0 Q 0 [(0, .ref a)] []
  refine pk_aload_n C 0 dX0_beginStretch_0 rfl rfl (pc2 := 1) rfl ?_
  refine pk_get (v := .ref b) C i0_ (pw_atX 0 rfl) (ci := 0) rfl 0 (by decide) w0_ rfl rfl dX0_beginStretch_1 (pc2 := 4) rfl ?_
  refine pk_lconst (v := 0) C dX0_beginStretch_4 (by decide) (pc2 := 5) rfl ?_
  refine pk_aload_n C 0 dX0_beginStretch_5 rfl rfl (pc2 := 6) rfl ?_
  refine pk_dV (cx := [(a, cC b c), (b, cS t)]) (wr := []) (X2 := [(a, cC b c), (b, cS t)]) (st := [.long 0, .ref b]) (st2 := [.long (m_X0_book c t), .long 0, .ref b]) (As := []) C (c_X0_book (zl Z) (zG Z) L F a b c t) gX0_beginStretch_X0_book rfl rfl rfl 0 (by decide +kernel) (by decide) (pw_atX 0 rfl) rfl rfl rfl (by decide) (by decide) [0, 1] [] [0, 1] rfl rfl rfl rfl (by decide) rfl rfl dX0_beginStretch_6 (pc2 := 9) rfl rfl ?_
  refine pk_aload_n C 0 dX0_beginStretch_9 rfl rfl (pc2 := 10) rfl ?_
  refine pk_get (v := .long (C_rs c)) C i0_ (pw_atX 0 rfl) (ci := 0) rfl 7 (by decide) w1_ rfl rfl dX0_beginStretch_10 (pc2 := 13) rfl ?_
  refine pk_lsub C dX0_beginStretch_13 (pc2 := 14) rfl ?_
  refine pk_maxl (v := (jmax 0 ((m_X0_book c t) - (C_rs c)))) C ⟨w2_, w3_, w4_, w5_⟩ (by decide) (by decide) (by decide) (by decide) dX0_beginStretch_14 (pc2 := 17) rfl rfl ?_
  refine pk_aload_n C 0 dX0_beginStretch_17 rfl rfl (pc2 := 18) rfl ?_
  refine pk_get (v := .int (C_li c)) C i0_ (pw_atX 0 rfl) (ci := 0) rfl 8 (by decide) w6_ rfl rfl dX0_beginStretch_18 (pc2 := 21) rfl ?_
  refine pk_i2l C dX0_beginStretch_21 (pc2 := 22) rfl ?_
  refine pk_lconst (v := 0) C dX0_beginStretch_22 (by decide) (pc2 := 23) rfl ?_
  refine pk_aload_n C 0 dX0_beginStretch_23 rfl rfl (pc2 := 24) rfl ?_
  refine pk_get (v := .int (C_ra c)) C i0_ (pw_atX 0 rfl) (ci := 0) rfl 2 (by decide) w7_ rfl rfl dX0_beginStretch_24 (pc2 := 27) rfl ?_
  refine pk_i2l C dX0_beginStretch_27 (pc2 := 28) rfl ?_
  refine pk_aload_n C 0 dX0_beginStretch_28 rfl rfl (pc2 := 29) rfl ?_
  refine pk_get (v := .long (C_cu c)) C i0_ (pw_atX 0 rfl) (ci := 0) rfl 12 (by decide) w8_ rfl rfl dX0_beginStretch_29 (pc2 := 32) rfl ?_
  refine pk_lsub C dX0_beginStretch_32 (pc2 := 33) rfl ?_
  refine pk_maxl (v := (jmax 0 ((Int32.toInt64 (C_ra c)) - (C_cu c)))) C ⟨w2_, w3_, w4_, w5_⟩ (by decide) (by decide) (by decide) (by decide) dX0_beginStretch_33 (pc2 := 36) rfl rfl ?_
  refine pk_dV (cx := [(b, cS t)]) (wr := [(a, cC b c)]) (X2 := [(a, cC b c), (b, cS t)]) (st := []) (st2 := []) (As := [.long (jmax 0 ((m_X0_book c t) - (C_rs c))), .long (Int32.toInt64 (C_li c)), .long (jmax 0 ((Int32.toInt64 (C_ra c)) - (C_cu c)))]) C (c_X3_begin (zl Z) (zG Z) L F b t (jmax 0 ((m_X0_book c t) - (C_rs c))) (Int32.toInt64 (C_li c)) (jmax 0 ((Int32.toInt64 (C_ra c)) - (C_cu c)))) gX0_beginStretch_X3_begin rfl rfl rfl 3 (by decide +kernel) (by decide) (pw_atX 1 rfl) rfl rfl rfl (by decide) (by decide) [1] [0] [0, 1] rfl rfl rfl rfl (by decide) rfl rfl dX0_beginStretch_36 (pc2 := 39) rfl rfl ?_
  exact pr_void C hE (po_d_rfl rfl (by first | rfl | (unfold m_X0_beginStretch; rfl))) dX0_beginStretch_39
def m_X0_decliningCharge (c : CR) (t : SR) : Int64 :=
  if 0 < ((m_X0_book c t) - (C_rs c)) then if (C_li c) = 1 then ((m_X0_book c t) - (C_rs c)) else (jmin ((m_X0_book c t) - (C_rs c)) (jmax (m_X4_rounded ((m_X0_book c t) * (Int32.toInt64 (C_ra c))) (1000000)) (m_X4_rounded ((m_X0_book c t) - (C_rs c)) (Int32.toInt64 (C_li c))))) else 0
set_option maxRecDepth 100000 in
set_option maxHeartbeats 4000000 in
theorem c_X0_decliningCharge (l : Launch) (G : pw_G) (L : List Nat) (F : Nat → va_E) (a b : Nat) (c : CR) (t : SR) : PM l yX0_decliningCharge wsX0_decliningCharge ⟨1, 0, 0, 23⟩ G [.ref a] [(a, cC b c), (b, cS t)] L F 0 0 (po_d (some (.long (m_X0_decliningCharge c t))) [(a, cC b c), (b, cS t)] L F) := by
  refine pm_entry (by decide) rfl rfl (Nat.le_of_ble_eq_true rfl) ?_
  intro Z Q C hl0 hG0 hnm hE
  subst hl0
  subst hG0
  have i0_ : ∀ w ∈ wsX00, w ∈ wsX0_decliningCharge := by decide +kernel
  have w0_ : Cond.fieldLink RX0 46 "AgedAssets$Course" "residual" "J" ∈ wsX0_decliningCharge := by decide +kernel
  have w1_ : Cond.fieldLink RX0 50 "AgedAssets$Course" "restOfLife" "I" ∈ wsX0_decliningCharge := by decide +kernel
  have w2_ : Cond.fieldLink RX0 28 "AgedAssets$Course" "rate" "I" ∈ wsX0_decliningCharge := by decide +kernel
  have w3_ : Cond.constantLong RX0 130 (1000000) ∈ wsX0_decliningCharge := by decide +kernel
  have w4_ : Cond.methodLinkNest RX0 132 yX4_rounded RX4 ∈ pw_N := by decide +kernel
  have w5_ : Cond.static yX4_rounded ∈ wsX0_decliningCharge := by decide +kernel
  have w6_ : Cond.initialized RX4 ∈ wsX0_decliningCharge := by decide +kernel
  have w7_ : Cond.methodLink RX0 136 Lib.MathLoose.max_long.x ∈ wsX0_decliningCharge := by decide +kernel
  have w8_ : Cond.static Lib.MathLoose.max_long.x ∈ wsX0_decliningCharge := by decide +kernel
  have w9_ : Cond.initialized "java/lang/Math" ∈ wsX0_decliningCharge := by decide +kernel
  have w10_ : Cond.code Lib.MathLoose.max_long.x Lib.MathLoose.max_long.code 4 (some .long) ∈ wsX0_decliningCharge := by decide +kernel
  have w11_ : Cond.methodLink RX0 124 Lib.MathLoose.min_long.x ∈ wsX0_decliningCharge := by decide +kernel
  have w12_ : Cond.static Lib.MathLoose.min_long.x ∈ wsX0_decliningCharge := by decide +kernel
  have w13_ : Cond.code Lib.MathLoose.min_long.x Lib.MathLoose.min_long.code 4 (some .long) ∈ wsX0_decliningCharge := by decide +kernel
  show PW Z [(a, cC b c), (b, cS t)] L F 0 0 Q 0 [(0, .ref a)] []
  refine pk_aload_n C 0 dX0_decliningCharge_0 rfl rfl (pc2 := 1) rfl ?_
  refine pk_dV (cx := [(a, cC b c), (b, cS t)]) (wr := []) (X2 := [(a, cC b c), (b, cS t)]) (st := []) (st2 := [.long (m_X0_book c t)]) (As := []) C (c_X0_book (zl Z) (zG Z) L F a b c t) gX0_decliningCharge_X0_book rfl rfl rfl 0 (by decide +kernel) (by decide) (pw_atX 0 rfl) rfl rfl rfl (by decide) (by decide) [0, 1] [] [0, 1] rfl rfl rfl rfl (by decide) rfl rfl dX0_decliningCharge_1 (pc2 := 4) rfl rfl ?_
  refine pk_aload_n C 0 dX0_decliningCharge_4 rfl rfl (pc2 := 5) rfl ?_
  refine pk_get (v := .long (C_rs c)) C i0_ (pw_atX 0 rfl) (ci := 0) rfl 7 (by decide) w0_ rfl rfl dX0_decliningCharge_5 (pc2 := 8) rfl ?_
  refine pk_lsub C dX0_decliningCharge_8 (pc2 := 9) rfl ?_
  refine pk_lstore_n (lv' := [(1, .long ((m_X0_book c t) - (C_rs c))), (0, .ref a)]) C dX0_decliningCharge_9 rfl (by decide) rfl (pc2 := 10) rfl ?_
  refine pk_lload_n C 0 dX0_decliningCharge_10 rfl rfl (pc2 := 11) rfl ?_
  refine pk_lconst (v := 0) C dX0_decliningCharge_11 (by decide) (pc2 := 12) rfl ?_
  refine pk_lcmp_gt (tgt := 18) C dX0_decliningCharge_12 dX0_decliningCharge_13 (pc1 := 13) rfl (by decide) (pc2 := 16) rfl (fun h1_ => ?_) (fun h1_ => ?_)
  ·
    refine pk_aload_n C 1 dX0_decliningCharge_18 rfl rfl (pc2 := 19) rfl ?_
    refine pk_get (v := .int (C_li c)) C i0_ (pw_atX 0 rfl) (ci := 0) rfl 8 (by decide) w1_ rfl rfl dX0_decliningCharge_19 (pc2 := 22) rfl ?_
    refine pk_iconst (v := 1) C dX0_decliningCharge_22 (by decide) (pc2 := 23) rfl ?_
    refine pk_icmp_ne (tgt := 28) C dX0_decliningCharge_23 (by decide) (pc2 := 26) rfl (fun h2_ => ?_) (fun h2_ => ?_)
    ·
      refine pk_aload_n C 1 dX0_decliningCharge_28 rfl rfl (pc2 := 29) rfl ?_
      refine pk_dV (cx := [(a, cC b c), (b, cS t)]) (wr := []) (X2 := [(a, cC b c), (b, cS t)]) (st := []) (st2 := [.long (m_X0_book c t)]) (As := []) C (c_X0_book (zl Z) (zG Z) L F a b c t) gX0_decliningCharge_X0_book rfl rfl rfl 0 (by decide +kernel) (by decide) (pw_atX 0 rfl) rfl rfl rfl (by decide) (by decide) [0, 1] [] [0, 1] rfl rfl rfl rfl (by decide) rfl rfl dX0_decliningCharge_29 (pc2 := 32) rfl rfl ?_
      refine pk_aload_n C 1 dX0_decliningCharge_32 rfl rfl (pc2 := 33) rfl ?_
      refine pk_get (v := .int (C_ra c)) C i0_ (pw_atX 0 rfl) (ci := 0) rfl 2 (by decide) w2_ rfl rfl dX0_decliningCharge_33 (pc2 := 36) rfl ?_
      refine pk_i2l C dX0_decliningCharge_36 (pc2 := 37) rfl ?_
      refine pk_lmul C dX0_decliningCharge_37 (pc2 := 38) rfl ?_
      refine pk_ldc2 C w3_ dX0_decliningCharge_38 (pc2 := 41) rfl ?_
      refine pk_dSN (cx := []) (wr := [(a, cC b c), (b, cS t)]) (X2 := [(a, cC b c), (b, cS t)]) (st := []) (st2 := [.long (m_X4_rounded ((m_X0_book c t) * (Int32.toInt64 (C_ra c))) (1000000))]) (As := [.long ((m_X0_book c t) * (Int32.toInt64 (C_ra c))), .long (1000000)]) C (c_X4_rounded (zl Z) (zG Z) L F ((m_X0_book c t) * (Int32.toInt64 (C_ra c))) (1000000)) gX0_decliningCharge_X4_rounded_n132 rfl w4_ w5_ w6_ rfl rfl 2 (by decide +kernel) (by decide) rfl rfl (by decide) (by decide) [] [0, 1] [0, 1] rfl rfl rfl rfl (by decide) rfl rfl dX0_decliningCharge_41 (pc2 := 44) rfl rfl ?_
      refine pk_lstore_n (lv' := [(3, .long (m_X4_rounded ((m_X0_book c t) * (Int32.toInt64 (C_ra c))) (1000000))), (1, .long ((m_X0_book c t) - (C_rs c))), (0, .ref a)]) C dX0_decliningCharge_44 rfl (by decide) rfl (pc2 := 45) rfl ?_
      refine pk_lload_n C 1 dX0_decliningCharge_45 rfl rfl (pc2 := 46) rfl ?_
      refine pk_aload_n C 2 dX0_decliningCharge_46 rfl rfl (pc2 := 47) rfl ?_
      refine pk_get (v := .int (C_li c)) C i0_ (pw_atX 0 rfl) (ci := 0) rfl 8 (by decide) w1_ rfl rfl dX0_decliningCharge_47 (pc2 := 50) rfl ?_
      refine pk_i2l C dX0_decliningCharge_50 (pc2 := 51) rfl ?_
      refine pk_dSN (cx := []) (wr := [(a, cC b c), (b, cS t)]) (X2 := [(a, cC b c), (b, cS t)]) (st := []) (st2 := [.long (m_X4_rounded ((m_X0_book c t) - (C_rs c)) (Int32.toInt64 (C_li c)))]) (As := [.long ((m_X0_book c t) - (C_rs c)), .long (Int32.toInt64 (C_li c))]) C (c_X4_rounded (zl Z) (zG Z) L F ((m_X0_book c t) - (C_rs c)) (Int32.toInt64 (C_li c))) gX0_decliningCharge_X4_rounded_n132 rfl w4_ w5_ w6_ rfl rfl 2 (by decide +kernel) (by decide) rfl rfl (by decide) (by decide) [] [0, 1] [0, 1] rfl rfl rfl rfl (by decide) rfl rfl dX0_decliningCharge_51 (pc2 := 54) rfl rfl ?_
      refine pk_lstore (lv' := [(5, .long (m_X4_rounded ((m_X0_book c t) - (C_rs c)) (Int32.toInt64 (C_li c)))), (3, .long (m_X4_rounded ((m_X0_book c t) * (Int32.toInt64 (C_ra c))) (1000000))), (1, .long ((m_X0_book c t) - (C_rs c))), (0, .ref a)]) C dX0_decliningCharge_54 (by decide) rfl (pc2 := 56) rfl ?_
      refine pk_lload_n C 2 dX0_decliningCharge_56 rfl rfl (pc2 := 57) rfl ?_
      refine pk_lload_n C 1 dX0_decliningCharge_57 rfl rfl (pc2 := 58) rfl ?_
      refine pk_lload C 0 dX0_decliningCharge_58 rfl (pc2 := 60) rfl ?_
      refine pk_maxl (v := (jmax (m_X4_rounded ((m_X0_book c t) * (Int32.toInt64 (C_ra c))) (1000000)) (m_X4_rounded ((m_X0_book c t) - (C_rs c)) (Int32.toInt64 (C_li c))))) C ⟨w7_, w8_, w9_, w10_⟩ (by decide) (by decide) (by decide) (by decide) dX0_decliningCharge_60 (pc2 := 63) rfl rfl ?_
      refine pk_minl (v := (jmin ((m_X0_book c t) - (C_rs c)) (jmax (m_X4_rounded ((m_X0_book c t) * (Int32.toInt64 (C_ra c))) (1000000)) (m_X4_rounded ((m_X0_book c t) - (C_rs c)) (Int32.toInt64 (C_li c)))))) C ⟨w11_, w12_, w9_, w13_⟩ (by decide) (by decide) (by decide) (by decide) dX0_decliningCharge_63 (pc2 := 66) rfl rfl ?_
      exact pr_long C hE (po_d_rfl (by first | rfl | (unfold m_X0_decliningCharge; first | rfl | (rw [if_pos h1_, if_neg h2_]; done) | (rw [if_pos h1_, if_neg h2_]; rfl) | (simp only [h1_, h2_, if_true, if_false, ite_true, ite_false]; done))) (by first | rfl | (unfold m_X0_decliningCharge; first | rfl | (rw [if_pos h1_, if_neg h2_]; done) | (rw [if_pos h1_, if_neg h2_]; rfl) | (simp only [h1_, h2_, if_true, if_false, ite_true, ite_false]; done)))) dX0_decliningCharge_66
    ·
      refine pk_lload_n C 0 dX0_decliningCharge_26 rfl rfl (pc2 := 27) rfl ?_
      exact pr_long C hE (po_d_rfl (by first | rfl | (unfold m_X0_decliningCharge; first | rfl | (rw [if_pos h1_, if_pos h2_]; done) | (rw [if_pos h1_, if_pos h2_]; rfl) | (simp only [h1_, h2_, if_true, if_false, ite_true, ite_false]; done))) (by first | rfl | (unfold m_X0_decliningCharge; first | rfl | (rw [if_pos h1_, if_pos h2_]; done) | (rw [if_pos h1_, if_pos h2_]; rfl) | (simp only [h1_, h2_, if_true, if_false, ite_true, ite_false]; done)))) dX0_decliningCharge_27
  ·
    refine pk_lconst (v := 0) C dX0_decliningCharge_16 (by decide) (pc2 := 17) rfl ?_
    exact pr_long C hE (po_d_rfl (by first | rfl | (unfold m_X0_decliningCharge; first | rfl | (rw [if_neg h1_]; done) | (rw [if_neg h1_]; rfl) | (simp only [h1_, if_true, if_false, ite_true, ite_false]; done))) (by first | rfl | (unfold m_X0_decliningCharge; first | rfl | (rw [if_neg h1_]; done) | (rw [if_neg h1_]; rfl) | (simp only [h1_, if_true, if_false, ite_true, ite_false]; done)))) dX0_decliningCharge_17
def m_X0_isBreach (c : CR) (t : SR) (ev : ER) (mr : Int64) : Int32 :=
  if (C_go c) = 0 then if (C_he c) = 0 then if (E_ki ev) = 0 then if (C_li c) = 0 then 1 else if (C_rs c) ≤ ((m_X0_book c t) + (E_am ev)) then 0 else 1 else if (E_ki ev) = 1 then if (E_am ev) ≤ (m_X0_book c t) then 0 else 1 else if (E_ki ev) = 2 then 0 else if (E_ki ev) = 3 then if (E_am ev) < (m_X0_book c t) then 0 else 1 else if (E_ki ev) = 4 then if (E_am ev) ≤ (m_X0_book c t) then 1 else if mr < (E_am ev) then 1 else if (C_al c) < ((E_am ev) - (m_X0_book c t)) then 1 else if (C_rs c) ≤ (E_am ev) then 0 else 1 else if (E_ki ev) = 5 then 0 else if (E_ki ev) = 6 then 0 else if (E_ki ev) = 7 then 1 else 0 else if (E_ki ev) = 7 then if (E_ki ev) = 0 then if (C_li c) = 0 then 1 else if (C_rs c) ≤ ((m_X0_book c t) + (E_am ev)) then 0 else 1 else if (E_ki ev) = 1 then if (E_am ev) ≤ (m_X0_book c t) then 0 else 1 else if (E_ki ev) = 2 then 0 else if (E_ki ev) = 3 then if (E_am ev) < (m_X0_book c t) then 0 else 1 else if (E_ki ev) = 4 then if (E_am ev) ≤ (m_X0_book c t) then 1 else if mr < (E_am ev) then 1 else if (C_al c) < ((E_am ev) - (m_X0_book c t)) then 1 else if (C_rs c) ≤ (E_am ev) then 0 else 1 else if (E_ki ev) = 5 then 0 else if (E_ki ev) = 6 then 0 else if (E_ki ev) = 7 then 0 else 0 else if (E_ki ev) = 5 then if (E_ki ev) = 0 then if (C_li c) = 0 then 1 else if (C_rs c) ≤ ((m_X0_book c t) + (E_am ev)) then 0 else 1 else if (E_ki ev) = 1 then if (E_am ev) ≤ (m_X0_book c t) then 0 else 1 else if (E_ki ev) = 2 then 0 else if (E_ki ev) = 3 then if (E_am ev) < (m_X0_book c t) then 0 else 1 else if (E_ki ev) = 4 then if (E_am ev) ≤ (m_X0_book c t) then 1 else if mr < (E_am ev) then 1 else if (C_al c) < ((E_am ev) - (m_X0_book c t)) then 1 else if (C_rs c) ≤ (E_am ev) then 0 else 1 else if (E_ki ev) = 5 then 0 else if (E_ki ev) = 6 then 0 else if (E_ki ev) = 7 then 0 else 0 else 1 else 1
set_option maxRecDepth 100000 in
set_option maxHeartbeats 4000000 in
theorem c_X0_isBreach (l : Launch) (G : pw_G) (L : List Nat) (F : Nat → va_E) (a b : Nat) (c : CR) (t : SR) (e : Nat) (ev : ER) (heL : e ∈ L) (heF : F e = cE ev) (mr : Int64) : PM l yX0_isBreach wsX0_isBreach ⟨1, 0, 0, 20⟩ G [.ref a, .ref e, .long mr] [(a, cC b c), (b, cS t)] L F 0 0 (po_d (some (.int (m_X0_isBreach c t ev mr))) [(a, cC b c), (b, cS t)] L F) := by
  refine pm_entry (by decide) rfl rfl (Nat.le_of_ble_eq_true rfl) ?_
  intro Z Q C hl0 hG0 hnm hE
  subst hl0
  subst hG0
  have i0_ : ∀ w ∈ wsX00, w ∈ wsX0_isBreach := by decide +kernel
  have i1_ : ∀ w ∈ wsX10, w ∈ wsX0_isBreach := by decide +kernel
  have w0_ : Cond.fieldLink RX0 57 "AgedAssets$Course" "gone" "Z" ∈ wsX0_isBreach := by decide +kernel
  have w1_ : Cond.fieldLink RX0 53 "AgedAssets$Course" "held" "Z" ∈ wsX0_isBreach := by decide +kernel
  have w2_ : Cond.fieldLink RX0 89 "AgedAssets$Event" "kind" "I" ∈ wsX0_isBreach := by decide +kernel
  have w3_ : Cond.fieldLink RX0 50 "AgedAssets$Course" "restOfLife" "I" ∈ wsX0_isBreach := by decide +kernel
  have w4_ : Cond.fieldLink RX0 46 "AgedAssets$Course" "residual" "J" ∈ wsX0_isBreach := by decide +kernel
  have w5_ : Cond.fieldLink RX0 101 "AgedAssets$Event" "amount" "J" ∈ wsX0_isBreach := by decide +kernel
  have w6_ : Cond.fieldLink RX0 34 "AgedAssets$Course" "allowance" "J" ∈ wsX0_isBreach := by decide +kernel
  show PW Z [(a, cC b c), (b, cS t)] L F 0 0 Q 0 [(0, .ref a), (1, .ref e), (2, .long mr)] []
  refine pk_aload_n C 0 dX0_isBreach_0 rfl rfl (pc2 := 1) rfl ?_
  refine pk_get (v := .int (C_go c)) C i0_ (pw_atX 0 rfl) (ci := 0) rfl 10 (by decide) w0_ rfl rfl dX0_isBreach_1 (pc2 := 4) rfl ?_
  refine pk_if_ne (tgt := 31) C dX0_isBreach_4 (by decide) (pc2 := 7) rfl (fun h1_ => ?_) (fun h1_ => ?_)
  ·
    refine pk_iconst (v := 1) C dX0_isBreach_31 (by decide) (pc2 := 32) rfl ?_
    exact pr_int (ty := .boolean) C hE rfl rfl (po_d_rfl (by first | rfl | (unfold m_X0_isBreach; first | rfl | (rw [if_neg h1_]; done) | (rw [if_neg h1_]; rfl) | (simp only [h1_, if_true, if_false, ite_true, ite_false]; done))) (by first | rfl | (unfold m_X0_isBreach; first | rfl | (rw [if_neg h1_]; done) | (rw [if_neg h1_]; rfl) | (simp only [h1_, if_true, if_false, ite_true, ite_false]; done)))) dX0_isBreach_32
  ·
    refine pk_aload_n C 0 dX0_isBreach_7 rfl rfl (pc2 := 8) rfl ?_
    refine pk_get (v := .int (C_he c)) C i0_ (pw_atX 0 rfl) (ci := 0) rfl 9 (by decide) w1_ rfl rfl dX0_isBreach_8 (pc2 := 11) rfl ?_
    refine pk_if_eq (tgt := 33) C dX0_isBreach_11 (by decide) (pc2 := 14) rfl (fun h2_ => ?_) (fun h2_ => ?_)
    ·
      refine pk_aload_n C 1 dX0_isBreach_33 rfl rfl (pc2 := 34) rfl ?_
      refine pk_get (v := .int (E_ki ev)) C i1_ (pw_atP heL heF) (ci := 1) rfl 2 (by decide) w2_ rfl rfl dX0_isBreach_34 (pc2 := 37) rfl ?_
      by_cases h3_ : (E_ki ev) = 0
      ·
        refine pk_tableIn (tgt := 84) C dX0_isBreach_37 (by rw [h3_]; decide) (by rw [h3_]; decide) (by rw [h3_]; rfl) (by decide) ?_
        refine pk_aload_n C 0 dX0_isBreach_84 rfl rfl (pc2 := 85) rfl ?_
        refine pk_get (v := .int (C_li c)) C i0_ (pw_atX 0 rfl) (ci := 0) rfl 8 (by decide) w3_ rfl rfl dX0_isBreach_85 (pc2 := 88) rfl ?_
        refine pk_if_eq (tgt := 108) C dX0_isBreach_88 (by decide) (pc2 := 91) rfl (fun h4_ => ?_) (fun h4_ => ?_)
        ·
          refine pk_iconst (v := 1) C dX0_isBreach_108 (by decide) (pc2 := 109) rfl ?_
          refine pk_goto (tgt := 113) C dX0_isBreach_109 (by decide) ?_
          exact pr_int (ty := .boolean) C hE rfl rfl (po_d_rfl (by first | rfl | (unfold m_X0_isBreach; first | rfl | (rw [if_pos h1_, if_pos h2_, if_pos h3_, if_pos h4_]; done) | (rw [if_pos h1_, if_pos h2_, if_pos h3_, if_pos h4_]; rfl) | (simp only [h1_, h2_, h3_, h4_, if_true, if_false, ite_true, ite_false]; done))) (by first | rfl | (unfold m_X0_isBreach; first | rfl | (rw [if_pos h1_, if_pos h2_, if_pos h3_, if_pos h4_]; done) | (rw [if_pos h1_, if_pos h2_, if_pos h3_, if_pos h4_]; rfl) | (simp only [h1_, h2_, h3_, h4_, if_true, if_false, ite_true, ite_false]; done)))) dX0_isBreach_113
        ·
          refine pk_aload_n C 0 dX0_isBreach_91 rfl rfl (pc2 := 92) rfl ?_
          refine pk_get (v := .long (C_rs c)) C i0_ (pw_atX 0 rfl) (ci := 0) rfl 7 (by decide) w4_ rfl rfl dX0_isBreach_92 (pc2 := 95) rfl ?_
          refine pk_aload_n C 0 dX0_isBreach_95 rfl rfl (pc2 := 96) rfl ?_
          refine pk_dV (cx := [(a, cC b c), (b, cS t)]) (wr := []) (X2 := [(a, cC b c), (b, cS t)]) (st := [.long (C_rs c)]) (st2 := [.long (m_X0_book c t), .long (C_rs c)]) (As := []) C (c_X0_book (zl Z) (zG Z) L F a b c t) gX0_isBreach_X0_book rfl rfl rfl 0 (by decide +kernel) (by decide) (pw_atX 0 rfl) rfl rfl rfl (by decide) (by decide) [0, 1] [] [0, 1] rfl rfl rfl rfl (by decide) rfl rfl dX0_isBreach_96 (pc2 := 99) rfl rfl ?_
          refine pk_aload_n C 1 dX0_isBreach_99 rfl rfl (pc2 := 100) rfl ?_
          refine pk_get (v := .long (E_am ev)) C i1_ (pw_atP heL heF) (ci := 1) rfl 3 (by decide) w5_ rfl rfl dX0_isBreach_100 (pc2 := 103) rfl ?_
          refine pk_ladd C dX0_isBreach_103 (pc2 := 104) rfl ?_
          refine pk_lcmp_le (tgt := 112) C dX0_isBreach_104 dX0_isBreach_105 (pc1 := 105) rfl (by decide) (pc2 := 108) rfl (fun h5_ => ?_) (fun h5_ => ?_)
          ·
            refine pk_iconst (v := 0) C dX0_isBreach_112 (by decide) (pc2 := 113) rfl ?_
            exact pr_int (ty := .boolean) C hE rfl rfl (po_d_rfl (by first | rfl | (unfold m_X0_isBreach; first | rfl | (rw [if_pos h1_, if_pos h2_, if_pos h3_, if_neg h4_, if_pos h5_]; done) | (rw [if_pos h1_, if_pos h2_, if_pos h3_, if_neg h4_, if_pos h5_]; rfl) | (simp only [h1_, h2_, h3_, h4_, h5_, if_true, if_false, ite_true, ite_false]; done))) (by first | rfl | (unfold m_X0_isBreach; first | rfl | (rw [if_pos h1_, if_pos h2_, if_pos h3_, if_neg h4_, if_pos h5_]; done) | (rw [if_pos h1_, if_pos h2_, if_pos h3_, if_neg h4_, if_pos h5_]; rfl) | (simp only [h1_, h2_, h3_, h4_, h5_, if_true, if_false, ite_true, ite_false]; done)))) dX0_isBreach_113
          ·
            refine pk_iconst (v := 1) C dX0_isBreach_108 (by decide) (pc2 := 109) rfl ?_
            refine pk_goto (tgt := 113) C dX0_isBreach_109 (by decide) ?_
            exact pr_int (ty := .boolean) C hE rfl rfl (po_d_rfl (by first | rfl | (unfold m_X0_isBreach; first | rfl | (rw [if_pos h1_, if_pos h2_, if_pos h3_, if_neg h4_, if_neg h5_]; done) | (rw [if_pos h1_, if_pos h2_, if_pos h3_, if_neg h4_, if_neg h5_]; rfl) | (simp only [h1_, h2_, h3_, h4_, h5_, if_true, if_false, ite_true, ite_false]; done))) (by first | rfl | (unfold m_X0_isBreach; first | rfl | (rw [if_pos h1_, if_pos h2_, if_pos h3_, if_neg h4_, if_neg h5_]; done) | (rw [if_pos h1_, if_pos h2_, if_pos h3_, if_neg h4_, if_neg h5_]; rfl) | (simp only [h1_, h2_, h3_, h4_, h5_, if_true, if_false, ite_true, ite_false]; done)))) dX0_isBreach_113
      by_cases h6_ : (E_ki ev) = 1
      ·
        refine pk_tableIn (tgt := 114) C dX0_isBreach_37 (by rw [h6_]; decide) (by rw [h6_]; decide) (by rw [h6_]; rfl) (by decide) ?_
        refine pk_aload_n C 1 dX0_isBreach_114 rfl rfl (pc2 := 115) rfl ?_
        refine pk_get (v := .long (E_am ev)) C i1_ (pw_atP heL heF) (ci := 1) rfl 3 (by decide) w5_ rfl rfl dX0_isBreach_115 (pc2 := 118) rfl ?_
        refine pk_aload_n C 0 dX0_isBreach_118 rfl rfl (pc2 := 119) rfl ?_
        refine pk_dV (cx := [(a, cC b c), (b, cS t)]) (wr := []) (X2 := [(a, cC b c), (b, cS t)]) (st := [.long (E_am ev)]) (st2 := [.long (m_X0_book c t), .long (E_am ev)]) (As := []) C (c_X0_book (zl Z) (zG Z) L F a b c t) gX0_isBreach_X0_book rfl rfl rfl 0 (by decide +kernel) (by decide) (pw_atX 0 rfl) rfl rfl rfl (by decide) (by decide) [0, 1] [] [0, 1] rfl rfl rfl rfl (by decide) rfl rfl dX0_isBreach_119 (pc2 := 122) rfl rfl ?_
        refine pk_lcmp_le (tgt := 130) C dX0_isBreach_122 dX0_isBreach_123 (pc1 := 123) rfl (by decide) (pc2 := 126) rfl (fun h7_ => ?_) (fun h7_ => ?_)
        ·
          refine pk_iconst (v := 0) C dX0_isBreach_130 (by decide) (pc2 := 131) rfl ?_
          exact pr_int (ty := .boolean) C hE rfl rfl (po_d_rfl (by first | rfl | (unfold m_X0_isBreach; first | rfl | (rw [if_pos h1_, if_pos h2_, if_neg h3_, if_pos h6_, if_pos h7_]; done) | (rw [if_pos h1_, if_pos h2_, if_neg h3_, if_pos h6_, if_pos h7_]; rfl) | (simp only [h1_, h2_, h3_, h6_, h7_, if_true, if_false, ite_true, ite_false]; done))) (by first | rfl | (unfold m_X0_isBreach; first | rfl | (rw [if_pos h1_, if_pos h2_, if_neg h3_, if_pos h6_, if_pos h7_]; done) | (rw [if_pos h1_, if_pos h2_, if_neg h3_, if_pos h6_, if_pos h7_]; rfl) | (simp only [h1_, h2_, h3_, h6_, h7_, if_true, if_false, ite_true, ite_false]; done)))) dX0_isBreach_131
        ·
          refine pk_iconst (v := 1) C dX0_isBreach_126 (by decide) (pc2 := 127) rfl ?_
          refine pk_goto (tgt := 131) C dX0_isBreach_127 (by decide) ?_
          exact pr_int (ty := .boolean) C hE rfl rfl (po_d_rfl (by first | rfl | (unfold m_X0_isBreach; first | rfl | (rw [if_pos h1_, if_pos h2_, if_neg h3_, if_pos h6_, if_neg h7_]; done) | (rw [if_pos h1_, if_pos h2_, if_neg h3_, if_pos h6_, if_neg h7_]; rfl) | (simp only [h1_, h2_, h3_, h6_, h7_, if_true, if_false, ite_true, ite_false]; done))) (by first | rfl | (unfold m_X0_isBreach; first | rfl | (rw [if_pos h1_, if_pos h2_, if_neg h3_, if_pos h6_, if_neg h7_]; done) | (rw [if_pos h1_, if_pos h2_, if_neg h3_, if_pos h6_, if_neg h7_]; rfl) | (simp only [h1_, h2_, h3_, h6_, h7_, if_true, if_false, ite_true, ite_false]; done)))) dX0_isBreach_131
      by_cases h8_ : (E_ki ev) = 2
      ·
        refine pk_tableIn (tgt := 219) C dX0_isBreach_37 (by rw [h8_]; decide) (by rw [h8_]; decide) (by rw [h8_]; rfl) (by decide) ?_
        refine pk_iconst (v := 0) C dX0_isBreach_219 (by decide) (pc2 := 220) rfl ?_
        exact pr_int (ty := .boolean) C hE rfl rfl (po_d_rfl (by first | rfl | (unfold m_X0_isBreach; first | rfl | (rw [if_pos h1_, if_pos h2_, if_neg h3_, if_neg h6_, if_pos h8_]; done) | (rw [if_pos h1_, if_pos h2_, if_neg h3_, if_neg h6_, if_pos h8_]; rfl) | (simp only [h1_, h2_, h3_, h6_, h8_, if_true, if_false, ite_true, ite_false]; done))) (by first | rfl | (unfold m_X0_isBreach; first | rfl | (rw [if_pos h1_, if_pos h2_, if_neg h3_, if_neg h6_, if_pos h8_]; done) | (rw [if_pos h1_, if_pos h2_, if_neg h3_, if_neg h6_, if_pos h8_]; rfl) | (simp only [h1_, h2_, h3_, h6_, h8_, if_true, if_false, ite_true, ite_false]; done)))) dX0_isBreach_220
      by_cases h9_ : (E_ki ev) = 3
      ·
        refine pk_tableIn (tgt := 132) C dX0_isBreach_37 (by rw [h9_]; decide) (by rw [h9_]; decide) (by rw [h9_]; rfl) (by decide) ?_
        refine pk_aload_n C 1 dX0_isBreach_132 rfl rfl (pc2 := 133) rfl ?_
        refine pk_get (v := .long (E_am ev)) C i1_ (pw_atP heL heF) (ci := 1) rfl 3 (by decide) w5_ rfl rfl dX0_isBreach_133 (pc2 := 136) rfl ?_
        refine pk_aload_n C 0 dX0_isBreach_136 rfl rfl (pc2 := 137) rfl ?_
        refine pk_dV (cx := [(a, cC b c), (b, cS t)]) (wr := []) (X2 := [(a, cC b c), (b, cS t)]) (st := [.long (E_am ev)]) (st2 := [.long (m_X0_book c t), .long (E_am ev)]) (As := []) C (c_X0_book (zl Z) (zG Z) L F a b c t) gX0_isBreach_X0_book rfl rfl rfl 0 (by decide +kernel) (by decide) (pw_atX 0 rfl) rfl rfl rfl (by decide) (by decide) [0, 1] [] [0, 1] rfl rfl rfl rfl (by decide) rfl rfl dX0_isBreach_137 (pc2 := 140) rfl rfl ?_
        refine pk_lcmp_lt (tgt := 148) C dX0_isBreach_140 dX0_isBreach_141 (pc1 := 141) rfl (by decide) (pc2 := 144) rfl (fun h10_ => ?_) (fun h10_ => ?_)
        ·
          refine pk_iconst (v := 0) C dX0_isBreach_148 (by decide) (pc2 := 149) rfl ?_
          exact pr_int (ty := .boolean) C hE rfl rfl (po_d_rfl (by first | rfl | (unfold m_X0_isBreach; first | rfl | (rw [if_pos h1_, if_pos h2_, if_neg h3_, if_neg h6_, if_neg h8_, if_pos h9_, if_pos h10_]; done) | (rw [if_pos h1_, if_pos h2_, if_neg h3_, if_neg h6_, if_neg h8_, if_pos h9_, if_pos h10_]; rfl) | (simp only [h1_, h2_, h3_, h6_, h8_, h9_, h10_, if_true, if_false, ite_true, ite_false]; done))) (by first | rfl | (unfold m_X0_isBreach; first | rfl | (rw [if_pos h1_, if_pos h2_, if_neg h3_, if_neg h6_, if_neg h8_, if_pos h9_, if_pos h10_]; done) | (rw [if_pos h1_, if_pos h2_, if_neg h3_, if_neg h6_, if_neg h8_, if_pos h9_, if_pos h10_]; rfl) | (simp only [h1_, h2_, h3_, h6_, h8_, h9_, h10_, if_true, if_false, ite_true, ite_false]; done)))) dX0_isBreach_149
        ·
          refine pk_iconst (v := 1) C dX0_isBreach_144 (by decide) (pc2 := 145) rfl ?_
          refine pk_goto (tgt := 149) C dX0_isBreach_145 (by decide) ?_
          exact pr_int (ty := .boolean) C hE rfl rfl (po_d_rfl (by first | rfl | (unfold m_X0_isBreach; first | rfl | (rw [if_pos h1_, if_pos h2_, if_neg h3_, if_neg h6_, if_neg h8_, if_pos h9_, if_neg h10_]; done) | (rw [if_pos h1_, if_pos h2_, if_neg h3_, if_neg h6_, if_neg h8_, if_pos h9_, if_neg h10_]; rfl) | (simp only [h1_, h2_, h3_, h6_, h8_, h9_, h10_, if_true, if_false, ite_true, ite_false]; done))) (by first | rfl | (unfold m_X0_isBreach; first | rfl | (rw [if_pos h1_, if_pos h2_, if_neg h3_, if_neg h6_, if_neg h8_, if_pos h9_, if_neg h10_]; done) | (rw [if_pos h1_, if_pos h2_, if_neg h3_, if_neg h6_, if_neg h8_, if_pos h9_, if_neg h10_]; rfl) | (simp only [h1_, h2_, h3_, h6_, h8_, h9_, h10_, if_true, if_false, ite_true, ite_false]; done)))) dX0_isBreach_149
      by_cases h11_ : (E_ki ev) = 4
      ·
        refine pk_tableIn (tgt := 150) C dX0_isBreach_37 (by rw [h11_]; decide) (by rw [h11_]; decide) (by rw [h11_]; rfl) (by decide) ?_
        refine pk_aload_n C 1 dX0_isBreach_150 rfl rfl (pc2 := 151) rfl ?_
        refine pk_get (v := .long (E_am ev)) C i1_ (pw_atP heL heF) (ci := 1) rfl 3 (by decide) w5_ rfl rfl dX0_isBreach_151 (pc2 := 154) rfl ?_
        refine pk_aload_n C 0 dX0_isBreach_154 rfl rfl (pc2 := 155) rfl ?_
        refine pk_dV (cx := [(a, cC b c), (b, cS t)]) (wr := []) (X2 := [(a, cC b c), (b, cS t)]) (st := [.long (E_am ev)]) (st2 := [.long (m_X0_book c t), .long (E_am ev)]) (As := []) C (c_X0_book (zl Z) (zG Z) L F a b c t) gX0_isBreach_X0_book rfl rfl rfl 0 (by decide +kernel) (by decide) (pw_atX 0 rfl) rfl rfl rfl (by decide) (by decide) [0, 1] [] [0, 1] rfl rfl rfl rfl (by decide) rfl rfl dX0_isBreach_155 (pc2 := 158) rfl rfl ?_
        refine pk_lcmp_le (tgt := 200) C dX0_isBreach_158 dX0_isBreach_159 (pc1 := 159) rfl (by decide) (pc2 := 162) rfl (fun h12_ => ?_) (fun h12_ => ?_)
        ·
          refine pk_iconst (v := 1) C dX0_isBreach_200 (by decide) (pc2 := 201) rfl ?_
          refine pk_goto (tgt := 205) C dX0_isBreach_201 (by decide) ?_
          exact pr_int (ty := .boolean) C hE rfl rfl (po_d_rfl (by first | rfl | (unfold m_X0_isBreach; first | rfl | (rw [if_pos h1_, if_pos h2_, if_neg h3_, if_neg h6_, if_neg h8_, if_neg h9_, if_pos h11_, if_pos h12_]; done) | (rw [if_pos h1_, if_pos h2_, if_neg h3_, if_neg h6_, if_neg h8_, if_neg h9_, if_pos h11_, if_pos h12_]; rfl) | (simp only [h1_, h2_, h3_, h6_, h8_, h9_, h11_, h12_, if_true, if_false, ite_true, ite_false]; done))) (by first | rfl | (unfold m_X0_isBreach; first | rfl | (rw [if_pos h1_, if_pos h2_, if_neg h3_, if_neg h6_, if_neg h8_, if_neg h9_, if_pos h11_, if_pos h12_]; done) | (rw [if_pos h1_, if_pos h2_, if_neg h3_, if_neg h6_, if_neg h8_, if_neg h9_, if_pos h11_, if_pos h12_]; rfl) | (simp only [h1_, h2_, h3_, h6_, h8_, h9_, h11_, h12_, if_true, if_false, ite_true, ite_false]; done)))) dX0_isBreach_205
        ·
          refine pk_aload_n C 1 dX0_isBreach_162 rfl rfl (pc2 := 163) rfl ?_
          refine pk_get (v := .long (E_am ev)) C i1_ (pw_atP heL heF) (ci := 1) rfl 3 (by decide) w5_ rfl rfl dX0_isBreach_163 (pc2 := 166) rfl ?_
          refine pk_lload_n C 2 dX0_isBreach_166 rfl rfl (pc2 := 167) rfl ?_
          refine pk_lcmp_gt (tgt := 200) C dX0_isBreach_167 dX0_isBreach_168 (pc1 := 168) rfl (by decide) (pc2 := 171) rfl (fun h13_ => ?_) (fun h13_ => ?_)
          ·
            refine pk_iconst (v := 1) C dX0_isBreach_200 (by decide) (pc2 := 201) rfl ?_
            refine pk_goto (tgt := 205) C dX0_isBreach_201 (by decide) ?_
            exact pr_int (ty := .boolean) C hE rfl rfl (po_d_rfl (by first | rfl | (unfold m_X0_isBreach; first | rfl | (rw [if_pos h1_, if_pos h2_, if_neg h3_, if_neg h6_, if_neg h8_, if_neg h9_, if_pos h11_, if_neg h12_, if_pos h13_]; done) | (rw [if_pos h1_, if_pos h2_, if_neg h3_, if_neg h6_, if_neg h8_, if_neg h9_, if_pos h11_, if_neg h12_, if_pos h13_]; rfl) | (simp only [h1_, h2_, h3_, h6_, h8_, h9_, h11_, h12_, h13_, if_true, if_false, ite_true, ite_false]; done))) (by first | rfl | (unfold m_X0_isBreach; first | rfl | (rw [if_pos h1_, if_pos h2_, if_neg h3_, if_neg h6_, if_neg h8_, if_neg h9_, if_pos h11_, if_neg h12_, if_pos h13_]; done) | (rw [if_pos h1_, if_pos h2_, if_neg h3_, if_neg h6_, if_neg h8_, if_neg h9_, if_pos h11_, if_neg h12_, if_pos h13_]; rfl) | (simp only [h1_, h2_, h3_, h6_, h8_, h9_, h11_, h12_, h13_, if_true, if_false, ite_true, ite_false]; done)))) dX0_isBreach_205
          ·
            refine pk_aload_n C 1 dX0_isBreach_171 rfl rfl (pc2 := 172) rfl ?_
            refine pk_get (v := .long (E_am ev)) C i1_ (pw_atP heL heF) (ci := 1) rfl 3 (by decide) w5_ rfl rfl dX0_isBreach_172 (pc2 := 175) rfl ?_
            refine pk_aload_n C 0 dX0_isBreach_175 rfl rfl (pc2 := 176) rfl ?_
            refine pk_dV (cx := [(a, cC b c), (b, cS t)]) (wr := []) (X2 := [(a, cC b c), (b, cS t)]) (st := [.long (E_am ev)]) (st2 := [.long (m_X0_book c t), .long (E_am ev)]) (As := []) C (c_X0_book (zl Z) (zG Z) L F a b c t) gX0_isBreach_X0_book rfl rfl rfl 0 (by decide +kernel) (by decide) (pw_atX 0 rfl) rfl rfl rfl (by decide) (by decide) [0, 1] [] [0, 1] rfl rfl rfl rfl (by decide) rfl rfl dX0_isBreach_176 (pc2 := 179) rfl rfl ?_
            refine pk_lsub C dX0_isBreach_179 (pc2 := 180) rfl ?_
            refine pk_aload_n C 0 dX0_isBreach_180 rfl rfl (pc2 := 181) rfl ?_
            refine pk_get (v := .long (C_al c)) C i0_ (pw_atX 0 rfl) (ci := 0) rfl 4 (by decide) w6_ rfl rfl dX0_isBreach_181 (pc2 := 184) rfl ?_
            refine pk_lcmp_gt (tgt := 200) C dX0_isBreach_184 dX0_isBreach_185 (pc1 := 185) rfl (by decide) (pc2 := 188) rfl (fun h14_ => ?_) (fun h14_ => ?_)
            ·
              refine pk_iconst (v := 1) C dX0_isBreach_200 (by decide) (pc2 := 201) rfl ?_
              refine pk_goto (tgt := 205) C dX0_isBreach_201 (by decide) ?_
              exact pr_int (ty := .boolean) C hE rfl rfl (po_d_rfl (by first | rfl | (unfold m_X0_isBreach; first | rfl | (rw [if_pos h1_, if_pos h2_, if_neg h3_, if_neg h6_, if_neg h8_, if_neg h9_, if_pos h11_, if_neg h12_, if_neg h13_, if_pos h14_]; done) | (rw [if_pos h1_, if_pos h2_, if_neg h3_, if_neg h6_, if_neg h8_, if_neg h9_, if_pos h11_, if_neg h12_, if_neg h13_, if_pos h14_]; rfl) | (simp only [h1_, h2_, h3_, h6_, h8_, h9_, h11_, h12_, h13_, h14_, if_true, if_false, ite_true, ite_false]; done))) (by first | rfl | (unfold m_X0_isBreach; first | rfl | (rw [if_pos h1_, if_pos h2_, if_neg h3_, if_neg h6_, if_neg h8_, if_neg h9_, if_pos h11_, if_neg h12_, if_neg h13_, if_pos h14_]; done) | (rw [if_pos h1_, if_pos h2_, if_neg h3_, if_neg h6_, if_neg h8_, if_neg h9_, if_pos h11_, if_neg h12_, if_neg h13_, if_pos h14_]; rfl) | (simp only [h1_, h2_, h3_, h6_, h8_, h9_, h11_, h12_, h13_, h14_, if_true, if_false, ite_true, ite_false]; done)))) dX0_isBreach_205
            ·
              refine pk_aload_n C 0 dX0_isBreach_188 rfl rfl (pc2 := 189) rfl ?_
              refine pk_get (v := .long (C_rs c)) C i0_ (pw_atX 0 rfl) (ci := 0) rfl 7 (by decide) w4_ rfl rfl dX0_isBreach_189 (pc2 := 192) rfl ?_
              refine pk_aload_n C 1 dX0_isBreach_192 rfl rfl (pc2 := 193) rfl ?_
              refine pk_get (v := .long (E_am ev)) C i1_ (pw_atP heL heF) (ci := 1) rfl 3 (by decide) w5_ rfl rfl dX0_isBreach_193 (pc2 := 196) rfl ?_
              refine pk_lcmp_le (tgt := 204) C dX0_isBreach_196 dX0_isBreach_197 (pc1 := 197) rfl (by decide) (pc2 := 200) rfl (fun h15_ => ?_) (fun h15_ => ?_)
              ·
                refine pk_iconst (v := 0) C dX0_isBreach_204 (by decide) (pc2 := 205) rfl ?_
                exact pr_int (ty := .boolean) C hE rfl rfl (po_d_rfl (by first | rfl | (unfold m_X0_isBreach; first | rfl | (rw [if_pos h1_, if_pos h2_, if_neg h3_, if_neg h6_, if_neg h8_, if_neg h9_, if_pos h11_, if_neg h12_, if_neg h13_, if_neg h14_, if_pos h15_]; done) | (rw [if_pos h1_, if_pos h2_, if_neg h3_, if_neg h6_, if_neg h8_, if_neg h9_, if_pos h11_, if_neg h12_, if_neg h13_, if_neg h14_, if_pos h15_]; rfl) | (simp only [h1_, h2_, h3_, h6_, h8_, h9_, h11_, h12_, h13_, h14_, h15_, if_true, if_false, ite_true, ite_false]; done))) (by first | rfl | (unfold m_X0_isBreach; first | rfl | (rw [if_pos h1_, if_pos h2_, if_neg h3_, if_neg h6_, if_neg h8_, if_neg h9_, if_pos h11_, if_neg h12_, if_neg h13_, if_neg h14_, if_pos h15_]; done) | (rw [if_pos h1_, if_pos h2_, if_neg h3_, if_neg h6_, if_neg h8_, if_neg h9_, if_pos h11_, if_neg h12_, if_neg h13_, if_neg h14_, if_pos h15_]; rfl) | (simp only [h1_, h2_, h3_, h6_, h8_, h9_, h11_, h12_, h13_, h14_, h15_, if_true, if_false, ite_true, ite_false]; done)))) dX0_isBreach_205
              ·
                refine pk_iconst (v := 1) C dX0_isBreach_200 (by decide) (pc2 := 201) rfl ?_
                refine pk_goto (tgt := 205) C dX0_isBreach_201 (by decide) ?_
                exact pr_int (ty := .boolean) C hE rfl rfl (po_d_rfl (by first | rfl | (unfold m_X0_isBreach; first | rfl | (rw [if_pos h1_, if_pos h2_, if_neg h3_, if_neg h6_, if_neg h8_, if_neg h9_, if_pos h11_, if_neg h12_, if_neg h13_, if_neg h14_, if_neg h15_]; done) | (rw [if_pos h1_, if_pos h2_, if_neg h3_, if_neg h6_, if_neg h8_, if_neg h9_, if_pos h11_, if_neg h12_, if_neg h13_, if_neg h14_, if_neg h15_]; rfl) | (simp only [h1_, h2_, h3_, h6_, h8_, h9_, h11_, h12_, h13_, h14_, h15_, if_true, if_false, ite_true, ite_false]; done))) (by first | rfl | (unfold m_X0_isBreach; first | rfl | (rw [if_pos h1_, if_pos h2_, if_neg h3_, if_neg h6_, if_neg h8_, if_neg h9_, if_pos h11_, if_neg h12_, if_neg h13_, if_neg h14_, if_neg h15_]; done) | (rw [if_pos h1_, if_pos h2_, if_neg h3_, if_neg h6_, if_neg h8_, if_neg h9_, if_pos h11_, if_neg h12_, if_neg h13_, if_neg h14_, if_neg h15_]; rfl) | (simp only [h1_, h2_, h3_, h6_, h8_, h9_, h11_, h12_, h13_, h14_, h15_, if_true, if_false, ite_true, ite_false]; done)))) dX0_isBreach_205
      by_cases h16_ : (E_ki ev) = 5
      ·
        refine pk_tableIn (tgt := 219) C dX0_isBreach_37 (by rw [h16_]; decide) (by rw [h16_]; decide) (by rw [h16_]; rfl) (by decide) ?_
        refine pk_iconst (v := 0) C dX0_isBreach_219 (by decide) (pc2 := 220) rfl ?_
        exact pr_int (ty := .boolean) C hE rfl rfl (po_d_rfl (by first | rfl | (unfold m_X0_isBreach; first | rfl | (rw [if_pos h1_, if_pos h2_, if_neg h3_, if_neg h6_, if_neg h8_, if_neg h9_, if_neg h11_, if_pos h16_]; done) | (rw [if_pos h1_, if_pos h2_, if_neg h3_, if_neg h6_, if_neg h8_, if_neg h9_, if_neg h11_, if_pos h16_]; rfl) | (simp only [h1_, h2_, h3_, h6_, h8_, h9_, h11_, h16_, if_true, if_false, ite_true, ite_false]; done))) (by first | rfl | (unfold m_X0_isBreach; first | rfl | (rw [if_pos h1_, if_pos h2_, if_neg h3_, if_neg h6_, if_neg h8_, if_neg h9_, if_neg h11_, if_pos h16_]; done) | (rw [if_pos h1_, if_pos h2_, if_neg h3_, if_neg h6_, if_neg h8_, if_neg h9_, if_neg h11_, if_pos h16_]; rfl) | (simp only [h1_, h2_, h3_, h6_, h8_, h9_, h11_, h16_, if_true, if_false, ite_true, ite_false]; done)))) dX0_isBreach_220
      by_cases h17_ : (E_ki ev) = 6
      ·
        refine pk_tableIn (tgt := 219) C dX0_isBreach_37 (by rw [h17_]; decide) (by rw [h17_]; decide) (by rw [h17_]; rfl) (by decide) ?_
        refine pk_iconst (v := 0) C dX0_isBreach_219 (by decide) (pc2 := 220) rfl ?_
        exact pr_int (ty := .boolean) C hE rfl rfl (po_d_rfl (by first | rfl | (unfold m_X0_isBreach; first | rfl | (rw [if_pos h1_, if_pos h2_, if_neg h3_, if_neg h6_, if_neg h8_, if_neg h9_, if_neg h11_, if_neg h16_, if_pos h17_]; done) | (rw [if_pos h1_, if_pos h2_, if_neg h3_, if_neg h6_, if_neg h8_, if_neg h9_, if_neg h11_, if_neg h16_, if_pos h17_]; rfl) | (simp only [h1_, h2_, h3_, h6_, h8_, h9_, h11_, h16_, h17_, if_true, if_false, ite_true, ite_false]; done))) (by first | rfl | (unfold m_X0_isBreach; first | rfl | (rw [if_pos h1_, if_pos h2_, if_neg h3_, if_neg h6_, if_neg h8_, if_neg h9_, if_neg h11_, if_neg h16_, if_pos h17_]; done) | (rw [if_pos h1_, if_pos h2_, if_neg h3_, if_neg h6_, if_neg h8_, if_neg h9_, if_neg h11_, if_neg h16_, if_pos h17_]; rfl) | (simp only [h1_, h2_, h3_, h6_, h8_, h9_, h11_, h16_, h17_, if_true, if_false, ite_true, ite_false]; done)))) dX0_isBreach_220
      by_cases h18_ : (E_ki ev) = 7
      ·
        refine pk_tableIn (tgt := 206) C dX0_isBreach_37 (by rw [h18_]; decide) (by rw [h18_]; decide) (by rw [h18_]; rfl) (by decide) ?_
        refine pk_aload_n C 0 dX0_isBreach_206 rfl rfl (pc2 := 207) rfl ?_
        refine pk_get (v := .int (C_he c)) C i0_ (pw_atX 0 rfl) (ci := 0) rfl 9 (by decide) w1_ rfl rfl dX0_isBreach_207 (pc2 := 210) rfl ?_
        refine pk_if_ne (tgt := 217) C dX0_isBreach_210 (by decide) (pc2 := 213) rfl (fun h19_ => ?_) (fun h19_ => ?_)
        · first | exact absurd h19_ h2_ | exact absurd h2_ h19_
        refine pk_iconst (v := 1) C dX0_isBreach_213 (by decide) (pc2 := 214) rfl ?_
        refine pk_goto (tgt := 218) C dX0_isBreach_214 (by decide) ?_
        exact pr_int (ty := .boolean) C hE rfl rfl (po_d_rfl (by first | rfl | (unfold m_X0_isBreach; first | rfl | (rw [if_pos h1_, if_pos h2_, if_neg h3_, if_neg h6_, if_neg h8_, if_neg h9_, if_neg h11_, if_neg h16_, if_neg h17_, if_pos h18_]; done) | (rw [if_pos h1_, if_pos h2_, if_neg h3_, if_neg h6_, if_neg h8_, if_neg h9_, if_neg h11_, if_neg h16_, if_neg h17_, if_pos h18_]; rfl) | (simp only [h1_, h2_, h3_, h6_, h8_, h9_, h11_, h16_, h17_, h18_, if_true, if_false, ite_true, ite_false]; done))) (by first | rfl | (unfold m_X0_isBreach; first | rfl | (rw [if_pos h1_, if_pos h2_, if_neg h3_, if_neg h6_, if_neg h8_, if_neg h9_, if_neg h11_, if_neg h16_, if_neg h17_, if_pos h18_]; done) | (rw [if_pos h1_, if_pos h2_, if_neg h3_, if_neg h6_, if_neg h8_, if_neg h9_, if_neg h11_, if_neg h16_, if_neg h17_, if_pos h18_]; rfl) | (simp only [h1_, h2_, h3_, h6_, h8_, h9_, h11_, h16_, h17_, h18_, if_true, if_false, ite_true, ite_false]; done)))) dX0_isBreach_218
      refine pk_tableOut (tgt := 219) C dX0_isBreach_37 (sw_7 h3_ h6_ h8_ h9_ h11_ h16_ h17_ h18_) (by decide) ?_
      refine pk_iconst (v := 0) C dX0_isBreach_219 (by decide) (pc2 := 220) rfl ?_
      exact pr_int (ty := .boolean) C hE rfl rfl (po_d_rfl (by first | rfl | (unfold m_X0_isBreach; first | rfl | (rw [if_pos h1_, if_pos h2_, if_neg h3_, if_neg h6_, if_neg h8_, if_neg h9_, if_neg h11_, if_neg h16_, if_neg h17_, if_neg h18_]; done) | (rw [if_pos h1_, if_pos h2_, if_neg h3_, if_neg h6_, if_neg h8_, if_neg h9_, if_neg h11_, if_neg h16_, if_neg h17_, if_neg h18_]; rfl) | (simp only [h1_, h2_, h3_, h6_, h8_, h9_, h11_, h16_, h17_, h18_, if_true, if_false, ite_true, ite_false]; done))) (by first | rfl | (unfold m_X0_isBreach; first | rfl | (rw [if_pos h1_, if_pos h2_, if_neg h3_, if_neg h6_, if_neg h8_, if_neg h9_, if_neg h11_, if_neg h16_, if_neg h17_, if_neg h18_]; done) | (rw [if_pos h1_, if_pos h2_, if_neg h3_, if_neg h6_, if_neg h8_, if_neg h9_, if_neg h11_, if_neg h16_, if_neg h17_, if_neg h18_]; rfl) | (simp only [h1_, h2_, h3_, h6_, h8_, h9_, h11_, h16_, h17_, h18_, if_true, if_false, ite_true, ite_false]; done)))) dX0_isBreach_220
    ·
      refine pk_aload_n C 1 dX0_isBreach_14 rfl rfl (pc2 := 15) rfl ?_
      refine pk_get (v := .int (E_ki ev)) C i1_ (pw_atP heL heF) (ci := 1) rfl 2 (by decide) w2_ rfl rfl dX0_isBreach_15 (pc2 := 18) rfl ?_
      refine pk_bipush (v := 7) C dX0_isBreach_18 (by decide) (pc2 := 20) rfl ?_
      refine pk_icmp_eq (tgt := 33) C dX0_isBreach_20 (by decide) (pc2 := 23) rfl (fun h20_ => ?_) (fun h20_ => ?_)
      ·
        refine pk_aload_n C 1 dX0_isBreach_33 rfl rfl (pc2 := 34) rfl ?_
        refine pk_get (v := .int (E_ki ev)) C i1_ (pw_atP heL heF) (ci := 1) rfl 2 (by decide) w2_ rfl rfl dX0_isBreach_34 (pc2 := 37) rfl ?_
        by_cases h21_ : (E_ki ev) = 0
        ·
          refine pk_tableIn (tgt := 84) C dX0_isBreach_37 (by rw [h21_]; decide) (by rw [h21_]; decide) (by rw [h21_]; rfl) (by decide) ?_
          refine pk_aload_n C 0 dX0_isBreach_84 rfl rfl (pc2 := 85) rfl ?_
          refine pk_get (v := .int (C_li c)) C i0_ (pw_atX 0 rfl) (ci := 0) rfl 8 (by decide) w3_ rfl rfl dX0_isBreach_85 (pc2 := 88) rfl ?_
          refine pk_if_eq (tgt := 108) C dX0_isBreach_88 (by decide) (pc2 := 91) rfl (fun h22_ => ?_) (fun h22_ => ?_)
          ·
            refine pk_iconst (v := 1) C dX0_isBreach_108 (by decide) (pc2 := 109) rfl ?_
            refine pk_goto (tgt := 113) C dX0_isBreach_109 (by decide) ?_
            exact pr_int (ty := .boolean) C hE rfl rfl (po_d_rfl (by first | rfl | (unfold m_X0_isBreach; first | rfl | (rw [if_pos h1_, if_neg h2_, if_pos h20_, if_pos h21_, if_pos h22_]; done) | (rw [if_pos h1_, if_neg h2_, if_pos h20_, if_pos h21_, if_pos h22_]; rfl) | (simp only [h1_, h2_, h20_, h21_, h22_, if_true, if_false, ite_true, ite_false]; done))) (by first | rfl | (unfold m_X0_isBreach; first | rfl | (rw [if_pos h1_, if_neg h2_, if_pos h20_, if_pos h21_, if_pos h22_]; done) | (rw [if_pos h1_, if_neg h2_, if_pos h20_, if_pos h21_, if_pos h22_]; rfl) | (simp only [h1_, h2_, h20_, h21_, h22_, if_true, if_false, ite_true, ite_false]; done)))) dX0_isBreach_113
          ·
            refine pk_aload_n C 0 dX0_isBreach_91 rfl rfl (pc2 := 92) rfl ?_
            refine pk_get (v := .long (C_rs c)) C i0_ (pw_atX 0 rfl) (ci := 0) rfl 7 (by decide) w4_ rfl rfl dX0_isBreach_92 (pc2 := 95) rfl ?_
            refine pk_aload_n C 0 dX0_isBreach_95 rfl rfl (pc2 := 96) rfl ?_
            refine pk_dV (cx := [(a, cC b c), (b, cS t)]) (wr := []) (X2 := [(a, cC b c), (b, cS t)]) (st := [.long (C_rs c)]) (st2 := [.long (m_X0_book c t), .long (C_rs c)]) (As := []) C (c_X0_book (zl Z) (zG Z) L F a b c t) gX0_isBreach_X0_book rfl rfl rfl 0 (by decide +kernel) (by decide) (pw_atX 0 rfl) rfl rfl rfl (by decide) (by decide) [0, 1] [] [0, 1] rfl rfl rfl rfl (by decide) rfl rfl dX0_isBreach_96 (pc2 := 99) rfl rfl ?_
            refine pk_aload_n C 1 dX0_isBreach_99 rfl rfl (pc2 := 100) rfl ?_
            refine pk_get (v := .long (E_am ev)) C i1_ (pw_atP heL heF) (ci := 1) rfl 3 (by decide) w5_ rfl rfl dX0_isBreach_100 (pc2 := 103) rfl ?_
            refine pk_ladd C dX0_isBreach_103 (pc2 := 104) rfl ?_
            refine pk_lcmp_le (tgt := 112) C dX0_isBreach_104 dX0_isBreach_105 (pc1 := 105) rfl (by decide) (pc2 := 108) rfl (fun h23_ => ?_) (fun h23_ => ?_)
            ·
              refine pk_iconst (v := 0) C dX0_isBreach_112 (by decide) (pc2 := 113) rfl ?_
              exact pr_int (ty := .boolean) C hE rfl rfl (po_d_rfl (by first | rfl | (unfold m_X0_isBreach; first | rfl | (rw [if_pos h1_, if_neg h2_, if_pos h20_, if_pos h21_, if_neg h22_, if_pos h23_]; done) | (rw [if_pos h1_, if_neg h2_, if_pos h20_, if_pos h21_, if_neg h22_, if_pos h23_]; rfl) | (simp only [h1_, h2_, h20_, h21_, h22_, h23_, if_true, if_false, ite_true, ite_false]; done))) (by first | rfl | (unfold m_X0_isBreach; first | rfl | (rw [if_pos h1_, if_neg h2_, if_pos h20_, if_pos h21_, if_neg h22_, if_pos h23_]; done) | (rw [if_pos h1_, if_neg h2_, if_pos h20_, if_pos h21_, if_neg h22_, if_pos h23_]; rfl) | (simp only [h1_, h2_, h20_, h21_, h22_, h23_, if_true, if_false, ite_true, ite_false]; done)))) dX0_isBreach_113
            ·
              refine pk_iconst (v := 1) C dX0_isBreach_108 (by decide) (pc2 := 109) rfl ?_
              refine pk_goto (tgt := 113) C dX0_isBreach_109 (by decide) ?_
              exact pr_int (ty := .boolean) C hE rfl rfl (po_d_rfl (by first | rfl | (unfold m_X0_isBreach; first | rfl | (rw [if_pos h1_, if_neg h2_, if_pos h20_, if_pos h21_, if_neg h22_, if_neg h23_]; done) | (rw [if_pos h1_, if_neg h2_, if_pos h20_, if_pos h21_, if_neg h22_, if_neg h23_]; rfl) | (simp only [h1_, h2_, h20_, h21_, h22_, h23_, if_true, if_false, ite_true, ite_false]; done))) (by first | rfl | (unfold m_X0_isBreach; first | rfl | (rw [if_pos h1_, if_neg h2_, if_pos h20_, if_pos h21_, if_neg h22_, if_neg h23_]; done) | (rw [if_pos h1_, if_neg h2_, if_pos h20_, if_pos h21_, if_neg h22_, if_neg h23_]; rfl) | (simp only [h1_, h2_, h20_, h21_, h22_, h23_, if_true, if_false, ite_true, ite_false]; done)))) dX0_isBreach_113
        by_cases h24_ : (E_ki ev) = 1
        ·
          refine pk_tableIn (tgt := 114) C dX0_isBreach_37 (by rw [h24_]; decide) (by rw [h24_]; decide) (by rw [h24_]; rfl) (by decide) ?_
          refine pk_aload_n C 1 dX0_isBreach_114 rfl rfl (pc2 := 115) rfl ?_
          refine pk_get (v := .long (E_am ev)) C i1_ (pw_atP heL heF) (ci := 1) rfl 3 (by decide) w5_ rfl rfl dX0_isBreach_115 (pc2 := 118) rfl ?_
          refine pk_aload_n C 0 dX0_isBreach_118 rfl rfl (pc2 := 119) rfl ?_
          refine pk_dV (cx := [(a, cC b c), (b, cS t)]) (wr := []) (X2 := [(a, cC b c), (b, cS t)]) (st := [.long (E_am ev)]) (st2 := [.long (m_X0_book c t), .long (E_am ev)]) (As := []) C (c_X0_book (zl Z) (zG Z) L F a b c t) gX0_isBreach_X0_book rfl rfl rfl 0 (by decide +kernel) (by decide) (pw_atX 0 rfl) rfl rfl rfl (by decide) (by decide) [0, 1] [] [0, 1] rfl rfl rfl rfl (by decide) rfl rfl dX0_isBreach_119 (pc2 := 122) rfl rfl ?_
          refine pk_lcmp_le (tgt := 130) C dX0_isBreach_122 dX0_isBreach_123 (pc1 := 123) rfl (by decide) (pc2 := 126) rfl (fun h25_ => ?_) (fun h25_ => ?_)
          ·
            refine pk_iconst (v := 0) C dX0_isBreach_130 (by decide) (pc2 := 131) rfl ?_
            exact pr_int (ty := .boolean) C hE rfl rfl (po_d_rfl (by first | rfl | (unfold m_X0_isBreach; first | rfl | (rw [if_pos h1_, if_neg h2_, if_pos h20_, if_neg h21_, if_pos h24_, if_pos h25_]; done) | (rw [if_pos h1_, if_neg h2_, if_pos h20_, if_neg h21_, if_pos h24_, if_pos h25_]; rfl) | (simp only [h1_, h2_, h20_, h21_, h24_, h25_, if_true, if_false, ite_true, ite_false]; done))) (by first | rfl | (unfold m_X0_isBreach; first | rfl | (rw [if_pos h1_, if_neg h2_, if_pos h20_, if_neg h21_, if_pos h24_, if_pos h25_]; done) | (rw [if_pos h1_, if_neg h2_, if_pos h20_, if_neg h21_, if_pos h24_, if_pos h25_]; rfl) | (simp only [h1_, h2_, h20_, h21_, h24_, h25_, if_true, if_false, ite_true, ite_false]; done)))) dX0_isBreach_131
          ·
            refine pk_iconst (v := 1) C dX0_isBreach_126 (by decide) (pc2 := 127) rfl ?_
            refine pk_goto (tgt := 131) C dX0_isBreach_127 (by decide) ?_
            exact pr_int (ty := .boolean) C hE rfl rfl (po_d_rfl (by first | rfl | (unfold m_X0_isBreach; first | rfl | (rw [if_pos h1_, if_neg h2_, if_pos h20_, if_neg h21_, if_pos h24_, if_neg h25_]; done) | (rw [if_pos h1_, if_neg h2_, if_pos h20_, if_neg h21_, if_pos h24_, if_neg h25_]; rfl) | (simp only [h1_, h2_, h20_, h21_, h24_, h25_, if_true, if_false, ite_true, ite_false]; done))) (by first | rfl | (unfold m_X0_isBreach; first | rfl | (rw [if_pos h1_, if_neg h2_, if_pos h20_, if_neg h21_, if_pos h24_, if_neg h25_]; done) | (rw [if_pos h1_, if_neg h2_, if_pos h20_, if_neg h21_, if_pos h24_, if_neg h25_]; rfl) | (simp only [h1_, h2_, h20_, h21_, h24_, h25_, if_true, if_false, ite_true, ite_false]; done)))) dX0_isBreach_131
        by_cases h26_ : (E_ki ev) = 2
        ·
          refine pk_tableIn (tgt := 219) C dX0_isBreach_37 (by rw [h26_]; decide) (by rw [h26_]; decide) (by rw [h26_]; rfl) (by decide) ?_
          refine pk_iconst (v := 0) C dX0_isBreach_219 (by decide) (pc2 := 220) rfl ?_
          exact pr_int (ty := .boolean) C hE rfl rfl (po_d_rfl (by first | rfl | (unfold m_X0_isBreach; first | rfl | (rw [if_pos h1_, if_neg h2_, if_pos h20_, if_neg h21_, if_neg h24_, if_pos h26_]; done) | (rw [if_pos h1_, if_neg h2_, if_pos h20_, if_neg h21_, if_neg h24_, if_pos h26_]; rfl) | (simp only [h1_, h2_, h20_, h21_, h24_, h26_, if_true, if_false, ite_true, ite_false]; done))) (by first | rfl | (unfold m_X0_isBreach; first | rfl | (rw [if_pos h1_, if_neg h2_, if_pos h20_, if_neg h21_, if_neg h24_, if_pos h26_]; done) | (rw [if_pos h1_, if_neg h2_, if_pos h20_, if_neg h21_, if_neg h24_, if_pos h26_]; rfl) | (simp only [h1_, h2_, h20_, h21_, h24_, h26_, if_true, if_false, ite_true, ite_false]; done)))) dX0_isBreach_220
        by_cases h27_ : (E_ki ev) = 3
        ·
          refine pk_tableIn (tgt := 132) C dX0_isBreach_37 (by rw [h27_]; decide) (by rw [h27_]; decide) (by rw [h27_]; rfl) (by decide) ?_
          refine pk_aload_n C 1 dX0_isBreach_132 rfl rfl (pc2 := 133) rfl ?_
          refine pk_get (v := .long (E_am ev)) C i1_ (pw_atP heL heF) (ci := 1) rfl 3 (by decide) w5_ rfl rfl dX0_isBreach_133 (pc2 := 136) rfl ?_
          refine pk_aload_n C 0 dX0_isBreach_136 rfl rfl (pc2 := 137) rfl ?_
          refine pk_dV (cx := [(a, cC b c), (b, cS t)]) (wr := []) (X2 := [(a, cC b c), (b, cS t)]) (st := [.long (E_am ev)]) (st2 := [.long (m_X0_book c t), .long (E_am ev)]) (As := []) C (c_X0_book (zl Z) (zG Z) L F a b c t) gX0_isBreach_X0_book rfl rfl rfl 0 (by decide +kernel) (by decide) (pw_atX 0 rfl) rfl rfl rfl (by decide) (by decide) [0, 1] [] [0, 1] rfl rfl rfl rfl (by decide) rfl rfl dX0_isBreach_137 (pc2 := 140) rfl rfl ?_
          refine pk_lcmp_lt (tgt := 148) C dX0_isBreach_140 dX0_isBreach_141 (pc1 := 141) rfl (by decide) (pc2 := 144) rfl (fun h28_ => ?_) (fun h28_ => ?_)
          ·
            refine pk_iconst (v := 0) C dX0_isBreach_148 (by decide) (pc2 := 149) rfl ?_
            exact pr_int (ty := .boolean) C hE rfl rfl (po_d_rfl (by first | rfl | (unfold m_X0_isBreach; first | rfl | (rw [if_pos h1_, if_neg h2_, if_pos h20_, if_neg h21_, if_neg h24_, if_neg h26_, if_pos h27_, if_pos h28_]; done) | (rw [if_pos h1_, if_neg h2_, if_pos h20_, if_neg h21_, if_neg h24_, if_neg h26_, if_pos h27_, if_pos h28_]; rfl) | (simp only [h1_, h2_, h20_, h21_, h24_, h26_, h27_, h28_, if_true, if_false, ite_true, ite_false]; done))) (by first | rfl | (unfold m_X0_isBreach; first | rfl | (rw [if_pos h1_, if_neg h2_, if_pos h20_, if_neg h21_, if_neg h24_, if_neg h26_, if_pos h27_, if_pos h28_]; done) | (rw [if_pos h1_, if_neg h2_, if_pos h20_, if_neg h21_, if_neg h24_, if_neg h26_, if_pos h27_, if_pos h28_]; rfl) | (simp only [h1_, h2_, h20_, h21_, h24_, h26_, h27_, h28_, if_true, if_false, ite_true, ite_false]; done)))) dX0_isBreach_149
          ·
            refine pk_iconst (v := 1) C dX0_isBreach_144 (by decide) (pc2 := 145) rfl ?_
            refine pk_goto (tgt := 149) C dX0_isBreach_145 (by decide) ?_
            exact pr_int (ty := .boolean) C hE rfl rfl (po_d_rfl (by first | rfl | (unfold m_X0_isBreach; first | rfl | (rw [if_pos h1_, if_neg h2_, if_pos h20_, if_neg h21_, if_neg h24_, if_neg h26_, if_pos h27_, if_neg h28_]; done) | (rw [if_pos h1_, if_neg h2_, if_pos h20_, if_neg h21_, if_neg h24_, if_neg h26_, if_pos h27_, if_neg h28_]; rfl) | (simp only [h1_, h2_, h20_, h21_, h24_, h26_, h27_, h28_, if_true, if_false, ite_true, ite_false]; done))) (by first | rfl | (unfold m_X0_isBreach; first | rfl | (rw [if_pos h1_, if_neg h2_, if_pos h20_, if_neg h21_, if_neg h24_, if_neg h26_, if_pos h27_, if_neg h28_]; done) | (rw [if_pos h1_, if_neg h2_, if_pos h20_, if_neg h21_, if_neg h24_, if_neg h26_, if_pos h27_, if_neg h28_]; rfl) | (simp only [h1_, h2_, h20_, h21_, h24_, h26_, h27_, h28_, if_true, if_false, ite_true, ite_false]; done)))) dX0_isBreach_149
        by_cases h29_ : (E_ki ev) = 4
        ·
          refine pk_tableIn (tgt := 150) C dX0_isBreach_37 (by rw [h29_]; decide) (by rw [h29_]; decide) (by rw [h29_]; rfl) (by decide) ?_
          refine pk_aload_n C 1 dX0_isBreach_150 rfl rfl (pc2 := 151) rfl ?_
          refine pk_get (v := .long (E_am ev)) C i1_ (pw_atP heL heF) (ci := 1) rfl 3 (by decide) w5_ rfl rfl dX0_isBreach_151 (pc2 := 154) rfl ?_
          refine pk_aload_n C 0 dX0_isBreach_154 rfl rfl (pc2 := 155) rfl ?_
          refine pk_dV (cx := [(a, cC b c), (b, cS t)]) (wr := []) (X2 := [(a, cC b c), (b, cS t)]) (st := [.long (E_am ev)]) (st2 := [.long (m_X0_book c t), .long (E_am ev)]) (As := []) C (c_X0_book (zl Z) (zG Z) L F a b c t) gX0_isBreach_X0_book rfl rfl rfl 0 (by decide +kernel) (by decide) (pw_atX 0 rfl) rfl rfl rfl (by decide) (by decide) [0, 1] [] [0, 1] rfl rfl rfl rfl (by decide) rfl rfl dX0_isBreach_155 (pc2 := 158) rfl rfl ?_
          refine pk_lcmp_le (tgt := 200) C dX0_isBreach_158 dX0_isBreach_159 (pc1 := 159) rfl (by decide) (pc2 := 162) rfl (fun h30_ => ?_) (fun h30_ => ?_)
          ·
            refine pk_iconst (v := 1) C dX0_isBreach_200 (by decide) (pc2 := 201) rfl ?_
            refine pk_goto (tgt := 205) C dX0_isBreach_201 (by decide) ?_
            exact pr_int (ty := .boolean) C hE rfl rfl (po_d_rfl (by first | rfl | (unfold m_X0_isBreach; first | rfl | (rw [if_pos h1_, if_neg h2_, if_pos h20_, if_neg h21_, if_neg h24_, if_neg h26_, if_neg h27_, if_pos h29_, if_pos h30_]; done) | (rw [if_pos h1_, if_neg h2_, if_pos h20_, if_neg h21_, if_neg h24_, if_neg h26_, if_neg h27_, if_pos h29_, if_pos h30_]; rfl) | (simp only [h1_, h2_, h20_, h21_, h24_, h26_, h27_, h29_, h30_, if_true, if_false, ite_true, ite_false]; done))) (by first | rfl | (unfold m_X0_isBreach; first | rfl | (rw [if_pos h1_, if_neg h2_, if_pos h20_, if_neg h21_, if_neg h24_, if_neg h26_, if_neg h27_, if_pos h29_, if_pos h30_]; done) | (rw [if_pos h1_, if_neg h2_, if_pos h20_, if_neg h21_, if_neg h24_, if_neg h26_, if_neg h27_, if_pos h29_, if_pos h30_]; rfl) | (simp only [h1_, h2_, h20_, h21_, h24_, h26_, h27_, h29_, h30_, if_true, if_false, ite_true, ite_false]; done)))) dX0_isBreach_205
          ·
            refine pk_aload_n C 1 dX0_isBreach_162 rfl rfl (pc2 := 163) rfl ?_
            refine pk_get (v := .long (E_am ev)) C i1_ (pw_atP heL heF) (ci := 1) rfl 3 (by decide) w5_ rfl rfl dX0_isBreach_163 (pc2 := 166) rfl ?_
            refine pk_lload_n C 2 dX0_isBreach_166 rfl rfl (pc2 := 167) rfl ?_
            refine pk_lcmp_gt (tgt := 200) C dX0_isBreach_167 dX0_isBreach_168 (pc1 := 168) rfl (by decide) (pc2 := 171) rfl (fun h31_ => ?_) (fun h31_ => ?_)
            ·
              refine pk_iconst (v := 1) C dX0_isBreach_200 (by decide) (pc2 := 201) rfl ?_
              refine pk_goto (tgt := 205) C dX0_isBreach_201 (by decide) ?_
              exact pr_int (ty := .boolean) C hE rfl rfl (po_d_rfl (by first | rfl | (unfold m_X0_isBreach; first | rfl | (rw [if_pos h1_, if_neg h2_, if_pos h20_, if_neg h21_, if_neg h24_, if_neg h26_, if_neg h27_, if_pos h29_, if_neg h30_, if_pos h31_]; done) | (rw [if_pos h1_, if_neg h2_, if_pos h20_, if_neg h21_, if_neg h24_, if_neg h26_, if_neg h27_, if_pos h29_, if_neg h30_, if_pos h31_]; rfl) | (simp only [h1_, h2_, h20_, h21_, h24_, h26_, h27_, h29_, h30_, h31_, if_true, if_false, ite_true, ite_false]; done))) (by first | rfl | (unfold m_X0_isBreach; first | rfl | (rw [if_pos h1_, if_neg h2_, if_pos h20_, if_neg h21_, if_neg h24_, if_neg h26_, if_neg h27_, if_pos h29_, if_neg h30_, if_pos h31_]; done) | (rw [if_pos h1_, if_neg h2_, if_pos h20_, if_neg h21_, if_neg h24_, if_neg h26_, if_neg h27_, if_pos h29_, if_neg h30_, if_pos h31_]; rfl) | (simp only [h1_, h2_, h20_, h21_, h24_, h26_, h27_, h29_, h30_, h31_, if_true, if_false, ite_true, ite_false]; done)))) dX0_isBreach_205
            ·
              refine pk_aload_n C 1 dX0_isBreach_171 rfl rfl (pc2 := 172) rfl ?_
              refine pk_get (v := .long (E_am ev)) C i1_ (pw_atP heL heF) (ci := 1) rfl 3 (by decide) w5_ rfl rfl dX0_isBreach_172 (pc2 := 175) rfl ?_
              refine pk_aload_n C 0 dX0_isBreach_175 rfl rfl (pc2 := 176) rfl ?_
              refine pk_dV (cx := [(a, cC b c), (b, cS t)]) (wr := []) (X2 := [(a, cC b c), (b, cS t)]) (st := [.long (E_am ev)]) (st2 := [.long (m_X0_book c t), .long (E_am ev)]) (As := []) C (c_X0_book (zl Z) (zG Z) L F a b c t) gX0_isBreach_X0_book rfl rfl rfl 0 (by decide +kernel) (by decide) (pw_atX 0 rfl) rfl rfl rfl (by decide) (by decide) [0, 1] [] [0, 1] rfl rfl rfl rfl (by decide) rfl rfl dX0_isBreach_176 (pc2 := 179) rfl rfl ?_
              refine pk_lsub C dX0_isBreach_179 (pc2 := 180) rfl ?_
              refine pk_aload_n C 0 dX0_isBreach_180 rfl rfl (pc2 := 181) rfl ?_
              refine pk_get (v := .long (C_al c)) C i0_ (pw_atX 0 rfl) (ci := 0) rfl 4 (by decide) w6_ rfl rfl dX0_isBreach_181 (pc2 := 184) rfl ?_
              refine pk_lcmp_gt (tgt := 200) C dX0_isBreach_184 dX0_isBreach_185 (pc1 := 185) rfl (by decide) (pc2 := 188) rfl (fun h32_ => ?_) (fun h32_ => ?_)
              ·
                refine pk_iconst (v := 1) C dX0_isBreach_200 (by decide) (pc2 := 201) rfl ?_
                refine pk_goto (tgt := 205) C dX0_isBreach_201 (by decide) ?_
                exact pr_int (ty := .boolean) C hE rfl rfl (po_d_rfl (by first | rfl | (unfold m_X0_isBreach; first | rfl | (rw [if_pos h1_, if_neg h2_, if_pos h20_, if_neg h21_, if_neg h24_, if_neg h26_, if_neg h27_, if_pos h29_, if_neg h30_, if_neg h31_, if_pos h32_]; done) | (rw [if_pos h1_, if_neg h2_, if_pos h20_, if_neg h21_, if_neg h24_, if_neg h26_, if_neg h27_, if_pos h29_, if_neg h30_, if_neg h31_, if_pos h32_]; rfl) | (simp only [h1_, h2_, h20_, h21_, h24_, h26_, h27_, h29_, h30_, h31_, h32_, if_true, if_false, ite_true, ite_false]; done))) (by first | rfl | (unfold m_X0_isBreach; first | rfl | (rw [if_pos h1_, if_neg h2_, if_pos h20_, if_neg h21_, if_neg h24_, if_neg h26_, if_neg h27_, if_pos h29_, if_neg h30_, if_neg h31_, if_pos h32_]; done) | (rw [if_pos h1_, if_neg h2_, if_pos h20_, if_neg h21_, if_neg h24_, if_neg h26_, if_neg h27_, if_pos h29_, if_neg h30_, if_neg h31_, if_pos h32_]; rfl) | (simp only [h1_, h2_, h20_, h21_, h24_, h26_, h27_, h29_, h30_, h31_, h32_, if_true, if_false, ite_true, ite_false]; done)))) dX0_isBreach_205
              ·
                refine pk_aload_n C 0 dX0_isBreach_188 rfl rfl (pc2 := 189) rfl ?_
                refine pk_get (v := .long (C_rs c)) C i0_ (pw_atX 0 rfl) (ci := 0) rfl 7 (by decide) w4_ rfl rfl dX0_isBreach_189 (pc2 := 192) rfl ?_
                refine pk_aload_n C 1 dX0_isBreach_192 rfl rfl (pc2 := 193) rfl ?_
                refine pk_get (v := .long (E_am ev)) C i1_ (pw_atP heL heF) (ci := 1) rfl 3 (by decide) w5_ rfl rfl dX0_isBreach_193 (pc2 := 196) rfl ?_
                refine pk_lcmp_le (tgt := 204) C dX0_isBreach_196 dX0_isBreach_197 (pc1 := 197) rfl (by decide) (pc2 := 200) rfl (fun h33_ => ?_) (fun h33_ => ?_)
                ·
                  refine pk_iconst (v := 0) C dX0_isBreach_204 (by decide) (pc2 := 205) rfl ?_
                  exact pr_int (ty := .boolean) C hE rfl rfl (po_d_rfl (by first | rfl | (unfold m_X0_isBreach; first | rfl | (rw [if_pos h1_, if_neg h2_, if_pos h20_, if_neg h21_, if_neg h24_, if_neg h26_, if_neg h27_, if_pos h29_, if_neg h30_, if_neg h31_, if_neg h32_, if_pos h33_]; done) | (rw [if_pos h1_, if_neg h2_, if_pos h20_, if_neg h21_, if_neg h24_, if_neg h26_, if_neg h27_, if_pos h29_, if_neg h30_, if_neg h31_, if_neg h32_, if_pos h33_]; rfl) | (simp only [h1_, h2_, h20_, h21_, h24_, h26_, h27_, h29_, h30_, h31_, h32_, h33_, if_true, if_false, ite_true, ite_false]; done))) (by first | rfl | (unfold m_X0_isBreach; first | rfl | (rw [if_pos h1_, if_neg h2_, if_pos h20_, if_neg h21_, if_neg h24_, if_neg h26_, if_neg h27_, if_pos h29_, if_neg h30_, if_neg h31_, if_neg h32_, if_pos h33_]; done) | (rw [if_pos h1_, if_neg h2_, if_pos h20_, if_neg h21_, if_neg h24_, if_neg h26_, if_neg h27_, if_pos h29_, if_neg h30_, if_neg h31_, if_neg h32_, if_pos h33_]; rfl) | (simp only [h1_, h2_, h20_, h21_, h24_, h26_, h27_, h29_, h30_, h31_, h32_, h33_, if_true, if_false, ite_true, ite_false]; done)))) dX0_isBreach_205
                ·
                  refine pk_iconst (v := 1) C dX0_isBreach_200 (by decide) (pc2 := 201) rfl ?_
                  refine pk_goto (tgt := 205) C dX0_isBreach_201 (by decide) ?_
                  exact pr_int (ty := .boolean) C hE rfl rfl (po_d_rfl (by first | rfl | (unfold m_X0_isBreach; first | rfl | (rw [if_pos h1_, if_neg h2_, if_pos h20_, if_neg h21_, if_neg h24_, if_neg h26_, if_neg h27_, if_pos h29_, if_neg h30_, if_neg h31_, if_neg h32_, if_neg h33_]; done) | (rw [if_pos h1_, if_neg h2_, if_pos h20_, if_neg h21_, if_neg h24_, if_neg h26_, if_neg h27_, if_pos h29_, if_neg h30_, if_neg h31_, if_neg h32_, if_neg h33_]; rfl) | (simp only [h1_, h2_, h20_, h21_, h24_, h26_, h27_, h29_, h30_, h31_, h32_, h33_, if_true, if_false, ite_true, ite_false]; done))) (by first | rfl | (unfold m_X0_isBreach; first | rfl | (rw [if_pos h1_, if_neg h2_, if_pos h20_, if_neg h21_, if_neg h24_, if_neg h26_, if_neg h27_, if_pos h29_, if_neg h30_, if_neg h31_, if_neg h32_, if_neg h33_]; done) | (rw [if_pos h1_, if_neg h2_, if_pos h20_, if_neg h21_, if_neg h24_, if_neg h26_, if_neg h27_, if_pos h29_, if_neg h30_, if_neg h31_, if_neg h32_, if_neg h33_]; rfl) | (simp only [h1_, h2_, h20_, h21_, h24_, h26_, h27_, h29_, h30_, h31_, h32_, h33_, if_true, if_false, ite_true, ite_false]; done)))) dX0_isBreach_205
        by_cases h34_ : (E_ki ev) = 5
        ·
          refine pk_tableIn (tgt := 219) C dX0_isBreach_37 (by rw [h34_]; decide) (by rw [h34_]; decide) (by rw [h34_]; rfl) (by decide) ?_
          refine pk_iconst (v := 0) C dX0_isBreach_219 (by decide) (pc2 := 220) rfl ?_
          exact pr_int (ty := .boolean) C hE rfl rfl (po_d_rfl (by first | rfl | (unfold m_X0_isBreach; first | rfl | (rw [if_pos h1_, if_neg h2_, if_pos h20_, if_neg h21_, if_neg h24_, if_neg h26_, if_neg h27_, if_neg h29_, if_pos h34_]; done) | (rw [if_pos h1_, if_neg h2_, if_pos h20_, if_neg h21_, if_neg h24_, if_neg h26_, if_neg h27_, if_neg h29_, if_pos h34_]; rfl) | (simp only [h1_, h2_, h20_, h21_, h24_, h26_, h27_, h29_, h34_, if_true, if_false, ite_true, ite_false]; done))) (by first | rfl | (unfold m_X0_isBreach; first | rfl | (rw [if_pos h1_, if_neg h2_, if_pos h20_, if_neg h21_, if_neg h24_, if_neg h26_, if_neg h27_, if_neg h29_, if_pos h34_]; done) | (rw [if_pos h1_, if_neg h2_, if_pos h20_, if_neg h21_, if_neg h24_, if_neg h26_, if_neg h27_, if_neg h29_, if_pos h34_]; rfl) | (simp only [h1_, h2_, h20_, h21_, h24_, h26_, h27_, h29_, h34_, if_true, if_false, ite_true, ite_false]; done)))) dX0_isBreach_220
        by_cases h35_ : (E_ki ev) = 6
        ·
          refine pk_tableIn (tgt := 219) C dX0_isBreach_37 (by rw [h35_]; decide) (by rw [h35_]; decide) (by rw [h35_]; rfl) (by decide) ?_
          refine pk_iconst (v := 0) C dX0_isBreach_219 (by decide) (pc2 := 220) rfl ?_
          exact pr_int (ty := .boolean) C hE rfl rfl (po_d_rfl (by first | rfl | (unfold m_X0_isBreach; first | rfl | (rw [if_pos h1_, if_neg h2_, if_pos h20_, if_neg h21_, if_neg h24_, if_neg h26_, if_neg h27_, if_neg h29_, if_neg h34_, if_pos h35_]; done) | (rw [if_pos h1_, if_neg h2_, if_pos h20_, if_neg h21_, if_neg h24_, if_neg h26_, if_neg h27_, if_neg h29_, if_neg h34_, if_pos h35_]; rfl) | (simp only [h1_, h2_, h20_, h21_, h24_, h26_, h27_, h29_, h34_, h35_, if_true, if_false, ite_true, ite_false]; done))) (by first | rfl | (unfold m_X0_isBreach; first | rfl | (rw [if_pos h1_, if_neg h2_, if_pos h20_, if_neg h21_, if_neg h24_, if_neg h26_, if_neg h27_, if_neg h29_, if_neg h34_, if_pos h35_]; done) | (rw [if_pos h1_, if_neg h2_, if_pos h20_, if_neg h21_, if_neg h24_, if_neg h26_, if_neg h27_, if_neg h29_, if_neg h34_, if_pos h35_]; rfl) | (simp only [h1_, h2_, h20_, h21_, h24_, h26_, h27_, h29_, h34_, h35_, if_true, if_false, ite_true, ite_false]; done)))) dX0_isBreach_220
        by_cases h36_ : (E_ki ev) = 7
        ·
          refine pk_tableIn (tgt := 206) C dX0_isBreach_37 (by rw [h36_]; decide) (by rw [h36_]; decide) (by rw [h36_]; rfl) (by decide) ?_
          refine pk_aload_n C 0 dX0_isBreach_206 rfl rfl (pc2 := 207) rfl ?_
          refine pk_get (v := .int (C_he c)) C i0_ (pw_atX 0 rfl) (ci := 0) rfl 9 (by decide) w1_ rfl rfl dX0_isBreach_207 (pc2 := 210) rfl ?_
          refine pk_if_ne (tgt := 217) C dX0_isBreach_210 (by decide) (pc2 := 213) rfl (fun h37_ => ?_) (fun h37_ => ?_)
          rotate_left
          · exact absurd h37_ h2_
          refine pk_iconst (v := 0) C dX0_isBreach_217 (by decide) (pc2 := 218) rfl ?_
          exact pr_int (ty := .boolean) C hE rfl rfl (po_d_rfl (by first | rfl | (unfold m_X0_isBreach; first | rfl | (rw [if_pos h1_, if_neg h2_, if_pos h36_, if_neg h21_, if_neg h24_, if_neg h26_, if_neg h27_, if_neg h29_, if_neg h34_, if_neg h35_]; done) | (rw [if_pos h1_, if_neg h2_, if_pos h36_, if_neg h21_, if_neg h24_, if_neg h26_, if_neg h27_, if_neg h29_, if_neg h34_, if_neg h35_]; rfl) | (simp only [h1_, h2_, h36_, h21_, h24_, h26_, h27_, h29_, h34_, h35_, if_true, if_false, ite_true, ite_false]; done))) (by first | rfl | (unfold m_X0_isBreach; first | rfl | (rw [if_pos h1_, if_neg h2_, if_pos h36_, if_neg h21_, if_neg h24_, if_neg h26_, if_neg h27_, if_neg h29_, if_neg h34_, if_neg h35_]; done) | (rw [if_pos h1_, if_neg h2_, if_pos h36_, if_neg h21_, if_neg h24_, if_neg h26_, if_neg h27_, if_neg h29_, if_neg h34_, if_neg h35_]; rfl) | (simp only [h1_, h2_, h36_, h21_, h24_, h26_, h27_, h29_, h34_, h35_, if_true, if_false, ite_true, ite_false]; done)))) dX0_isBreach_218
        refine pk_tableOut (tgt := 219) C dX0_isBreach_37 (sw_7 h21_ h24_ h26_ h27_ h29_ h34_ h35_ h36_) (by decide) ?_
        refine pk_iconst (v := 0) C dX0_isBreach_219 (by decide) (pc2 := 220) rfl ?_
        exact pr_int (ty := .boolean) C hE rfl rfl (po_d_rfl (by first | rfl | (unfold m_X0_isBreach; first | rfl | (rw [if_pos h1_, if_neg h2_, if_neg h36_, if_neg h21_, if_neg h24_, if_neg h26_, if_neg h27_, if_neg h29_, if_neg h34_, if_neg h35_]; done) | (rw [if_pos h1_, if_neg h2_, if_neg h36_, if_neg h21_, if_neg h24_, if_neg h26_, if_neg h27_, if_neg h29_, if_neg h34_, if_neg h35_]; rfl) | (simp only [h1_, h2_, h36_, h21_, h24_, h26_, h27_, h29_, h34_, h35_, if_true, if_false, ite_true, ite_false]; done))) (by first | rfl | (unfold m_X0_isBreach; first | rfl | (rw [if_pos h1_, if_neg h2_, if_neg h36_, if_neg h21_, if_neg h24_, if_neg h26_, if_neg h27_, if_neg h29_, if_neg h34_, if_neg h35_]; done) | (rw [if_pos h1_, if_neg h2_, if_neg h36_, if_neg h21_, if_neg h24_, if_neg h26_, if_neg h27_, if_neg h29_, if_neg h34_, if_neg h35_]; rfl) | (simp only [h1_, h2_, h36_, h21_, h24_, h26_, h27_, h29_, h34_, h35_, if_true, if_false, ite_true, ite_false]; done)))) dX0_isBreach_220
      ·
        refine pk_aload_n C 1 dX0_isBreach_23 rfl rfl (pc2 := 24) rfl ?_
        refine pk_get (v := .int (E_ki ev)) C i1_ (pw_atP heL heF) (ci := 1) rfl 2 (by decide) w2_ rfl rfl dX0_isBreach_24 (pc2 := 27) rfl ?_
        refine pk_iconst (v := 5) C dX0_isBreach_27 (by decide) (pc2 := 28) rfl ?_
        refine pk_icmp_eq (tgt := 33) C dX0_isBreach_28 (by decide) (pc2 := 31) rfl (fun h38_ => ?_) (fun h38_ => ?_)
        ·
          refine pk_aload_n C 1 dX0_isBreach_33 rfl rfl (pc2 := 34) rfl ?_
          refine pk_get (v := .int (E_ki ev)) C i1_ (pw_atP heL heF) (ci := 1) rfl 2 (by decide) w2_ rfl rfl dX0_isBreach_34 (pc2 := 37) rfl ?_
          by_cases h39_ : (E_ki ev) = 0
          ·
            refine pk_tableIn (tgt := 84) C dX0_isBreach_37 (by rw [h39_]; decide) (by rw [h39_]; decide) (by rw [h39_]; rfl) (by decide) ?_
            refine pk_aload_n C 0 dX0_isBreach_84 rfl rfl (pc2 := 85) rfl ?_
            refine pk_get (v := .int (C_li c)) C i0_ (pw_atX 0 rfl) (ci := 0) rfl 8 (by decide) w3_ rfl rfl dX0_isBreach_85 (pc2 := 88) rfl ?_
            refine pk_if_eq (tgt := 108) C dX0_isBreach_88 (by decide) (pc2 := 91) rfl (fun h40_ => ?_) (fun h40_ => ?_)
            ·
              refine pk_iconst (v := 1) C dX0_isBreach_108 (by decide) (pc2 := 109) rfl ?_
              refine pk_goto (tgt := 113) C dX0_isBreach_109 (by decide) ?_
              exact pr_int (ty := .boolean) C hE rfl rfl (po_d_rfl (by first | rfl | (unfold m_X0_isBreach; first | rfl | (rw [if_pos h1_, if_neg h2_, if_neg h20_, if_pos h38_, if_pos h39_, if_pos h40_]; done) | (rw [if_pos h1_, if_neg h2_, if_neg h20_, if_pos h38_, if_pos h39_, if_pos h40_]; rfl) | (simp only [h1_, h2_, h20_, h38_, h39_, h40_, if_true, if_false, ite_true, ite_false]; done))) (by first | rfl | (unfold m_X0_isBreach; first | rfl | (rw [if_pos h1_, if_neg h2_, if_neg h20_, if_pos h38_, if_pos h39_, if_pos h40_]; done) | (rw [if_pos h1_, if_neg h2_, if_neg h20_, if_pos h38_, if_pos h39_, if_pos h40_]; rfl) | (simp only [h1_, h2_, h20_, h38_, h39_, h40_, if_true, if_false, ite_true, ite_false]; done)))) dX0_isBreach_113
            ·
              refine pk_aload_n C 0 dX0_isBreach_91 rfl rfl (pc2 := 92) rfl ?_
              refine pk_get (v := .long (C_rs c)) C i0_ (pw_atX 0 rfl) (ci := 0) rfl 7 (by decide) w4_ rfl rfl dX0_isBreach_92 (pc2 := 95) rfl ?_
              refine pk_aload_n C 0 dX0_isBreach_95 rfl rfl (pc2 := 96) rfl ?_
              refine pk_dV (cx := [(a, cC b c), (b, cS t)]) (wr := []) (X2 := [(a, cC b c), (b, cS t)]) (st := [.long (C_rs c)]) (st2 := [.long (m_X0_book c t), .long (C_rs c)]) (As := []) C (c_X0_book (zl Z) (zG Z) L F a b c t) gX0_isBreach_X0_book rfl rfl rfl 0 (by decide +kernel) (by decide) (pw_atX 0 rfl) rfl rfl rfl (by decide) (by decide) [0, 1] [] [0, 1] rfl rfl rfl rfl (by decide) rfl rfl dX0_isBreach_96 (pc2 := 99) rfl rfl ?_
              refine pk_aload_n C 1 dX0_isBreach_99 rfl rfl (pc2 := 100) rfl ?_
              refine pk_get (v := .long (E_am ev)) C i1_ (pw_atP heL heF) (ci := 1) rfl 3 (by decide) w5_ rfl rfl dX0_isBreach_100 (pc2 := 103) rfl ?_
              refine pk_ladd C dX0_isBreach_103 (pc2 := 104) rfl ?_
              refine pk_lcmp_le (tgt := 112) C dX0_isBreach_104 dX0_isBreach_105 (pc1 := 105) rfl (by decide) (pc2 := 108) rfl (fun h41_ => ?_) (fun h41_ => ?_)
              ·
                refine pk_iconst (v := 0) C dX0_isBreach_112 (by decide) (pc2 := 113) rfl ?_
                exact pr_int (ty := .boolean) C hE rfl rfl (po_d_rfl (by first | rfl | (unfold m_X0_isBreach; first | rfl | (rw [if_pos h1_, if_neg h2_, if_neg h20_, if_pos h38_, if_pos h39_, if_neg h40_, if_pos h41_]; done) | (rw [if_pos h1_, if_neg h2_, if_neg h20_, if_pos h38_, if_pos h39_, if_neg h40_, if_pos h41_]; rfl) | (simp only [h1_, h2_, h20_, h38_, h39_, h40_, h41_, if_true, if_false, ite_true, ite_false]; done))) (by first | rfl | (unfold m_X0_isBreach; first | rfl | (rw [if_pos h1_, if_neg h2_, if_neg h20_, if_pos h38_, if_pos h39_, if_neg h40_, if_pos h41_]; done) | (rw [if_pos h1_, if_neg h2_, if_neg h20_, if_pos h38_, if_pos h39_, if_neg h40_, if_pos h41_]; rfl) | (simp only [h1_, h2_, h20_, h38_, h39_, h40_, h41_, if_true, if_false, ite_true, ite_false]; done)))) dX0_isBreach_113
              ·
                refine pk_iconst (v := 1) C dX0_isBreach_108 (by decide) (pc2 := 109) rfl ?_
                refine pk_goto (tgt := 113) C dX0_isBreach_109 (by decide) ?_
                exact pr_int (ty := .boolean) C hE rfl rfl (po_d_rfl (by first | rfl | (unfold m_X0_isBreach; first | rfl | (rw [if_pos h1_, if_neg h2_, if_neg h20_, if_pos h38_, if_pos h39_, if_neg h40_, if_neg h41_]; done) | (rw [if_pos h1_, if_neg h2_, if_neg h20_, if_pos h38_, if_pos h39_, if_neg h40_, if_neg h41_]; rfl) | (simp only [h1_, h2_, h20_, h38_, h39_, h40_, h41_, if_true, if_false, ite_true, ite_false]; done))) (by first | rfl | (unfold m_X0_isBreach; first | rfl | (rw [if_pos h1_, if_neg h2_, if_neg h20_, if_pos h38_, if_pos h39_, if_neg h40_, if_neg h41_]; done) | (rw [if_pos h1_, if_neg h2_, if_neg h20_, if_pos h38_, if_pos h39_, if_neg h40_, if_neg h41_]; rfl) | (simp only [h1_, h2_, h20_, h38_, h39_, h40_, h41_, if_true, if_false, ite_true, ite_false]; done)))) dX0_isBreach_113
          by_cases h42_ : (E_ki ev) = 1
          ·
            refine pk_tableIn (tgt := 114) C dX0_isBreach_37 (by rw [h42_]; decide) (by rw [h42_]; decide) (by rw [h42_]; rfl) (by decide) ?_
            refine pk_aload_n C 1 dX0_isBreach_114 rfl rfl (pc2 := 115) rfl ?_
            refine pk_get (v := .long (E_am ev)) C i1_ (pw_atP heL heF) (ci := 1) rfl 3 (by decide) w5_ rfl rfl dX0_isBreach_115 (pc2 := 118) rfl ?_
            refine pk_aload_n C 0 dX0_isBreach_118 rfl rfl (pc2 := 119) rfl ?_
            refine pk_dV (cx := [(a, cC b c), (b, cS t)]) (wr := []) (X2 := [(a, cC b c), (b, cS t)]) (st := [.long (E_am ev)]) (st2 := [.long (m_X0_book c t), .long (E_am ev)]) (As := []) C (c_X0_book (zl Z) (zG Z) L F a b c t) gX0_isBreach_X0_book rfl rfl rfl 0 (by decide +kernel) (by decide) (pw_atX 0 rfl) rfl rfl rfl (by decide) (by decide) [0, 1] [] [0, 1] rfl rfl rfl rfl (by decide) rfl rfl dX0_isBreach_119 (pc2 := 122) rfl rfl ?_
            refine pk_lcmp_le (tgt := 130) C dX0_isBreach_122 dX0_isBreach_123 (pc1 := 123) rfl (by decide) (pc2 := 126) rfl (fun h43_ => ?_) (fun h43_ => ?_)
            ·
              refine pk_iconst (v := 0) C dX0_isBreach_130 (by decide) (pc2 := 131) rfl ?_
              exact pr_int (ty := .boolean) C hE rfl rfl (po_d_rfl (by first | rfl | (unfold m_X0_isBreach; first | rfl | (rw [if_pos h1_, if_neg h2_, if_neg h20_, if_pos h38_, if_neg h39_, if_pos h42_, if_pos h43_]; done) | (rw [if_pos h1_, if_neg h2_, if_neg h20_, if_pos h38_, if_neg h39_, if_pos h42_, if_pos h43_]; rfl) | (simp only [h1_, h2_, h20_, h38_, h39_, h42_, h43_, if_true, if_false, ite_true, ite_false]; done))) (by first | rfl | (unfold m_X0_isBreach; first | rfl | (rw [if_pos h1_, if_neg h2_, if_neg h20_, if_pos h38_, if_neg h39_, if_pos h42_, if_pos h43_]; done) | (rw [if_pos h1_, if_neg h2_, if_neg h20_, if_pos h38_, if_neg h39_, if_pos h42_, if_pos h43_]; rfl) | (simp only [h1_, h2_, h20_, h38_, h39_, h42_, h43_, if_true, if_false, ite_true, ite_false]; done)))) dX0_isBreach_131
            ·
              refine pk_iconst (v := 1) C dX0_isBreach_126 (by decide) (pc2 := 127) rfl ?_
              refine pk_goto (tgt := 131) C dX0_isBreach_127 (by decide) ?_
              exact pr_int (ty := .boolean) C hE rfl rfl (po_d_rfl (by first | rfl | (unfold m_X0_isBreach; first | rfl | (rw [if_pos h1_, if_neg h2_, if_neg h20_, if_pos h38_, if_neg h39_, if_pos h42_, if_neg h43_]; done) | (rw [if_pos h1_, if_neg h2_, if_neg h20_, if_pos h38_, if_neg h39_, if_pos h42_, if_neg h43_]; rfl) | (simp only [h1_, h2_, h20_, h38_, h39_, h42_, h43_, if_true, if_false, ite_true, ite_false]; done))) (by first | rfl | (unfold m_X0_isBreach; first | rfl | (rw [if_pos h1_, if_neg h2_, if_neg h20_, if_pos h38_, if_neg h39_, if_pos h42_, if_neg h43_]; done) | (rw [if_pos h1_, if_neg h2_, if_neg h20_, if_pos h38_, if_neg h39_, if_pos h42_, if_neg h43_]; rfl) | (simp only [h1_, h2_, h20_, h38_, h39_, h42_, h43_, if_true, if_false, ite_true, ite_false]; done)))) dX0_isBreach_131
          by_cases h44_ : (E_ki ev) = 2
          ·
            refine pk_tableIn (tgt := 219) C dX0_isBreach_37 (by rw [h44_]; decide) (by rw [h44_]; decide) (by rw [h44_]; rfl) (by decide) ?_
            refine pk_iconst (v := 0) C dX0_isBreach_219 (by decide) (pc2 := 220) rfl ?_
            exact pr_int (ty := .boolean) C hE rfl rfl (po_d_rfl (by first | rfl | (unfold m_X0_isBreach; first | rfl | (rw [if_pos h1_, if_neg h2_, if_neg h20_, if_pos h38_, if_neg h39_, if_neg h42_, if_pos h44_]; done) | (rw [if_pos h1_, if_neg h2_, if_neg h20_, if_pos h38_, if_neg h39_, if_neg h42_, if_pos h44_]; rfl) | (simp only [h1_, h2_, h20_, h38_, h39_, h42_, h44_, if_true, if_false, ite_true, ite_false]; done))) (by first | rfl | (unfold m_X0_isBreach; first | rfl | (rw [if_pos h1_, if_neg h2_, if_neg h20_, if_pos h38_, if_neg h39_, if_neg h42_, if_pos h44_]; done) | (rw [if_pos h1_, if_neg h2_, if_neg h20_, if_pos h38_, if_neg h39_, if_neg h42_, if_pos h44_]; rfl) | (simp only [h1_, h2_, h20_, h38_, h39_, h42_, h44_, if_true, if_false, ite_true, ite_false]; done)))) dX0_isBreach_220
          by_cases h45_ : (E_ki ev) = 3
          ·
            refine pk_tableIn (tgt := 132) C dX0_isBreach_37 (by rw [h45_]; decide) (by rw [h45_]; decide) (by rw [h45_]; rfl) (by decide) ?_
            refine pk_aload_n C 1 dX0_isBreach_132 rfl rfl (pc2 := 133) rfl ?_
            refine pk_get (v := .long (E_am ev)) C i1_ (pw_atP heL heF) (ci := 1) rfl 3 (by decide) w5_ rfl rfl dX0_isBreach_133 (pc2 := 136) rfl ?_
            refine pk_aload_n C 0 dX0_isBreach_136 rfl rfl (pc2 := 137) rfl ?_
            refine pk_dV (cx := [(a, cC b c), (b, cS t)]) (wr := []) (X2 := [(a, cC b c), (b, cS t)]) (st := [.long (E_am ev)]) (st2 := [.long (m_X0_book c t), .long (E_am ev)]) (As := []) C (c_X0_book (zl Z) (zG Z) L F a b c t) gX0_isBreach_X0_book rfl rfl rfl 0 (by decide +kernel) (by decide) (pw_atX 0 rfl) rfl rfl rfl (by decide) (by decide) [0, 1] [] [0, 1] rfl rfl rfl rfl (by decide) rfl rfl dX0_isBreach_137 (pc2 := 140) rfl rfl ?_
            refine pk_lcmp_lt (tgt := 148) C dX0_isBreach_140 dX0_isBreach_141 (pc1 := 141) rfl (by decide) (pc2 := 144) rfl (fun h46_ => ?_) (fun h46_ => ?_)
            ·
              refine pk_iconst (v := 0) C dX0_isBreach_148 (by decide) (pc2 := 149) rfl ?_
              exact pr_int (ty := .boolean) C hE rfl rfl (po_d_rfl (by first | rfl | (unfold m_X0_isBreach; first | rfl | (rw [if_pos h1_, if_neg h2_, if_neg h20_, if_pos h38_, if_neg h39_, if_neg h42_, if_neg h44_, if_pos h45_, if_pos h46_]; done) | (rw [if_pos h1_, if_neg h2_, if_neg h20_, if_pos h38_, if_neg h39_, if_neg h42_, if_neg h44_, if_pos h45_, if_pos h46_]; rfl) | (simp only [h1_, h2_, h20_, h38_, h39_, h42_, h44_, h45_, h46_, if_true, if_false, ite_true, ite_false]; done))) (by first | rfl | (unfold m_X0_isBreach; first | rfl | (rw [if_pos h1_, if_neg h2_, if_neg h20_, if_pos h38_, if_neg h39_, if_neg h42_, if_neg h44_, if_pos h45_, if_pos h46_]; done) | (rw [if_pos h1_, if_neg h2_, if_neg h20_, if_pos h38_, if_neg h39_, if_neg h42_, if_neg h44_, if_pos h45_, if_pos h46_]; rfl) | (simp only [h1_, h2_, h20_, h38_, h39_, h42_, h44_, h45_, h46_, if_true, if_false, ite_true, ite_false]; done)))) dX0_isBreach_149
            ·
              refine pk_iconst (v := 1) C dX0_isBreach_144 (by decide) (pc2 := 145) rfl ?_
              refine pk_goto (tgt := 149) C dX0_isBreach_145 (by decide) ?_
              exact pr_int (ty := .boolean) C hE rfl rfl (po_d_rfl (by first | rfl | (unfold m_X0_isBreach; first | rfl | (rw [if_pos h1_, if_neg h2_, if_neg h20_, if_pos h38_, if_neg h39_, if_neg h42_, if_neg h44_, if_pos h45_, if_neg h46_]; done) | (rw [if_pos h1_, if_neg h2_, if_neg h20_, if_pos h38_, if_neg h39_, if_neg h42_, if_neg h44_, if_pos h45_, if_neg h46_]; rfl) | (simp only [h1_, h2_, h20_, h38_, h39_, h42_, h44_, h45_, h46_, if_true, if_false, ite_true, ite_false]; done))) (by first | rfl | (unfold m_X0_isBreach; first | rfl | (rw [if_pos h1_, if_neg h2_, if_neg h20_, if_pos h38_, if_neg h39_, if_neg h42_, if_neg h44_, if_pos h45_, if_neg h46_]; done) | (rw [if_pos h1_, if_neg h2_, if_neg h20_, if_pos h38_, if_neg h39_, if_neg h42_, if_neg h44_, if_pos h45_, if_neg h46_]; rfl) | (simp only [h1_, h2_, h20_, h38_, h39_, h42_, h44_, h45_, h46_, if_true, if_false, ite_true, ite_false]; done)))) dX0_isBreach_149
          by_cases h47_ : (E_ki ev) = 4
          ·
            refine pk_tableIn (tgt := 150) C dX0_isBreach_37 (by rw [h47_]; decide) (by rw [h47_]; decide) (by rw [h47_]; rfl) (by decide) ?_
            refine pk_aload_n C 1 dX0_isBreach_150 rfl rfl (pc2 := 151) rfl ?_
            refine pk_get (v := .long (E_am ev)) C i1_ (pw_atP heL heF) (ci := 1) rfl 3 (by decide) w5_ rfl rfl dX0_isBreach_151 (pc2 := 154) rfl ?_
            refine pk_aload_n C 0 dX0_isBreach_154 rfl rfl (pc2 := 155) rfl ?_
            refine pk_dV (cx := [(a, cC b c), (b, cS t)]) (wr := []) (X2 := [(a, cC b c), (b, cS t)]) (st := [.long (E_am ev)]) (st2 := [.long (m_X0_book c t), .long (E_am ev)]) (As := []) C (c_X0_book (zl Z) (zG Z) L F a b c t) gX0_isBreach_X0_book rfl rfl rfl 0 (by decide +kernel) (by decide) (pw_atX 0 rfl) rfl rfl rfl (by decide) (by decide) [0, 1] [] [0, 1] rfl rfl rfl rfl (by decide) rfl rfl dX0_isBreach_155 (pc2 := 158) rfl rfl ?_
            refine pk_lcmp_le (tgt := 200) C dX0_isBreach_158 dX0_isBreach_159 (pc1 := 159) rfl (by decide) (pc2 := 162) rfl (fun h48_ => ?_) (fun h48_ => ?_)
            ·
              refine pk_iconst (v := 1) C dX0_isBreach_200 (by decide) (pc2 := 201) rfl ?_
              refine pk_goto (tgt := 205) C dX0_isBreach_201 (by decide) ?_
              exact pr_int (ty := .boolean) C hE rfl rfl (po_d_rfl (by first | rfl | (unfold m_X0_isBreach; first | rfl | (rw [if_pos h1_, if_neg h2_, if_neg h20_, if_pos h38_, if_neg h39_, if_neg h42_, if_neg h44_, if_neg h45_, if_pos h47_, if_pos h48_]; done) | (rw [if_pos h1_, if_neg h2_, if_neg h20_, if_pos h38_, if_neg h39_, if_neg h42_, if_neg h44_, if_neg h45_, if_pos h47_, if_pos h48_]; rfl) | (simp only [h1_, h2_, h20_, h38_, h39_, h42_, h44_, h45_, h47_, h48_, if_true, if_false, ite_true, ite_false]; done))) (by first | rfl | (unfold m_X0_isBreach; first | rfl | (rw [if_pos h1_, if_neg h2_, if_neg h20_, if_pos h38_, if_neg h39_, if_neg h42_, if_neg h44_, if_neg h45_, if_pos h47_, if_pos h48_]; done) | (rw [if_pos h1_, if_neg h2_, if_neg h20_, if_pos h38_, if_neg h39_, if_neg h42_, if_neg h44_, if_neg h45_, if_pos h47_, if_pos h48_]; rfl) | (simp only [h1_, h2_, h20_, h38_, h39_, h42_, h44_, h45_, h47_, h48_, if_true, if_false, ite_true, ite_false]; done)))) dX0_isBreach_205
            ·
              refine pk_aload_n C 1 dX0_isBreach_162 rfl rfl (pc2 := 163) rfl ?_
              refine pk_get (v := .long (E_am ev)) C i1_ (pw_atP heL heF) (ci := 1) rfl 3 (by decide) w5_ rfl rfl dX0_isBreach_163 (pc2 := 166) rfl ?_
              refine pk_lload_n C 2 dX0_isBreach_166 rfl rfl (pc2 := 167) rfl ?_
              refine pk_lcmp_gt (tgt := 200) C dX0_isBreach_167 dX0_isBreach_168 (pc1 := 168) rfl (by decide) (pc2 := 171) rfl (fun h49_ => ?_) (fun h49_ => ?_)
              ·
                refine pk_iconst (v := 1) C dX0_isBreach_200 (by decide) (pc2 := 201) rfl ?_
                refine pk_goto (tgt := 205) C dX0_isBreach_201 (by decide) ?_
                exact pr_int (ty := .boolean) C hE rfl rfl (po_d_rfl (by first | rfl | (unfold m_X0_isBreach; first | rfl | (rw [if_pos h1_, if_neg h2_, if_neg h20_, if_pos h38_, if_neg h39_, if_neg h42_, if_neg h44_, if_neg h45_, if_pos h47_, if_neg h48_, if_pos h49_]; done) | (rw [if_pos h1_, if_neg h2_, if_neg h20_, if_pos h38_, if_neg h39_, if_neg h42_, if_neg h44_, if_neg h45_, if_pos h47_, if_neg h48_, if_pos h49_]; rfl) | (simp only [h1_, h2_, h20_, h38_, h39_, h42_, h44_, h45_, h47_, h48_, h49_, if_true, if_false, ite_true, ite_false]; done))) (by first | rfl | (unfold m_X0_isBreach; first | rfl | (rw [if_pos h1_, if_neg h2_, if_neg h20_, if_pos h38_, if_neg h39_, if_neg h42_, if_neg h44_, if_neg h45_, if_pos h47_, if_neg h48_, if_pos h49_]; done) | (rw [if_pos h1_, if_neg h2_, if_neg h20_, if_pos h38_, if_neg h39_, if_neg h42_, if_neg h44_, if_neg h45_, if_pos h47_, if_neg h48_, if_pos h49_]; rfl) | (simp only [h1_, h2_, h20_, h38_, h39_, h42_, h44_, h45_, h47_, h48_, h49_, if_true, if_false, ite_true, ite_false]; done)))) dX0_isBreach_205
              ·
                refine pk_aload_n C 1 dX0_isBreach_171 rfl rfl (pc2 := 172) rfl ?_
                refine pk_get (v := .long (E_am ev)) C i1_ (pw_atP heL heF) (ci := 1) rfl 3 (by decide) w5_ rfl rfl dX0_isBreach_172 (pc2 := 175) rfl ?_
                refine pk_aload_n C 0 dX0_isBreach_175 rfl rfl (pc2 := 176) rfl ?_
                refine pk_dV (cx := [(a, cC b c), (b, cS t)]) (wr := []) (X2 := [(a, cC b c), (b, cS t)]) (st := [.long (E_am ev)]) (st2 := [.long (m_X0_book c t), .long (E_am ev)]) (As := []) C (c_X0_book (zl Z) (zG Z) L F a b c t) gX0_isBreach_X0_book rfl rfl rfl 0 (by decide +kernel) (by decide) (pw_atX 0 rfl) rfl rfl rfl (by decide) (by decide) [0, 1] [] [0, 1] rfl rfl rfl rfl (by decide) rfl rfl dX0_isBreach_176 (pc2 := 179) rfl rfl ?_
                refine pk_lsub C dX0_isBreach_179 (pc2 := 180) rfl ?_
                refine pk_aload_n C 0 dX0_isBreach_180 rfl rfl (pc2 := 181) rfl ?_
                refine pk_get (v := .long (C_al c)) C i0_ (pw_atX 0 rfl) (ci := 0) rfl 4 (by decide) w6_ rfl rfl dX0_isBreach_181 (pc2 := 184) rfl ?_
                refine pk_lcmp_gt (tgt := 200) C dX0_isBreach_184 dX0_isBreach_185 (pc1 := 185) rfl (by decide) (pc2 := 188) rfl (fun h50_ => ?_) (fun h50_ => ?_)
                ·
                  refine pk_iconst (v := 1) C dX0_isBreach_200 (by decide) (pc2 := 201) rfl ?_
                  refine pk_goto (tgt := 205) C dX0_isBreach_201 (by decide) ?_
                  exact pr_int (ty := .boolean) C hE rfl rfl (po_d_rfl (by first | rfl | (unfold m_X0_isBreach; first | rfl | (rw [if_pos h1_, if_neg h2_, if_neg h20_, if_pos h38_, if_neg h39_, if_neg h42_, if_neg h44_, if_neg h45_, if_pos h47_, if_neg h48_, if_neg h49_, if_pos h50_]; done) | (rw [if_pos h1_, if_neg h2_, if_neg h20_, if_pos h38_, if_neg h39_, if_neg h42_, if_neg h44_, if_neg h45_, if_pos h47_, if_neg h48_, if_neg h49_, if_pos h50_]; rfl) | (simp only [h1_, h2_, h20_, h38_, h39_, h42_, h44_, h45_, h47_, h48_, h49_, h50_, if_true, if_false, ite_true, ite_false]; done))) (by first | rfl | (unfold m_X0_isBreach; first | rfl | (rw [if_pos h1_, if_neg h2_, if_neg h20_, if_pos h38_, if_neg h39_, if_neg h42_, if_neg h44_, if_neg h45_, if_pos h47_, if_neg h48_, if_neg h49_, if_pos h50_]; done) | (rw [if_pos h1_, if_neg h2_, if_neg h20_, if_pos h38_, if_neg h39_, if_neg h42_, if_neg h44_, if_neg h45_, if_pos h47_, if_neg h48_, if_neg h49_, if_pos h50_]; rfl) | (simp only [h1_, h2_, h20_, h38_, h39_, h42_, h44_, h45_, h47_, h48_, h49_, h50_, if_true, if_false, ite_true, ite_false]; done)))) dX0_isBreach_205
                ·
                  refine pk_aload_n C 0 dX0_isBreach_188 rfl rfl (pc2 := 189) rfl ?_
                  refine pk_get (v := .long (C_rs c)) C i0_ (pw_atX 0 rfl) (ci := 0) rfl 7 (by decide) w4_ rfl rfl dX0_isBreach_189 (pc2 := 192) rfl ?_
                  refine pk_aload_n C 1 dX0_isBreach_192 rfl rfl (pc2 := 193) rfl ?_
                  refine pk_get (v := .long (E_am ev)) C i1_ (pw_atP heL heF) (ci := 1) rfl 3 (by decide) w5_ rfl rfl dX0_isBreach_193 (pc2 := 196) rfl ?_
                  refine pk_lcmp_le (tgt := 204) C dX0_isBreach_196 dX0_isBreach_197 (pc1 := 197) rfl (by decide) (pc2 := 200) rfl (fun h51_ => ?_) (fun h51_ => ?_)
                  ·
                    refine pk_iconst (v := 0) C dX0_isBreach_204 (by decide) (pc2 := 205) rfl ?_
                    exact pr_int (ty := .boolean) C hE rfl rfl (po_d_rfl (by first | rfl | (unfold m_X0_isBreach; first | rfl | (rw [if_pos h1_, if_neg h2_, if_neg h20_, if_pos h38_, if_neg h39_, if_neg h42_, if_neg h44_, if_neg h45_, if_pos h47_, if_neg h48_, if_neg h49_, if_neg h50_, if_pos h51_]; done) | (rw [if_pos h1_, if_neg h2_, if_neg h20_, if_pos h38_, if_neg h39_, if_neg h42_, if_neg h44_, if_neg h45_, if_pos h47_, if_neg h48_, if_neg h49_, if_neg h50_, if_pos h51_]; rfl) | (simp only [h1_, h2_, h20_, h38_, h39_, h42_, h44_, h45_, h47_, h48_, h49_, h50_, h51_, if_true, if_false, ite_true, ite_false]; done))) (by first | rfl | (unfold m_X0_isBreach; first | rfl | (rw [if_pos h1_, if_neg h2_, if_neg h20_, if_pos h38_, if_neg h39_, if_neg h42_, if_neg h44_, if_neg h45_, if_pos h47_, if_neg h48_, if_neg h49_, if_neg h50_, if_pos h51_]; done) | (rw [if_pos h1_, if_neg h2_, if_neg h20_, if_pos h38_, if_neg h39_, if_neg h42_, if_neg h44_, if_neg h45_, if_pos h47_, if_neg h48_, if_neg h49_, if_neg h50_, if_pos h51_]; rfl) | (simp only [h1_, h2_, h20_, h38_, h39_, h42_, h44_, h45_, h47_, h48_, h49_, h50_, h51_, if_true, if_false, ite_true, ite_false]; done)))) dX0_isBreach_205
                  ·
                    refine pk_iconst (v := 1) C dX0_isBreach_200 (by decide) (pc2 := 201) rfl ?_
                    refine pk_goto (tgt := 205) C dX0_isBreach_201 (by decide) ?_
                    exact pr_int (ty := .boolean) C hE rfl rfl (po_d_rfl (by first | rfl | (unfold m_X0_isBreach; first | rfl | (rw [if_pos h1_, if_neg h2_, if_neg h20_, if_pos h38_, if_neg h39_, if_neg h42_, if_neg h44_, if_neg h45_, if_pos h47_, if_neg h48_, if_neg h49_, if_neg h50_, if_neg h51_]; done) | (rw [if_pos h1_, if_neg h2_, if_neg h20_, if_pos h38_, if_neg h39_, if_neg h42_, if_neg h44_, if_neg h45_, if_pos h47_, if_neg h48_, if_neg h49_, if_neg h50_, if_neg h51_]; rfl) | (simp only [h1_, h2_, h20_, h38_, h39_, h42_, h44_, h45_, h47_, h48_, h49_, h50_, h51_, if_true, if_false, ite_true, ite_false]; done))) (by first | rfl | (unfold m_X0_isBreach; first | rfl | (rw [if_pos h1_, if_neg h2_, if_neg h20_, if_pos h38_, if_neg h39_, if_neg h42_, if_neg h44_, if_neg h45_, if_pos h47_, if_neg h48_, if_neg h49_, if_neg h50_, if_neg h51_]; done) | (rw [if_pos h1_, if_neg h2_, if_neg h20_, if_pos h38_, if_neg h39_, if_neg h42_, if_neg h44_, if_neg h45_, if_pos h47_, if_neg h48_, if_neg h49_, if_neg h50_, if_neg h51_]; rfl) | (simp only [h1_, h2_, h20_, h38_, h39_, h42_, h44_, h45_, h47_, h48_, h49_, h50_, h51_, if_true, if_false, ite_true, ite_false]; done)))) dX0_isBreach_205
          by_cases h52_ : (E_ki ev) = 5
          ·
            refine pk_tableIn (tgt := 219) C dX0_isBreach_37 (by rw [h52_]; decide) (by rw [h52_]; decide) (by rw [h52_]; rfl) (by decide) ?_
            refine pk_iconst (v := 0) C dX0_isBreach_219 (by decide) (pc2 := 220) rfl ?_
            exact pr_int (ty := .boolean) C hE rfl rfl (po_d_rfl (by first | rfl | (unfold m_X0_isBreach; first | rfl | (rw [if_pos h1_, if_neg h2_, if_neg h20_, if_pos h52_, if_neg h39_, if_neg h42_, if_neg h44_, if_neg h45_, if_neg h47_]; done) | (rw [if_pos h1_, if_neg h2_, if_neg h20_, if_pos h52_, if_neg h39_, if_neg h42_, if_neg h44_, if_neg h45_, if_neg h47_]; rfl) | (simp only [h1_, h2_, h20_, h52_, h39_, h42_, h44_, h45_, h47_, if_true, if_false, ite_true, ite_false]; done))) (by first | rfl | (unfold m_X0_isBreach; first | rfl | (rw [if_pos h1_, if_neg h2_, if_neg h20_, if_pos h52_, if_neg h39_, if_neg h42_, if_neg h44_, if_neg h45_, if_neg h47_]; done) | (rw [if_pos h1_, if_neg h2_, if_neg h20_, if_pos h52_, if_neg h39_, if_neg h42_, if_neg h44_, if_neg h45_, if_neg h47_]; rfl) | (simp only [h1_, h2_, h20_, h52_, h39_, h42_, h44_, h45_, h47_, if_true, if_false, ite_true, ite_false]; done)))) dX0_isBreach_220
          by_cases h53_ : (E_ki ev) = 6
          ·
            refine pk_tableIn (tgt := 219) C dX0_isBreach_37 (by rw [h53_]; decide) (by rw [h53_]; decide) (by rw [h53_]; rfl) (by decide) ?_
            refine pk_iconst (v := 0) C dX0_isBreach_219 (by decide) (pc2 := 220) rfl ?_
            exact pr_int (ty := .boolean) C hE rfl rfl (po_d_rfl (by first | rfl | (unfold m_X0_isBreach; first | rfl | (rw [if_pos h1_, if_neg h2_, if_neg h20_, if_neg h52_, if_neg h39_, if_neg h42_, if_neg h44_, if_neg h45_, if_neg h47_, if_pos h53_]; done) | (rw [if_pos h1_, if_neg h2_, if_neg h20_, if_neg h52_, if_neg h39_, if_neg h42_, if_neg h44_, if_neg h45_, if_neg h47_, if_pos h53_]; rfl) | (simp only [h1_, h2_, h20_, h52_, h39_, h42_, h44_, h45_, h47_, h53_, if_true, if_false, ite_true, ite_false]; done))) (by first | rfl | (unfold m_X0_isBreach; first | rfl | (rw [if_pos h1_, if_neg h2_, if_neg h20_, if_neg h52_, if_neg h39_, if_neg h42_, if_neg h44_, if_neg h45_, if_neg h47_, if_pos h53_]; done) | (rw [if_pos h1_, if_neg h2_, if_neg h20_, if_neg h52_, if_neg h39_, if_neg h42_, if_neg h44_, if_neg h45_, if_neg h47_, if_pos h53_]; rfl) | (simp only [h1_, h2_, h20_, h52_, h39_, h42_, h44_, h45_, h47_, h53_, if_true, if_false, ite_true, ite_false]; done)))) dX0_isBreach_220
          by_cases h54_ : (E_ki ev) = 7
          ·
            refine pk_tableIn (tgt := 206) C dX0_isBreach_37 (by rw [h54_]; decide) (by rw [h54_]; decide) (by rw [h54_]; rfl) (by decide) ?_
            refine pk_aload_n C 0 dX0_isBreach_206 rfl rfl (pc2 := 207) rfl ?_
            refine pk_get (v := .int (C_he c)) C i0_ (pw_atX 0 rfl) (ci := 0) rfl 9 (by decide) w1_ rfl rfl dX0_isBreach_207 (pc2 := 210) rfl ?_
            refine pk_if_ne (tgt := 217) C dX0_isBreach_210 (by decide) (pc2 := 213) rfl (fun h55_ => ?_) (fun h55_ => ?_)
            rotate_left
            · exact absurd h55_ h2_
            refine pk_iconst (v := 0) C dX0_isBreach_217 (by decide) (pc2 := 218) rfl ?_
            exact pr_int (ty := .boolean) C hE rfl rfl (po_d_rfl (by first | rfl | (unfold m_X0_isBreach; first | rfl | (rw [if_pos h1_, if_neg h2_, if_pos h54_, if_neg h52_, if_neg h39_, if_neg h42_, if_neg h44_, if_neg h45_, if_neg h47_, if_neg h53_]; done) | (rw [if_pos h1_, if_neg h2_, if_pos h54_, if_neg h52_, if_neg h39_, if_neg h42_, if_neg h44_, if_neg h45_, if_neg h47_, if_neg h53_]; rfl) | (simp only [h1_, h2_, h54_, h52_, h39_, h42_, h44_, h45_, h47_, h53_, if_true, if_false, ite_true, ite_false]; done))) (by first | rfl | (unfold m_X0_isBreach; first | rfl | (rw [if_pos h1_, if_neg h2_, if_pos h54_, if_neg h52_, if_neg h39_, if_neg h42_, if_neg h44_, if_neg h45_, if_neg h47_, if_neg h53_]; done) | (rw [if_pos h1_, if_neg h2_, if_pos h54_, if_neg h52_, if_neg h39_, if_neg h42_, if_neg h44_, if_neg h45_, if_neg h47_, if_neg h53_]; rfl) | (simp only [h1_, h2_, h54_, h52_, h39_, h42_, h44_, h45_, h47_, h53_, if_true, if_false, ite_true, ite_false]; done)))) dX0_isBreach_218
          refine pk_tableOut (tgt := 219) C dX0_isBreach_37 (sw_7 h39_ h42_ h44_ h45_ h47_ h52_ h53_ h54_) (by decide) ?_
          refine pk_iconst (v := 0) C dX0_isBreach_219 (by decide) (pc2 := 220) rfl ?_
          exact pr_int (ty := .boolean) C hE rfl rfl (po_d_rfl (by first | rfl | (unfold m_X0_isBreach; first | rfl | (rw [if_pos h1_, if_neg h2_, if_neg h54_, if_neg h52_, if_neg h39_, if_neg h42_, if_neg h44_, if_neg h45_, if_neg h47_, if_neg h53_]; done) | (rw [if_pos h1_, if_neg h2_, if_neg h54_, if_neg h52_, if_neg h39_, if_neg h42_, if_neg h44_, if_neg h45_, if_neg h47_, if_neg h53_]; rfl) | (simp only [h1_, h2_, h54_, h52_, h39_, h42_, h44_, h45_, h47_, h53_, if_true, if_false, ite_true, ite_false]; done))) (by first | rfl | (unfold m_X0_isBreach; first | rfl | (rw [if_pos h1_, if_neg h2_, if_neg h54_, if_neg h52_, if_neg h39_, if_neg h42_, if_neg h44_, if_neg h45_, if_neg h47_, if_neg h53_]; done) | (rw [if_pos h1_, if_neg h2_, if_neg h54_, if_neg h52_, if_neg h39_, if_neg h42_, if_neg h44_, if_neg h45_, if_neg h47_, if_neg h53_]; rfl) | (simp only [h1_, h2_, h54_, h52_, h39_, h42_, h44_, h45_, h47_, h53_, if_true, if_false, ite_true, ite_false]; done)))) dX0_isBreach_220
        ·
          refine pk_iconst (v := 1) C dX0_isBreach_31 (by decide) (pc2 := 32) rfl ?_
          exact pr_int (ty := .boolean) C hE rfl rfl (po_d_rfl (by first | rfl | (unfold m_X0_isBreach; first | rfl | (rw [if_pos h1_, if_neg h2_, if_neg h20_, if_neg h38_]; done) | (rw [if_pos h1_, if_neg h2_, if_neg h20_, if_neg h38_]; rfl) | (simp only [h1_, h2_, h20_, h38_, if_true, if_false, ite_true, ite_false]; done))) (by first | rfl | (unfold m_X0_isBreach; first | rfl | (rw [if_pos h1_, if_neg h2_, if_neg h20_, if_neg h38_]; done) | (rw [if_pos h1_, if_neg h2_, if_neg h20_, if_neg h38_]; rfl) | (simp only [h1_, h2_, h20_, h38_, if_true, if_false, ite_true, ite_false]; done)))) dX0_isBreach_32
theorem zb_m_X0_isBreach (c : CR) (t : SR) (ev : ER) (mr : Int64) : (m_X0_isBreach c t ev mr) = 0 ∨ (m_X0_isBreach c t ev mr) = 1 := by
  unfold m_X0_isBreach
  repeat (first | split | (exact Or.inl rfl) | (exact Or.inr rfl) | assumption)
def m_X0_apply (c : CR) (t : SR) (ev : ER) : CR :=
  if (E_ki ev) = 0 then (C_s_co c ((C_co c) + (E_am ev))) else if (E_ki ev) = 1 then (C_s_li (C_s_rs c (E_am ev)) (E_nu ev)) else if (E_ki ev) = 2 then (m_X0_revalue c t (E_am ev)) else if (E_ki ev) = 3 then (m_X0_impair c t ((m_X0_book c t) - (E_am ev))) else if (E_ki ev) = 4 then c else if (E_ki ev) = 5 then (m_X0_sell c t (E_nu ev)) else if (E_ki ev) = 6 then (C_s_he c 1) else (C_s_he c 0)
set_option maxRecDepth 100000 in
set_option maxHeartbeats 4000000 in
theorem c_X0_apply (l : Launch) (G : pw_G) (L : List Nat) (F : Nat → va_E) (a b : Nat) (c : CR) (t : SR) (e : Nat) (ev : ER) (heL : e ∈ L) (heF : F e = cE ev) : PM l yX0_apply wsX0_apply ⟨3, 0, 0, 61⟩ G [.ref a, .ref e] [(a, cC b c), (b, cS t)] L F 0 0 (po_d none [(a, cC b (m_X0_apply c t ev)), (b, cS t)] L F) := by
  refine pm_entry (by decide) rfl rfl (Nat.le_of_ble_eq_true rfl) ?_
  intro Z Q C hl0 hG0 hnm hE
  subst hl0
  subst hG0
  have i1_ : ∀ w ∈ wsX10, w ∈ wsX0_apply := by decide +kernel
  have i0_ : ∀ w ∈ wsX00, w ∈ wsX0_apply := by decide +kernel
  have w0_ : Cond.fieldLink RX0 89 "AgedAssets$Event" "kind" "I" ∈ wsX0_apply := by decide +kernel
  have w1_ : Cond.fieldLink RX0 33 "AgedAssets$Course" "cost" "J" ∈ wsX0_apply := by decide +kernel
  have w2_ : Cond.fieldLink RX0 101 "AgedAssets$Event" "amount" "J" ∈ wsX0_apply := by decide +kernel
  have w3_ : Cond.fieldLink RX0 46 "AgedAssets$Course" "residual" "J" ∈ wsX0_apply := by decide +kernel
  have w4_ : Cond.fieldLink RX0 104 "AgedAssets$Event" "number" "I" ∈ wsX0_apply := by decide +kernel
  have w5_ : Cond.fieldLink RX0 50 "AgedAssets$Course" "restOfLife" "I" ∈ wsX0_apply := by decide +kernel
  have w6_ : Cond.fieldLink RX0 53 "AgedAssets$Course" "held" "Z" ∈ wsX0_apply := by decide +kernel
  show PW Z [(a, cC b c), (b, cS t)] L F 0 0 Q 0 [(0, .ref a), (1, .ref e)] []
  refine pk_aload_n C 1 dX0_apply_0 rfl rfl (pc2 := 1) rfl ?_
  refine pk_get (v := .int (E_ki ev)) C i1_ (pw_atP heL heF) (ci := 1) rfl 2 (by decide) w0_ rfl rfl dX0_apply_1 (pc2 := 4) rfl ?_
  by_cases h1_ : (E_ki ev) = 0
  ·
    refine pk_tableIn (tgt := 44) C dX0_apply_4 (by rw [h1_]; decide) (by rw [h1_]; decide) (by rw [h1_]; rfl) (by decide) ?_
    refine pk_aload_n C 0 dX0_apply_44 rfl rfl (pc2 := 45) rfl ?_
    refine pk_dup C dX0_apply_45 rfl (pc2 := 46) rfl ?_
    refine pk_get (v := .long (C_co c)) C i0_ (pw_atX 0 rfl) (ci := 0) rfl 3 (by decide) w1_ rfl rfl dX0_apply_46 (pc2 := 49) rfl ?_
    refine pk_aload_n C 1 dX0_apply_49 rfl rfl (pc2 := 50) rfl ?_
    refine pk_get (v := .long (E_am ev)) C i1_ (pw_atP heL heF) (ci := 1) rfl 3 (by decide) w2_ rfl rfl dX0_apply_50 (pc2 := 53) rfl ?_
    refine pk_ladd C dX0_apply_53 (pc2 := 54) rfl ?_
    refine pk_putX (X' := [(a, cC b (C_s_co c ((C_co c) + (E_am ev)))), (b, cS t)]) C i0_ tyX0_ok nmX0 0 rfl (ci := 0) rfl 3 (by decide) w1_ rfl rfl rfl rfl (by first | rfl | decide) (by decide) rfl dX0_apply_54 (pc2 := 57) rfl ?_
    refine pk_goto (tgt := 151) C dX0_apply_57 (by decide) ?_
    exact pr_void C hE (po_d_rfl rfl (by first | rfl | (unfold m_X0_apply; first | rfl | (rw [if_pos h1_]; done) | (rw [if_pos h1_]; rfl) | (simp only [h1_, if_true, if_false, ite_true, ite_false]; done)))) dX0_apply_151
  by_cases h2_ : (E_ki ev) = 1
  ·
    refine pk_tableIn (tgt := 60) C dX0_apply_4 (by rw [h2_]; decide) (by rw [h2_]; decide) (by rw [h2_]; rfl) (by decide) ?_
    refine pk_aload_n C 0 dX0_apply_60 rfl rfl (pc2 := 61) rfl ?_
    refine pk_aload_n C 1 dX0_apply_61 rfl rfl (pc2 := 62) rfl ?_
    refine pk_get (v := .long (E_am ev)) C i1_ (pw_atP heL heF) (ci := 1) rfl 3 (by decide) w2_ rfl rfl dX0_apply_62 (pc2 := 65) rfl ?_
    refine pk_putX (X' := [(a, cC b (C_s_rs c (E_am ev))), (b, cS t)]) C i0_ tyX0_ok nmX0 0 rfl (ci := 0) rfl 7 (by decide) w3_ rfl rfl rfl rfl (by first | rfl | decide) (by decide) rfl dX0_apply_65 (pc2 := 68) rfl ?_
    refine pk_aload_n C 0 dX0_apply_68 rfl rfl (pc2 := 69) rfl ?_
    refine pk_aload_n C 1 dX0_apply_69 rfl rfl (pc2 := 70) rfl ?_
    refine pk_get (v := .int (E_nu ev)) C i1_ (pw_atP heL heF) (ci := 1) rfl 4 (by decide) w4_ rfl rfl dX0_apply_70 (pc2 := 73) rfl ?_
    refine pk_putX (X' := [(a, cC b (C_s_li (C_s_rs c (E_am ev)) (E_nu ev))), (b, cS t)]) C i0_ tyX0_ok nmX0 0 rfl (ci := 0) rfl 8 (by decide) w5_ rfl rfl rfl rfl (by first | rfl | decide) (by decide) rfl dX0_apply_73 (pc2 := 76) rfl ?_
    refine pk_goto (tgt := 151) C dX0_apply_76 (by decide) ?_
    exact pr_void C hE (po_d_rfl rfl (by first | rfl | (unfold m_X0_apply; first | rfl | (rw [if_neg h1_, if_pos h2_]; done) | (rw [if_neg h1_, if_pos h2_]; rfl) | (simp only [h1_, h2_, if_true, if_false, ite_true, ite_false]; done)))) dX0_apply_151
  by_cases h3_ : (E_ki ev) = 2
  ·
    refine pk_tableIn (tgt := 79) C dX0_apply_4 (by rw [h3_]; decide) (by rw [h3_]; decide) (by rw [h3_]; rfl) (by decide) ?_
    refine pk_aload_n C 0 dX0_apply_79 rfl rfl (pc2 := 80) rfl ?_
    refine pk_aload_n C 1 dX0_apply_80 rfl rfl (pc2 := 81) rfl ?_
    refine pk_get (v := .long (E_am ev)) C i1_ (pw_atP heL heF) (ci := 1) rfl 3 (by decide) w2_ rfl rfl dX0_apply_81 (pc2 := 84) rfl ?_
    refine pk_dV (cx := [(a, cC b c), (b, cS t)]) (wr := []) (X2 := [(a, cC b (m_X0_revalue c t (E_am ev))), (b, cS t)]) (st := []) (st2 := []) (As := [.long (E_am ev)]) C (c_X0_revalue (zl Z) (zG Z) L F a b c t (E_am ev)) gX0_apply_X0_revalue rfl rfl rfl 1 (by decide +kernel) (by decide) (pw_atX 0 rfl) rfl rfl rfl (by decide) (by decide) [0, 1] [] [0, 1] rfl rfl rfl rfl (by decide) rfl rfl dX0_apply_84 (pc2 := 87) rfl rfl ?_
    refine pk_goto (tgt := 151) C dX0_apply_87 (by decide) ?_
    exact pr_void C hE (po_d_rfl rfl (by first | rfl | (unfold m_X0_apply; first | rfl | (rw [if_neg h1_, if_neg h2_, if_pos h3_]; done) | (rw [if_neg h1_, if_neg h2_, if_pos h3_]; rfl) | (simp only [h1_, h2_, h3_, if_true, if_false, ite_true, ite_false]; done)))) dX0_apply_151
  by_cases h4_ : (E_ki ev) = 3
  ·
    refine pk_tableIn (tgt := 90) C dX0_apply_4 (by rw [h4_]; decide) (by rw [h4_]; decide) (by rw [h4_]; rfl) (by decide) ?_
    refine pk_aload_n C 0 dX0_apply_90 rfl rfl (pc2 := 91) rfl ?_
    refine pk_aload_n C 0 dX0_apply_91 rfl rfl (pc2 := 92) rfl ?_
    refine pk_dV (cx := [(a, cC b c), (b, cS t)]) (wr := []) (X2 := [(a, cC b c), (b, cS t)]) (st := [.ref a]) (st2 := [.long (m_X0_book c t), .ref a]) (As := []) C (c_X0_book (zl Z) (zG Z) L F a b c t) gX0_apply_X0_book rfl rfl rfl 0 (by decide +kernel) (by decide) (pw_atX 0 rfl) rfl rfl rfl (by decide) (by decide) [0, 1] [] [0, 1] rfl rfl rfl rfl (by decide) rfl rfl dX0_apply_92 (pc2 := 95) rfl rfl ?_
    refine pk_aload_n C 1 dX0_apply_95 rfl rfl (pc2 := 96) rfl ?_
    refine pk_get (v := .long (E_am ev)) C i1_ (pw_atP heL heF) (ci := 1) rfl 3 (by decide) w2_ rfl rfl dX0_apply_96 (pc2 := 99) rfl ?_
    refine pk_lsub C dX0_apply_99 (pc2 := 100) rfl ?_
    refine pk_dV (cx := [(a, cC b c), (b, cS t)]) (wr := []) (X2 := [(a, cC b (m_X0_impair c t ((m_X0_book c t) - (E_am ev)))), (b, cS t)]) (st := []) (st2 := []) (As := [.long ((m_X0_book c t) - (E_am ev))]) C (c_X0_impair (zl Z) (zG Z) L F a b c t ((m_X0_book c t) - (E_am ev))) gX0_apply_X0_impair rfl rfl rfl 1 (by decide +kernel) (by decide) (pw_atX 0 rfl) rfl rfl rfl (by decide) (by decide) [0, 1] [] [0, 1] rfl rfl rfl rfl (by decide) rfl rfl dX0_apply_100 (pc2 := 103) rfl rfl ?_
    refine pk_goto (tgt := 151) C dX0_apply_103 (by decide) ?_
    exact pr_void C hE (po_d_rfl rfl (by first | rfl | (unfold m_X0_apply; first | rfl | (rw [if_neg h1_, if_neg h2_, if_neg h3_, if_pos h4_]; done) | (rw [if_neg h1_, if_neg h2_, if_neg h3_, if_pos h4_]; rfl) | (simp only [h1_, h2_, h3_, h4_, if_true, if_false, ite_true, ite_false]; done)))) dX0_apply_151
  by_cases h5_ : (E_ki ev) = 4
  ·
    refine pk_tableIn (tgt := 106) C dX0_apply_4 (by rw [h5_]; decide) (by rw [h5_]; decide) (by rw [h5_]; rfl) (by decide) ?_
    refine pk_aload_n C 0 dX0_apply_106 rfl rfl (pc2 := 107) rfl ?_
    refine pk_aload_n C 1 dX0_apply_107 rfl rfl (pc2 := 108) rfl ?_
    refine pk_get (v := .long (E_am ev)) C i1_ (pw_atP heL heF) (ci := 1) rfl 3 (by decide) w2_ rfl rfl dX0_apply_108 (pc2 := 111) rfl ?_
    refine pk_aload_n C 0 dX0_apply_111 rfl rfl (pc2 := 112) rfl ?_
    refine pk_dV (cx := [(a, cC b c), (b, cS t)]) (wr := []) (X2 := [(a, cC b c), (b, cS t)]) (st := [.long (E_am ev), .ref a]) (st2 := [.long (m_X0_book c t), .long (E_am ev), .ref a]) (As := []) C (c_X0_book (zl Z) (zG Z) L F a b c t) gX0_apply_X0_book rfl rfl rfl 0 (by decide +kernel) (by decide) (pw_atX 0 rfl) rfl rfl rfl (by decide) (by decide) [0, 1] [] [0, 1] rfl rfl rfl rfl (by decide) rfl rfl dX0_apply_112 (pc2 := 115) rfl rfl ?_
    refine pk_lsub C dX0_apply_115 (pc2 := 116) rfl ?_
    refine pk_dV (cx := [(a, cC b c), (b, cS t)]) (wr := []) (X2 := [(a, cC b c), (b, cS t)]) (st := []) (st2 := []) (As := [.long ((E_am ev) - (m_X0_book c t))]) C (c_X0_restore (zl Z) (zG Z) L F a b c t ((E_am ev) - (m_X0_book c t))) gX0_apply_X0_restore rfl rfl rfl 1 (by decide +kernel) (by decide) (pw_atX 0 rfl) rfl rfl rfl (by decide) (by decide) [0, 1] [] [0, 1] rfl rfl rfl rfl (by decide) rfl rfl dX0_apply_116 (pc2 := 119) rfl rfl ?_
    refine pk_goto (tgt := 151) C dX0_apply_119 (by decide) ?_
    exact pr_void C hE (po_d_rfl rfl (by first | rfl | (unfold m_X0_apply; first | rfl | (rw [if_neg h1_, if_neg h2_, if_neg h3_, if_neg h4_, if_pos h5_]; done) | (rw [if_neg h1_, if_neg h2_, if_neg h3_, if_neg h4_, if_pos h5_]; rfl) | (simp only [h1_, h2_, h3_, h4_, h5_, if_true, if_false, ite_true, ite_false]; done)))) dX0_apply_151
  by_cases h6_ : (E_ki ev) = 5
  ·
    refine pk_tableIn (tgt := 122) C dX0_apply_4 (by rw [h6_]; decide) (by rw [h6_]; decide) (by rw [h6_]; rfl) (by decide) ?_
    refine pk_aload_n C 0 dX0_apply_122 rfl rfl (pc2 := 123) rfl ?_
    refine pk_aload_n C 1 dX0_apply_123 rfl rfl (pc2 := 124) rfl ?_
    refine pk_get (v := .int (E_nu ev)) C i1_ (pw_atP heL heF) (ci := 1) rfl 4 (by decide) w4_ rfl rfl dX0_apply_124 (pc2 := 127) rfl ?_
    refine pk_dV (cx := [(a, cC b c), (b, cS t)]) (wr := []) (X2 := [(a, cC b (m_X0_sell c t (E_nu ev))), (b, cS t)]) (st := []) (st2 := []) (As := [.int (E_nu ev)]) C (c_X0_sell (zl Z) (zG Z) L F a b c t (E_nu ev)) gX0_apply_X0_sell rfl rfl rfl 1 (by decide +kernel) (by decide) (pw_atX 0 rfl) rfl rfl rfl (by decide) (by decide) [0, 1] [] [0, 1] rfl rfl rfl rfl (by decide) rfl rfl dX0_apply_127 (pc2 := 130) rfl rfl ?_
    refine pk_goto (tgt := 151) C dX0_apply_130 (by decide) ?_
    exact pr_void C hE (po_d_rfl rfl (by first | rfl | (unfold m_X0_apply; first | rfl | (rw [if_neg h1_, if_neg h2_, if_neg h3_, if_neg h4_, if_neg h5_, if_pos h6_]; done) | (rw [if_neg h1_, if_neg h2_, if_neg h3_, if_neg h4_, if_neg h5_, if_pos h6_]; rfl) | (simp only [h1_, h2_, h3_, h4_, h5_, h6_, if_true, if_false, ite_true, ite_false]; done)))) dX0_apply_151
  refine pk_tableOut (tgt := 133) C dX0_apply_4 (sw_5 h1_ h2_ h3_ h4_ h5_ h6_) (by decide) ?_
  refine pk_aload_n C 0 dX0_apply_133 rfl rfl (pc2 := 134) rfl ?_
  refine pk_aload_n C 1 dX0_apply_134 rfl rfl (pc2 := 135) rfl ?_
  refine pk_get (v := .int (E_ki ev)) C i1_ (pw_atP heL heF) (ci := 1) rfl 2 (by decide) w0_ rfl rfl dX0_apply_135 (pc2 := 138) rfl ?_
  refine pk_bipush (v := 6) C dX0_apply_138 (by decide) (pc2 := 140) rfl ?_
  refine pk_icmp_ne (tgt := 147) C dX0_apply_140 (by decide) (pc2 := 143) rfl (fun h7_ => ?_) (fun h7_ => ?_)
  ·
    refine pk_iconst (v := 0) C dX0_apply_147 (by decide) (pc2 := 148) rfl ?_
    refine pk_putX (X' := [(a, cC b (C_s_he c 0)), (b, cS t)]) C i0_ tyX0_ok nmX0 0 rfl (ci := 0) rfl 9 (by decide) w6_ rfl rfl rfl rfl rfl (by decide) rfl dX0_apply_148 (pc2 := 151) rfl ?_
    exact pr_void C hE (po_d_rfl rfl (by first | rfl | (unfold m_X0_apply; first | rfl | (rw [if_neg h1_, if_neg h2_, if_neg h3_, if_neg h4_, if_neg h5_, if_neg h6_, if_neg h7_]; done) | (rw [if_neg h1_, if_neg h2_, if_neg h3_, if_neg h4_, if_neg h5_, if_neg h6_, if_neg h7_]; rfl) | (simp only [h1_, h2_, h3_, h4_, h5_, h6_, h7_, if_true, if_false, ite_true, ite_false]; done)))) dX0_apply_151
  ·
    refine pk_iconst (v := 1) C dX0_apply_143 (by decide) (pc2 := 144) rfl ?_
    refine pk_goto (tgt := 148) C dX0_apply_144 (by decide) ?_
    refine pk_putX (X' := [(a, cC b (C_s_he c 1)), (b, cS t)]) C i0_ tyX0_ok nmX0 0 rfl (ci := 0) rfl 9 (by decide) w6_ rfl rfl rfl rfl rfl (by decide) rfl dX0_apply_148 (pc2 := 151) rfl ?_
    exact pr_void C hE (po_d_rfl rfl (by first | rfl | (unfold m_X0_apply; first | rfl | (rw [if_neg h1_, if_neg h2_, if_neg h3_, if_neg h4_, if_neg h5_, if_neg h6_, if_pos h7_]; done) | (rw [if_neg h1_, if_neg h2_, if_neg h3_, if_neg h4_, if_neg h5_, if_neg h6_, if_pos h7_]; rfl) | (simp only [h1_, h2_, h3_, h4_, h5_, h6_, h7_, if_true, if_false, ite_true, ite_false]; done)))) dX0_apply_151
def m_X0_meet (c : CR) (t : SR) (ev : ER) (mr : Int64) : CR :=
  if (m_X0_isBreach c t ev mr) = 0 then if (E_ki ev) = 6 then (m_X0_apply c t ev) else if (E_ki ev) = 7 then (m_X0_apply c t ev) else (m_X0_apply c t ev) else (C_s_br c 1)
set_option maxRecDepth 100000 in
set_option maxHeartbeats 4000000 in
theorem c_X0_meet (l : Launch) (G : pw_G) (L : List Nat) (F : Nat → va_E) (a b : Nat) (c : CR) (t : SR) (e : Nat) (ev : ER) (heL : e ∈ L) (heF : F e = cE ev) (mr : Int64) : PM l yX0_meet wsX0_meet ⟨4, 0, 0, 82⟩ G [.ref a, .ref e, .long mr] [(a, cC b c), (b, cS t)] L F 0 0 (po_d none [(a, cC b (m_X0_meet c t ev mr)), (b, cS t)] L F) := by
  refine pm_entry (by decide) rfl rfl (Nat.le_of_ble_eq_true rfl) ?_
  intro Z Q C hl0 hG0 hnm hE
  subst hl0
  subst hG0
  have i1_ : ∀ w ∈ wsX10, w ∈ wsX0_meet := by decide +kernel
  have i0_ : ∀ w ∈ wsX00, w ∈ wsX0_meet := by decide +kernel
  have w0_ : Cond.fieldLink RX0 89 "AgedAssets$Event" "kind" "I" ∈ wsX0_meet := by decide +kernel
  have w1_ : Cond.fieldLink RX0 60 "AgedAssets$Course" "breached" "Z" ∈ wsX0_meet := by decide +kernel
  show PW Z [(a, cC b c), (b, cS t)] L F 0 0 Q 0 [(0, .ref a), (1, .ref e), (2, .long mr)] []
  refine pk_aload_n C 0 dX0_meet_0 rfl rfl (pc2 := 1) rfl ?_
  refine pk_aload_n C 1 dX0_meet_1 rfl rfl (pc2 := 2) rfl ?_
  refine pk_lload_n C 2 dX0_meet_2 rfl rfl (pc2 := 3) rfl ?_
  refine pk_dV (cx := [(a, cC b c), (b, cS t)]) (wr := []) (X2 := [(a, cC b c), (b, cS t)]) (st := []) (st2 := [.int (m_X0_isBreach c t ev mr)]) (As := [.ref e, .long mr]) C (c_X0_isBreach (zl Z) (zG Z) L F a b c t e ev heL heF mr) gX0_meet_X0_isBreach rfl rfl rfl 2 (by decide +kernel) (by decide) (pw_atX 0 rfl) rfl rfl rfl (by decide) (by decide) [0, 1] [] [0, 1] rfl rfl rfl rfl (by decide) rfl rfl dX0_meet_3 (pc2 := 6) rfl rfl ?_
  refine pk_if_eq (tgt := 15) C dX0_meet_6 (by decide) (pc2 := 9) rfl (fun h1_ => ?_) (fun h1_ => ?_)
  ·
    refine pk_aload_n C 0 dX0_meet_15 rfl rfl (pc2 := 16) rfl ?_
    refine pk_aload_n C 1 dX0_meet_16 rfl rfl (pc2 := 17) rfl ?_
    refine pk_dV (cx := [(a, cC b c), (b, cS t)]) (wr := []) (X2 := [(a, cC b (m_X0_apply c t ev)), (b, cS t)]) (st := []) (st2 := []) (As := [.ref e]) C (c_X0_apply (zl Z) (zG Z) L F a b c t e ev heL heF) gX0_meet_X0_apply rfl rfl rfl 1 (by decide +kernel) (by decide) (pw_atX 0 rfl) rfl rfl rfl (by decide) (by decide) [0, 1] [] [0, 1] rfl rfl rfl rfl (by decide) rfl rfl dX0_meet_17 (pc2 := 20) rfl rfl ?_
    refine pk_aload_n C 1 dX0_meet_20 rfl rfl (pc2 := 21) rfl ?_
    refine pk_get (v := .int (E_ki ev)) C i1_ (pw_atP heL heF) (ci := 1) rfl 2 (by decide) w0_ rfl rfl dX0_meet_21 (pc2 := 24) rfl ?_
    refine pk_bipush (v := 6) C dX0_meet_24 (by decide) (pc2 := 26) rfl ?_
    refine pk_icmp_eq (tgt := 42) C dX0_meet_26 (by decide) (pc2 := 29) rfl (fun h2_ => ?_) (fun h2_ => ?_)
    ·
      exact pr_void C hE (po_d_rfl rfl (by first | rfl | (unfold m_X0_meet; first | rfl | (rw [if_pos h1_, if_pos h2_]; done) | (rw [if_pos h1_, if_pos h2_]; rfl) | (simp only [h1_, h2_, if_true, if_false, ite_true, ite_false]; done)))) dX0_meet_42
    ·
      refine pk_aload_n C 1 dX0_meet_29 rfl rfl (pc2 := 30) rfl ?_
      refine pk_get (v := .int (E_ki ev)) C i1_ (pw_atP heL heF) (ci := 1) rfl 2 (by decide) w0_ rfl rfl dX0_meet_30 (pc2 := 33) rfl ?_
      refine pk_bipush (v := 7) C dX0_meet_33 (by decide) (pc2 := 35) rfl ?_
      refine pk_icmp_eq (tgt := 42) C dX0_meet_35 (by decide) (pc2 := 38) rfl (fun h3_ => ?_) (fun h3_ => ?_)
      ·
        exact pr_void C hE (po_d_rfl rfl (by first | rfl | (unfold m_X0_meet; first | rfl | (rw [if_pos h1_, if_neg h2_, if_pos h3_]; done) | (rw [if_pos h1_, if_neg h2_, if_pos h3_]; rfl) | (simp only [h1_, h2_, h3_, if_true, if_false, ite_true, ite_false]; done)))) dX0_meet_42
      ·
        refine pk_aload_n C 0 dX0_meet_38 rfl rfl (pc2 := 39) rfl ?_
        refine pk_dV (cx := [(a, cC b (m_X0_apply c t ev)), (b, cS t)]) (wr := []) (X2 := [(a, cC b (m_X0_apply c t ev)), (b, cS t)]) (st := []) (st2 := []) (As := []) C (c_X0_beginStretch (zl Z) (zG Z) L F a b (m_X0_apply c t ev) t) gX0_meet_X0_beginStretch rfl rfl rfl 0 (by decide +kernel) (by decide) (pw_atX 0 rfl) rfl rfl rfl (by decide) (by decide) [0, 1] [] [0, 1] rfl rfl rfl rfl (by decide) rfl rfl dX0_meet_39 (pc2 := 42) rfl rfl ?_
        exact pr_void C hE (po_d_rfl rfl (by first | rfl | (unfold m_X0_meet; first | rfl | (rw [if_pos h1_, if_neg h2_, if_neg h3_]; done) | (rw [if_pos h1_, if_neg h2_, if_neg h3_]; rfl) | (simp only [h1_, h2_, h3_, if_true, if_false, ite_true, ite_false]; done)))) dX0_meet_42
  ·
    refine pk_aload_n C 0 dX0_meet_9 rfl rfl (pc2 := 10) rfl ?_
    refine pk_iconst (v := 1) C dX0_meet_10 (by decide) (pc2 := 11) rfl ?_
    refine pk_putX (X' := [(a, cC b (C_s_br c 1)), (b, cS t)]) C i0_ tyX0_ok nmX0 0 rfl (ci := 0) rfl 11 (by decide) w1_ rfl rfl rfl rfl rfl (by decide) rfl dX0_meet_11 (pc2 := 14) rfl ?_
    exact pr_void C hE (po_d_rfl rfl (by first | rfl | (unfold m_X0_meet; first | rfl | (rw [if_neg h1_]; done) | (rw [if_neg h1_]; rfl) | (simp only [h1_, if_true, if_false, ite_true, ite_false]; done)))) dX0_meet_14
def m_X0_chargeMonth (c : CR) (t : SR) (us : Int32) : CR × SR :=
  if (C_he c) = 0 then if (C_go c) = 0 then if (C_li c) = 0 then ((C_s_lc c 0), t) else if (C_me c) = 1 then ((C_s_ac (C_s_lc (C_s_cu (C_s_li (C_s_al (C_s_lc c 0) ((C_al (C_s_lc c 0)) + (m_X0_decliningCharge (C_s_lc c 0) t))) ((C_li (C_s_lc c 0)) - 1)) ((C_cu (C_s_lc c 0)) + (Int32.toInt64 us))) (m_X0_decliningCharge (C_s_lc c 0) t)) ((C_ac (C_s_lc c 0)) + (m_X0_decliningCharge (C_s_lc c 0) t))), t) else ((C_s_ac (C_s_lc (C_s_cu (C_s_li (C_s_al c ((C_al c) + ((m_X3_nextCharge t (C_me c) us).1))) ((C_li c) - 1)) ((C_cu c) + (Int32.toInt64 us))) ((m_X3_nextCharge t (C_me c) us).1)) ((C_ac c) + ((m_X3_nextCharge t (C_me c) us).1))), ((m_X3_nextCharge t (C_me c) us).2)) else ((C_s_lc c 0), t) else ((C_s_lc c 0), t)
set_option maxRecDepth 100000 in
set_option maxHeartbeats 4000000 in
theorem c_X0_chargeMonth (l : Launch) (G : pw_G) (L : List Nat) (F : Nat → va_E) (a b : Nat) (c : CR) (t : SR) (us : Int32) : PM l yX0_chargeMonth wsX0_chargeMonth ⟨3, 0, 0, 68⟩ G [.ref a, .int us] [(a, cC b (C_s_lc c 0)), (b, cS t)] L F 0 0 (po_d none [(a, cC b ((m_X0_chargeMonth c t us).1)), (b, cS ((m_X0_chargeMonth c t us).2))] L F) := by
  refine pm_entry (by decide) rfl rfl (Nat.le_of_ble_eq_true rfl) ?_
  intro Z Q C hl0 hG0 hnm hE
  subst hl0
  subst hG0
  have i0_ : ∀ w ∈ wsX00, w ∈ wsX0_chargeMonth := by decide +kernel
  have w0_ : Cond.fieldLink RX0 66 "AgedAssets$Course" "lastCharge" "J" ∈ wsX0_chargeMonth := by decide +kernel
  have w1_ : Cond.fieldLink RX0 53 "AgedAssets$Course" "held" "Z" ∈ wsX0_chargeMonth := by decide +kernel
  have w2_ : Cond.fieldLink RX0 57 "AgedAssets$Course" "gone" "Z" ∈ wsX0_chargeMonth := by decide +kernel
  have w3_ : Cond.fieldLink RX0 50 "AgedAssets$Course" "restOfLife" "I" ∈ wsX0_chargeMonth := by decide +kernel
  have w4_ : Cond.fieldLink RX0 24 "AgedAssets$Course" "method" "I" ∈ wsX0_chargeMonth := by decide +kernel
  have w5_ : Cond.fieldLink RX0 12 "AgedAssets$Course" "stretch" "LAgedAssets$Stretch;" ∈ wsX0_chargeMonth := by decide +kernel
  have w6_ : Cond.fieldLink RX0 63 "AgedAssets$Course" "chargedUnits" "J" ∈ wsX0_chargeMonth := by decide +kernel
  have w7_ : Cond.fieldLink RX0 34 "AgedAssets$Course" "allowance" "J" ∈ wsX0_chargeMonth := by decide +kernel
  have w8_ : Cond.fieldLink RX0 69 "AgedAssets$Course" "allCharges" "J" ∈ wsX0_chargeMonth := by decide +kernel
  show PW Z [(a, cC b (C_s_lc c 0)), (b, cS t)] L F 0 0 Q 0 [(0, .ref a), (1, .int us)] []
  refine pk_aload_n C 0 dX0_chargeMonth_0 rfl rfl (pc2 := 1) rfl ?_
  refine pk_lconst (v := 0) C dX0_chargeMonth_1 (by decide) (pc2 := 2) rfl ?_
  refine pk_putX (X' := [(a, cC b (C_s_lc c 0)), (b, cS t)]) C i0_ tyX0_ok nmX0 0 rfl (ci := 0) rfl 13 (by decide) w0_ rfl rfl rfl rfl (by first | rfl | decide) (by decide) rfl dX0_chargeMonth_2 (pc2 := 5) rfl ?_
  refine pk_aload_n C 0 dX0_chargeMonth_5 rfl rfl (pc2 := 6) rfl ?_
  refine pk_get (v := .int (C_he c)) C i0_ (pw_atX 0 rfl) (ci := 0) rfl 9 (by decide) w1_ rfl rfl dX0_chargeMonth_6 (pc2 := 9) rfl ?_
  refine pk_if_ne (tgt := 26) C dX0_chargeMonth_9 (by decide) (pc2 := 12) rfl (fun h1_ => ?_) (fun h1_ => ?_)
  ·
    exact pr_void C hE (po_d_rfl rfl (by first | rfl | (unfold m_X0_chargeMonth; first | rfl | (rw [if_neg h1_]; done) | (rw [if_neg h1_]; rfl) | (simp only [h1_, if_true, if_false, ite_true, ite_false]; done)))) dX0_chargeMonth_26
  ·
    refine pk_aload_n C 0 dX0_chargeMonth_12 rfl rfl (pc2 := 13) rfl ?_
    refine pk_get (v := .int (C_go c)) C i0_ (pw_atX 0 rfl) (ci := 0) rfl 10 (by decide) w2_ rfl rfl dX0_chargeMonth_13 (pc2 := 16) rfl ?_
    refine pk_if_ne (tgt := 26) C dX0_chargeMonth_16 (by decide) (pc2 := 19) rfl (fun h2_ => ?_) (fun h2_ => ?_)
    ·
      exact pr_void C hE (po_d_rfl rfl (by first | rfl | (unfold m_X0_chargeMonth; first | rfl | (rw [if_pos h1_, if_neg h2_]; done) | (rw [if_pos h1_, if_neg h2_]; rfl) | (simp only [h1_, h2_, if_true, if_false, ite_true, ite_false]; done)))) dX0_chargeMonth_26
    ·
      refine pk_aload_n C 0 dX0_chargeMonth_19 rfl rfl (pc2 := 20) rfl ?_
      refine pk_get (v := .int (C_li c)) C i0_ (pw_atX 0 rfl) (ci := 0) rfl 8 (by decide) w3_ rfl rfl dX0_chargeMonth_20 (pc2 := 23) rfl ?_
      refine pk_if_ne (tgt := 27) C dX0_chargeMonth_23 (by decide) (pc2 := 26) rfl (fun h3_ => ?_) (fun h3_ => ?_)
      ·
        refine pk_aload_n C 0 dX0_chargeMonth_27 rfl rfl (pc2 := 28) rfl ?_
        refine pk_aload_n C 0 dX0_chargeMonth_28 rfl rfl (pc2 := 29) rfl ?_
        refine pk_get (v := .int (C_me c)) C i0_ (pw_atX 0 rfl) (ci := 0) rfl 1 (by decide) w4_ rfl rfl dX0_chargeMonth_29 (pc2 := 32) rfl ?_
        refine pk_iconst (v := 1) C dX0_chargeMonth_32 (by decide) (pc2 := 33) rfl ?_
        refine pk_icmp_ne (tgt := 43) C dX0_chargeMonth_33 (by decide) (pc2 := 36) rfl (fun h4_ => ?_) (fun h4_ => ?_)
        ·
          refine pk_aload_n C 0 dX0_chargeMonth_43 rfl rfl (pc2 := 44) rfl ?_
          refine pk_get (v := .ref b) C i0_ (pw_atX 0 rfl) (ci := 0) rfl 0 (by decide) w5_ rfl rfl dX0_chargeMonth_44 (pc2 := 47) rfl ?_
          refine pk_aload_n C 0 dX0_chargeMonth_47 rfl rfl (pc2 := 48) rfl ?_
          refine pk_get (v := .int (C_me c)) C i0_ (pw_atX 0 rfl) (ci := 0) rfl 1 (by decide) w4_ rfl rfl dX0_chargeMonth_48 (pc2 := 51) rfl ?_
          refine pk_iload_n C 1 dX0_chargeMonth_51 rfl rfl (pc2 := 52) rfl ?_
          refine pk_dV (cx := [(b, cS t)]) (wr := [(a, cC b (C_s_lc c 0))]) (X2 := [(a, cC b (C_s_lc c 0)), (b, cS ((m_X3_nextCharge t (C_me c) us).2))]) (st := [.ref a]) (st2 := [.long ((m_X3_nextCharge t (C_me c) us).1), .ref a]) (As := [.int (C_me c), .int us]) C (c_X3_nextCharge (zl Z) (zG Z) L F b t (C_me c) us) gX0_chargeMonth_X3_nextCharge rfl rfl rfl 2 (by decide +kernel) (by decide) (pw_atX 1 rfl) rfl rfl rfl (by decide) (by decide) [1] [0] [0, 1] rfl rfl rfl rfl (by decide) rfl rfl dX0_chargeMonth_52 (pc2 := 55) rfl rfl ?_
          refine pk_putX (X' := [(a, cC b (C_s_lc c ((m_X3_nextCharge t (C_me c) us).1))), (b, cS ((m_X3_nextCharge t (C_me c) us).2))]) C i0_ tyX0_ok nmX0 0 rfl (ci := 0) rfl 13 (by decide) w0_ rfl rfl rfl rfl (by first | rfl | decide) (by decide) rfl dX0_chargeMonth_55 (pc2 := 58) rfl ?_
          refine pk_aload_n C 0 dX0_chargeMonth_58 rfl rfl (pc2 := 59) rfl ?_
          refine pk_dup C dX0_chargeMonth_59 rfl (pc2 := 60) rfl ?_
          refine pk_get (v := .int (C_li c)) C i0_ (pw_atX 0 rfl) (ci := 0) rfl 8 (by decide) w3_ rfl rfl dX0_chargeMonth_60 (pc2 := 63) rfl ?_
          refine pk_iconst (v := 1) C dX0_chargeMonth_63 (by decide) (pc2 := 64) rfl ?_
          refine pk_isub C dX0_chargeMonth_64 (pc2 := 65) rfl ?_
          refine pk_putX (X' := [(a, cC b (C_s_lc (C_s_li c ((C_li c) - 1)) ((m_X3_nextCharge t (C_me c) us).1))), (b, cS ((m_X3_nextCharge t (C_me c) us).2))]) C i0_ tyX0_ok nmX0 0 rfl (ci := 0) rfl 8 (by decide) w3_ rfl rfl rfl rfl (by first | rfl | decide) (by decide) rfl dX0_chargeMonth_65 (pc2 := 68) rfl ?_
          refine pk_aload_n C 0 dX0_chargeMonth_68 rfl rfl (pc2 := 69) rfl ?_
          refine pk_dup C dX0_chargeMonth_69 rfl (pc2 := 70) rfl ?_
          refine pk_get (v := .long (C_cu c)) C i0_ (pw_atX 0 rfl) (ci := 0) rfl 12 (by decide) w6_ rfl rfl dX0_chargeMonth_70 (pc2 := 73) rfl ?_
          refine pk_iload_n C 1 dX0_chargeMonth_73 rfl rfl (pc2 := 74) rfl ?_
          refine pk_i2l C dX0_chargeMonth_74 (pc2 := 75) rfl ?_
          refine pk_ladd C dX0_chargeMonth_75 (pc2 := 76) rfl ?_
          refine pk_putX (X' := [(a, cC b (C_s_lc (C_s_cu (C_s_li c ((C_li c) - 1)) ((C_cu c) + (Int32.toInt64 us))) ((m_X3_nextCharge t (C_me c) us).1))), (b, cS ((m_X3_nextCharge t (C_me c) us).2))]) C i0_ tyX0_ok nmX0 0 rfl (ci := 0) rfl 12 (by decide) w6_ rfl rfl rfl rfl (by first | rfl | decide) (by decide) rfl dX0_chargeMonth_76 (pc2 := 79) rfl ?_
          refine pk_aload_n C 0 dX0_chargeMonth_79 rfl rfl (pc2 := 80) rfl ?_
          refine pk_dup C dX0_chargeMonth_80 rfl (pc2 := 81) rfl ?_
          refine pk_get (v := .long (C_al c)) C i0_ (pw_atX 0 rfl) (ci := 0) rfl 4 (by decide) w7_ rfl rfl dX0_chargeMonth_81 (pc2 := 84) rfl ?_
          refine pk_aload_n C 0 dX0_chargeMonth_84 rfl rfl (pc2 := 85) rfl ?_
          refine pk_get (v := .long ((m_X3_nextCharge t (C_me c) us).1)) C i0_ (pw_atX 0 rfl) (ci := 0) rfl 13 (by decide) w0_ rfl rfl dX0_chargeMonth_85 (pc2 := 88) rfl ?_
          refine pk_ladd C dX0_chargeMonth_88 (pc2 := 89) rfl ?_
          refine pk_putX (X' := [(a, cC b (C_s_lc (C_s_cu (C_s_li (C_s_al c ((C_al c) + ((m_X3_nextCharge t (C_me c) us).1))) ((C_li c) - 1)) ((C_cu c) + (Int32.toInt64 us))) ((m_X3_nextCharge t (C_me c) us).1))), (b, cS ((m_X3_nextCharge t (C_me c) us).2))]) C i0_ tyX0_ok nmX0 0 rfl (ci := 0) rfl 4 (by decide) w7_ rfl rfl rfl rfl (by first | rfl | decide) (by decide) rfl dX0_chargeMonth_89 (pc2 := 92) rfl ?_
          refine pk_aload_n C 0 dX0_chargeMonth_92 rfl rfl (pc2 := 93) rfl ?_
          refine pk_dup C dX0_chargeMonth_93 rfl (pc2 := 94) rfl ?_
          refine pk_get (v := .long (C_ac c)) C i0_ (pw_atX 0 rfl) (ci := 0) rfl 14 (by decide) w8_ rfl rfl dX0_chargeMonth_94 (pc2 := 97) rfl ?_
          refine pk_aload_n C 0 dX0_chargeMonth_97 rfl rfl (pc2 := 98) rfl ?_
          refine pk_get (v := .long ((m_X3_nextCharge t (C_me c) us).1)) C i0_ (pw_atX 0 rfl) (ci := 0) rfl 13 (by decide) w0_ rfl rfl dX0_chargeMonth_98 (pc2 := 101) rfl ?_
          refine pk_ladd C dX0_chargeMonth_101 (pc2 := 102) rfl ?_
          refine pk_putX (X' := [(a, cC b (C_s_ac (C_s_lc (C_s_cu (C_s_li (C_s_al c ((C_al c) + ((m_X3_nextCharge t (C_me c) us).1))) ((C_li c) - 1)) ((C_cu c) + (Int32.toInt64 us))) ((m_X3_nextCharge t (C_me c) us).1)) ((C_ac c) + ((m_X3_nextCharge t (C_me c) us).1)))), (b, cS ((m_X3_nextCharge t (C_me c) us).2))]) C i0_ tyX0_ok nmX0 0 rfl (ci := 0) rfl 14 (by decide) w8_ rfl rfl rfl rfl (by first | rfl | decide) (by decide) rfl dX0_chargeMonth_102 (pc2 := 105) rfl ?_
          exact pr_void C hE (po_d_rfl rfl (by first | rfl | (unfold m_X0_chargeMonth; first | rfl | (rw [if_pos h1_, if_pos h2_, if_neg h3_, if_neg h4_]; done) | (rw [if_pos h1_, if_pos h2_, if_neg h3_, if_neg h4_]; rfl) | (simp only [h1_, h2_, h3_, h4_, if_true, if_false, ite_true, ite_false]; done)))) dX0_chargeMonth_105
        ·
          refine pk_aload_n C 0 dX0_chargeMonth_36 rfl rfl (pc2 := 37) rfl ?_
          refine pk_dV (cx := [(a, cC b (C_s_lc c 0)), (b, cS t)]) (wr := []) (X2 := [(a, cC b (C_s_lc c 0)), (b, cS t)]) (st := [.ref a]) (st2 := [.long (m_X0_decliningCharge (C_s_lc c 0) t), .ref a]) (As := []) C (c_X0_decliningCharge (zl Z) (zG Z) L F a b (C_s_lc c 0) t) gX0_chargeMonth_X0_decliningCharge rfl rfl rfl 0 (by decide +kernel) (by decide) (pw_atX 0 rfl) rfl rfl rfl (by decide) (by decide) [0, 1] [] [0, 1] rfl rfl rfl rfl (by decide) rfl rfl dX0_chargeMonth_37 (pc2 := 40) rfl rfl ?_
          refine pk_goto (tgt := 55) C dX0_chargeMonth_40 (by decide) ?_
          refine pk_putX (X' := [(a, cC b (C_s_lc (C_s_lc c 0) (m_X0_decliningCharge (C_s_lc c 0) t))), (b, cS t)]) C i0_ tyX0_ok nmX0 0 rfl (ci := 0) rfl 13 (by decide) w0_ rfl rfl rfl rfl (by first | rfl | decide) (by decide) rfl dX0_chargeMonth_55 (pc2 := 58) rfl ?_
          refine pk_aload_n C 0 dX0_chargeMonth_58 rfl rfl (pc2 := 59) rfl ?_
          refine pk_dup C dX0_chargeMonth_59 rfl (pc2 := 60) rfl ?_
          refine pk_get (v := .int (C_li (C_s_lc c 0))) C i0_ (pw_atX 0 rfl) (ci := 0) rfl 8 (by decide) w3_ rfl rfl dX0_chargeMonth_60 (pc2 := 63) rfl ?_
          refine pk_iconst (v := 1) C dX0_chargeMonth_63 (by decide) (pc2 := 64) rfl ?_
          refine pk_isub C dX0_chargeMonth_64 (pc2 := 65) rfl ?_
          refine pk_putX (X' := [(a, cC b (C_s_lc (C_s_li (C_s_lc c 0) ((C_li (C_s_lc c 0)) - 1)) (m_X0_decliningCharge (C_s_lc c 0) t))), (b, cS t)]) C i0_ tyX0_ok nmX0 0 rfl (ci := 0) rfl 8 (by decide) w3_ rfl rfl rfl rfl (by first | rfl | decide) (by decide) rfl dX0_chargeMonth_65 (pc2 := 68) rfl ?_
          refine pk_aload_n C 0 dX0_chargeMonth_68 rfl rfl (pc2 := 69) rfl ?_
          refine pk_dup C dX0_chargeMonth_69 rfl (pc2 := 70) rfl ?_
          refine pk_get (v := .long (C_cu (C_s_lc c 0))) C i0_ (pw_atX 0 rfl) (ci := 0) rfl 12 (by decide) w6_ rfl rfl dX0_chargeMonth_70 (pc2 := 73) rfl ?_
          refine pk_iload_n C 1 dX0_chargeMonth_73 rfl rfl (pc2 := 74) rfl ?_
          refine pk_i2l C dX0_chargeMonth_74 (pc2 := 75) rfl ?_
          refine pk_ladd C dX0_chargeMonth_75 (pc2 := 76) rfl ?_
          refine pk_putX (X' := [(a, cC b (C_s_lc (C_s_cu (C_s_li (C_s_lc c 0) ((C_li (C_s_lc c 0)) - 1)) ((C_cu (C_s_lc c 0)) + (Int32.toInt64 us))) (m_X0_decliningCharge (C_s_lc c 0) t))), (b, cS t)]) C i0_ tyX0_ok nmX0 0 rfl (ci := 0) rfl 12 (by decide) w6_ rfl rfl rfl rfl (by first | rfl | decide) (by decide) rfl dX0_chargeMonth_76 (pc2 := 79) rfl ?_
          refine pk_aload_n C 0 dX0_chargeMonth_79 rfl rfl (pc2 := 80) rfl ?_
          refine pk_dup C dX0_chargeMonth_80 rfl (pc2 := 81) rfl ?_
          refine pk_get (v := .long (C_al (C_s_lc c 0))) C i0_ (pw_atX 0 rfl) (ci := 0) rfl 4 (by decide) w7_ rfl rfl dX0_chargeMonth_81 (pc2 := 84) rfl ?_
          refine pk_aload_n C 0 dX0_chargeMonth_84 rfl rfl (pc2 := 85) rfl ?_
          refine pk_get (v := .long (m_X0_decliningCharge (C_s_lc c 0) t)) C i0_ (pw_atX 0 rfl) (ci := 0) rfl 13 (by decide) w0_ rfl rfl dX0_chargeMonth_85 (pc2 := 88) rfl ?_
          refine pk_ladd C dX0_chargeMonth_88 (pc2 := 89) rfl ?_
          refine pk_putX (X' := [(a, cC b (C_s_lc (C_s_cu (C_s_li (C_s_al (C_s_lc c 0) ((C_al (C_s_lc c 0)) + (m_X0_decliningCharge (C_s_lc c 0) t))) ((C_li (C_s_lc c 0)) - 1)) ((C_cu (C_s_lc c 0)) + (Int32.toInt64 us))) (m_X0_decliningCharge (C_s_lc c 0) t))), (b, cS t)]) C i0_ tyX0_ok nmX0 0 rfl (ci := 0) rfl 4 (by decide) w7_ rfl rfl rfl rfl (by first | rfl | decide) (by decide) rfl dX0_chargeMonth_89 (pc2 := 92) rfl ?_
          refine pk_aload_n C 0 dX0_chargeMonth_92 rfl rfl (pc2 := 93) rfl ?_
          refine pk_dup C dX0_chargeMonth_93 rfl (pc2 := 94) rfl ?_
          refine pk_get (v := .long (C_ac (C_s_lc c 0))) C i0_ (pw_atX 0 rfl) (ci := 0) rfl 14 (by decide) w8_ rfl rfl dX0_chargeMonth_94 (pc2 := 97) rfl ?_
          refine pk_aload_n C 0 dX0_chargeMonth_97 rfl rfl (pc2 := 98) rfl ?_
          refine pk_get (v := .long (m_X0_decliningCharge (C_s_lc c 0) t)) C i0_ (pw_atX 0 rfl) (ci := 0) rfl 13 (by decide) w0_ rfl rfl dX0_chargeMonth_98 (pc2 := 101) rfl ?_
          refine pk_ladd C dX0_chargeMonth_101 (pc2 := 102) rfl ?_
          refine pk_putX (X' := [(a, cC b (C_s_ac (C_s_lc (C_s_cu (C_s_li (C_s_al (C_s_lc c 0) ((C_al (C_s_lc c 0)) + (m_X0_decliningCharge (C_s_lc c 0) t))) ((C_li (C_s_lc c 0)) - 1)) ((C_cu (C_s_lc c 0)) + (Int32.toInt64 us))) (m_X0_decliningCharge (C_s_lc c 0) t)) ((C_ac (C_s_lc c 0)) + (m_X0_decliningCharge (C_s_lc c 0) t)))), (b, cS t)]) C i0_ tyX0_ok nmX0 0 rfl (ci := 0) rfl 14 (by decide) w8_ rfl rfl rfl rfl (by first | rfl | decide) (by decide) rfl dX0_chargeMonth_102 (pc2 := 105) rfl ?_
          exact pr_void C hE (po_d_rfl rfl (by first | rfl | (unfold m_X0_chargeMonth; first | rfl | (rw [if_pos h1_, if_pos h2_, if_neg h3_, if_pos h4_]; done) | (rw [if_pos h1_, if_pos h2_, if_neg h3_, if_pos h4_]; rfl) | (simp only [h1_, h2_, h3_, h4_, if_true, if_false, ite_true, ite_false]; done)))) dX0_chargeMonth_105
      ·
        exact pr_void C hE (po_d_rfl rfl (by first | rfl | (unfold m_X0_chargeMonth; first | rfl | (rw [if_pos h1_, if_pos h2_, if_pos h3_]; done) | (rw [if_pos h1_, if_pos h2_, if_pos h3_]; rfl) | (simp only [h1_, h2_, h3_, if_true, if_false, ite_true, ite_false]; done)))) dX0_chargeMonth_26
def m_X0_open (c : CR) (t : SR) (pt : PR) : Unit :=
  ()
set_option maxRecDepth 100000 in
set_option maxHeartbeats 4000000 in
theorem c_X0_open (l : Launch) (G : pw_G) (L : List Nat) (F : Nat → va_E) (a b : Nat) (c : CR) (t : SR) (p u w q : Nat) (pt : PR) (hpL : p ∈ L) (hpF : F p = cP u w q pt) : PM l yX0_open wsX0_open ⟨2, 0, 0, 46⟩ G [.ref a, .ref p] [(a, cC b (C_s_ac (C_s_lc (C_s_cu (C_s_br (C_s_go (C_s_he (C_s_li (C_s_rs (C_s_lo (C_s_re (C_s_al (C_s_co (C_s_ra (C_s_me c (P_me pt)) (P_ra pt)) (P_co pt)) 0) 0) 0) (P_rs pt)) (P_li pt)) 0) 0) 0) 0) 0) 0)), (b, cS t)] L F 0 0 (po_d none [(a, cC b (C_s_ac (C_s_lc (C_s_cu (C_s_br (C_s_go (C_s_he (C_s_li (C_s_rs (C_s_lo (C_s_re (C_s_al (C_s_co (C_s_ra (C_s_me c (P_me pt)) (P_ra pt)) (P_co pt)) 0) 0) 0) (P_rs pt)) (P_li pt)) 0) 0) 0) 0) 0) 0)), (b, cS t)] L F) := by
  refine pm_entry (by decide) rfl rfl (Nat.le_of_ble_eq_true rfl) ?_
  intro Z Q C hl0 hG0 hnm hE
  subst hl0
  subst hG0
  have i2_ : ∀ w ∈ wsX20, w ∈ wsX0_open := by decide +kernel
  have i0_ : ∀ w ∈ wsX00, w ∈ wsX0_open := by decide +kernel
  have w0_ : Cond.fieldLink RX0 18 "AgedAssets$Part" "method" "I" ∈ wsX0_open := by decide +kernel
  have w1_ : Cond.fieldLink RX0 24 "AgedAssets$Course" "method" "I" ∈ wsX0_open := by decide +kernel
  have w2_ : Cond.fieldLink RX0 25 "AgedAssets$Part" "rate" "I" ∈ wsX0_open := by decide +kernel
  have w3_ : Cond.fieldLink RX0 28 "AgedAssets$Course" "rate" "I" ∈ wsX0_open := by decide +kernel
  have w4_ : Cond.fieldLink RX0 29 "AgedAssets$Part" "cost" "J" ∈ wsX0_open := by decide +kernel
  have w5_ : Cond.fieldLink RX0 33 "AgedAssets$Course" "cost" "J" ∈ wsX0_open := by decide +kernel
  have w6_ : Cond.fieldLink RX0 34 "AgedAssets$Course" "allowance" "J" ∈ wsX0_open := by decide +kernel
  have w7_ : Cond.fieldLink RX0 37 "AgedAssets$Course" "reserve" "J" ∈ wsX0_open := by decide +kernel
  have w8_ : Cond.fieldLink RX0 40 "AgedAssets$Course" "losses" "J" ∈ wsX0_open := by decide +kernel
  have w9_ : Cond.fieldLink RX0 43 "AgedAssets$Part" "residual" "J" ∈ wsX0_open := by decide +kernel
  have w10_ : Cond.fieldLink RX0 46 "AgedAssets$Course" "residual" "J" ∈ wsX0_open := by decide +kernel
  have w11_ : Cond.fieldLink RX0 47 "AgedAssets$Part" "life" "I" ∈ wsX0_open := by decide +kernel
  have w12_ : Cond.fieldLink RX0 50 "AgedAssets$Course" "restOfLife" "I" ∈ wsX0_open := by decide +kernel
  have w13_ : Cond.fieldLink RX0 53 "AgedAssets$Course" "held" "Z" ∈ wsX0_open := by decide +kernel
  have w14_ : Cond.fieldLink RX0 57 "AgedAssets$Course" "gone" "Z" ∈ wsX0_open := by decide +kernel
  have w15_ : Cond.fieldLink RX0 60 "AgedAssets$Course" "breached" "Z" ∈ wsX0_open := by decide +kernel
  have w16_ : Cond.fieldLink RX0 63 "AgedAssets$Course" "chargedUnits" "J" ∈ wsX0_open := by decide +kernel
  have w17_ : Cond.fieldLink RX0 66 "AgedAssets$Course" "lastCharge" "J" ∈ wsX0_open := by decide +kernel
  have w18_ : Cond.fieldLink RX0 69 "AgedAssets$Course" "allCharges" "J" ∈ wsX0_open := by decide +kernel
  show PW Z [(a, cC b (C_s_ac (C_s_lc (C_s_cu (C_s_br (C_s_go (C_s_he (C_s_li (C_s_rs (C_s_lo (C_s_re (C_s_al (C_s_co (C_s_ra (C_s_me c (P_me pt)) (P_ra pt)) (P_co pt)) 0) 0) 0) (P_rs pt)) (P_li pt)) 0) 0) 0) 0) 0) 0)), (b, cS t)] L F 0 0 Q 0 [(0, .ref a), (1, .ref p)] []
  refine pk_aload_n C 0 dX0_open_0 rfl rfl (pc2 := 1) rfl ?_
  refine pk_aload_n C 1 dX0_open_1 rfl rfl (pc2 := 2) rfl ?_
  refine pk_get (v := .int (P_me pt)) C i2_ (pw_atP hpL hpF) (ci := 2) rfl 4 (by decide) w0_ rfl rfl dX0_open_2 (pc2 := 5) rfl ?_
  refine pk_putX (X' := [(a, cC b (C_s_me c (P_me pt))), (b, cS t)]) C i0_ tyX0_ok nmX0 0 rfl (ci := 0) rfl 1 (by decide) w1_ rfl rfl rfl rfl (by first | rfl | decide) (by decide) rfl dX0_open_5 (pc2 := 8) rfl ?_
  refine pk_aload_n C 0 dX0_open_8 rfl rfl (pc2 := 9) rfl ?_
  refine pk_aload_n C 1 dX0_open_9 rfl rfl (pc2 := 10) rfl ?_
  refine pk_get (v := .int (P_ra pt)) C i2_ (pw_atP hpL hpF) (ci := 2) rfl 5 (by decide) w2_ rfl rfl dX0_open_10 (pc2 := 13) rfl ?_
  refine pk_putX (X' := [(a, cC b (C_s_ra (C_s_me c (P_me pt)) (P_ra pt))), (b, cS t)]) C i0_ tyX0_ok nmX0 0 rfl (ci := 0) rfl 2 (by decide) w3_ rfl rfl rfl rfl (by first | rfl | decide) (by decide) rfl dX0_open_13 (pc2 := 16) rfl ?_
  refine pk_aload_n C 0 dX0_open_16 rfl rfl (pc2 := 17) rfl ?_
  refine pk_aload_n C 1 dX0_open_17 rfl rfl (pc2 := 18) rfl ?_
  refine pk_get (v := .long (P_co pt)) C i2_ (pw_atP hpL hpF) (ci := 2) rfl 0 (by decide) w4_ rfl rfl dX0_open_18 (pc2 := 21) rfl ?_
  refine pk_putX (X' := [(a, cC b (C_s_co (C_s_ra (C_s_me c (P_me pt)) (P_ra pt)) (P_co pt))), (b, cS t)]) C i0_ tyX0_ok nmX0 0 rfl (ci := 0) rfl 3 (by decide) w5_ rfl rfl rfl rfl (by first | rfl | decide) (by decide) rfl dX0_open_21 (pc2 := 24) rfl ?_
  refine pk_aload_n C 0 dX0_open_24 rfl rfl (pc2 := 25) rfl ?_
  refine pk_lconst (v := 0) C dX0_open_25 (by decide) (pc2 := 26) rfl ?_
  refine pk_putX (X' := [(a, cC b (C_s_al (C_s_co (C_s_ra (C_s_me c (P_me pt)) (P_ra pt)) (P_co pt)) 0)), (b, cS t)]) C i0_ tyX0_ok nmX0 0 rfl (ci := 0) rfl 4 (by decide) w6_ rfl rfl rfl rfl (by first | rfl | decide) (by decide) rfl dX0_open_26 (pc2 := 29) rfl ?_
  refine pk_aload_n C 0 dX0_open_29 rfl rfl (pc2 := 30) rfl ?_
  refine pk_lconst (v := 0) C dX0_open_30 (by decide) (pc2 := 31) rfl ?_
  refine pk_putX (X' := [(a, cC b (C_s_re (C_s_al (C_s_co (C_s_ra (C_s_me c (P_me pt)) (P_ra pt)) (P_co pt)) 0) 0)), (b, cS t)]) C i0_ tyX0_ok nmX0 0 rfl (ci := 0) rfl 5 (by decide) w7_ rfl rfl rfl rfl (by first | rfl | decide) (by decide) rfl dX0_open_31 (pc2 := 34) rfl ?_
  refine pk_aload_n C 0 dX0_open_34 rfl rfl (pc2 := 35) rfl ?_
  refine pk_lconst (v := 0) C dX0_open_35 (by decide) (pc2 := 36) rfl ?_
  refine pk_putX (X' := [(a, cC b (C_s_lo (C_s_re (C_s_al (C_s_co (C_s_ra (C_s_me c (P_me pt)) (P_ra pt)) (P_co pt)) 0) 0) 0)), (b, cS t)]) C i0_ tyX0_ok nmX0 0 rfl (ci := 0) rfl 6 (by decide) w8_ rfl rfl rfl rfl (by first | rfl | decide) (by decide) rfl dX0_open_36 (pc2 := 39) rfl ?_
  refine pk_aload_n C 0 dX0_open_39 rfl rfl (pc2 := 40) rfl ?_
  refine pk_aload_n C 1 dX0_open_40 rfl rfl (pc2 := 41) rfl ?_
  refine pk_get (v := .long (P_rs pt)) C i2_ (pw_atP hpL hpF) (ci := 2) rfl 1 (by decide) w9_ rfl rfl dX0_open_41 (pc2 := 44) rfl ?_
  refine pk_putX (X' := [(a, cC b (C_s_rs (C_s_lo (C_s_re (C_s_al (C_s_co (C_s_ra (C_s_me c (P_me pt)) (P_ra pt)) (P_co pt)) 0) 0) 0) (P_rs pt))), (b, cS t)]) C i0_ tyX0_ok nmX0 0 rfl (ci := 0) rfl 7 (by decide) w10_ rfl rfl rfl rfl (by first | rfl | decide) (by decide) rfl dX0_open_44 (pc2 := 47) rfl ?_
  refine pk_aload_n C 0 dX0_open_47 rfl rfl (pc2 := 48) rfl ?_
  refine pk_aload_n C 1 dX0_open_48 rfl rfl (pc2 := 49) rfl ?_
  refine pk_get (v := .int (P_li pt)) C i2_ (pw_atP hpL hpF) (ci := 2) rfl 3 (by decide) w11_ rfl rfl dX0_open_49 (pc2 := 52) rfl ?_
  refine pk_putX (X' := [(a, cC b (C_s_li (C_s_rs (C_s_lo (C_s_re (C_s_al (C_s_co (C_s_ra (C_s_me c (P_me pt)) (P_ra pt)) (P_co pt)) 0) 0) 0) (P_rs pt)) (P_li pt))), (b, cS t)]) C i0_ tyX0_ok nmX0 0 rfl (ci := 0) rfl 8 (by decide) w12_ rfl rfl rfl rfl (by first | rfl | decide) (by decide) rfl dX0_open_52 (pc2 := 55) rfl ?_
  refine pk_aload_n C 0 dX0_open_55 rfl rfl (pc2 := 56) rfl ?_
  refine pk_iconst (v := 0) C dX0_open_56 (by decide) (pc2 := 57) rfl ?_
  refine pk_putX (X' := [(a, cC b (C_s_he (C_s_li (C_s_rs (C_s_lo (C_s_re (C_s_al (C_s_co (C_s_ra (C_s_me c (P_me pt)) (P_ra pt)) (P_co pt)) 0) 0) 0) (P_rs pt)) (P_li pt)) 0)), (b, cS t)]) C i0_ tyX0_ok nmX0 0 rfl (ci := 0) rfl 9 (by decide) w13_ rfl rfl rfl rfl rfl (by decide) rfl dX0_open_57 (pc2 := 60) rfl ?_
  refine pk_aload_n C 0 dX0_open_60 rfl rfl (pc2 := 61) rfl ?_
  refine pk_iconst (v := 0) C dX0_open_61 (by decide) (pc2 := 62) rfl ?_
  refine pk_putX (X' := [(a, cC b (C_s_go (C_s_he (C_s_li (C_s_rs (C_s_lo (C_s_re (C_s_al (C_s_co (C_s_ra (C_s_me c (P_me pt)) (P_ra pt)) (P_co pt)) 0) 0) 0) (P_rs pt)) (P_li pt)) 0) 0)), (b, cS t)]) C i0_ tyX0_ok nmX0 0 rfl (ci := 0) rfl 10 (by decide) w14_ rfl rfl rfl rfl rfl (by decide) rfl dX0_open_62 (pc2 := 65) rfl ?_
  refine pk_aload_n C 0 dX0_open_65 rfl rfl (pc2 := 66) rfl ?_
  refine pk_iconst (v := 0) C dX0_open_66 (by decide) (pc2 := 67) rfl ?_
  refine pk_putX (X' := [(a, cC b (C_s_br (C_s_go (C_s_he (C_s_li (C_s_rs (C_s_lo (C_s_re (C_s_al (C_s_co (C_s_ra (C_s_me c (P_me pt)) (P_ra pt)) (P_co pt)) 0) 0) 0) (P_rs pt)) (P_li pt)) 0) 0) 0)), (b, cS t)]) C i0_ tyX0_ok nmX0 0 rfl (ci := 0) rfl 11 (by decide) w15_ rfl rfl rfl rfl rfl (by decide) rfl dX0_open_67 (pc2 := 70) rfl ?_
  refine pk_aload_n C 0 dX0_open_70 rfl rfl (pc2 := 71) rfl ?_
  refine pk_lconst (v := 0) C dX0_open_71 (by decide) (pc2 := 72) rfl ?_
  refine pk_putX (X' := [(a, cC b (C_s_cu (C_s_br (C_s_go (C_s_he (C_s_li (C_s_rs (C_s_lo (C_s_re (C_s_al (C_s_co (C_s_ra (C_s_me c (P_me pt)) (P_ra pt)) (P_co pt)) 0) 0) 0) (P_rs pt)) (P_li pt)) 0) 0) 0) 0)), (b, cS t)]) C i0_ tyX0_ok nmX0 0 rfl (ci := 0) rfl 12 (by decide) w16_ rfl rfl rfl rfl (by first | rfl | decide) (by decide) rfl dX0_open_72 (pc2 := 75) rfl ?_
  refine pk_aload_n C 0 dX0_open_75 rfl rfl (pc2 := 76) rfl ?_
  refine pk_lconst (v := 0) C dX0_open_76 (by decide) (pc2 := 77) rfl ?_
  refine pk_putX (X' := [(a, cC b (C_s_lc (C_s_cu (C_s_br (C_s_go (C_s_he (C_s_li (C_s_rs (C_s_lo (C_s_re (C_s_al (C_s_co (C_s_ra (C_s_me c (P_me pt)) (P_ra pt)) (P_co pt)) 0) 0) 0) (P_rs pt)) (P_li pt)) 0) 0) 0) 0) 0)), (b, cS t)]) C i0_ tyX0_ok nmX0 0 rfl (ci := 0) rfl 13 (by decide) w17_ rfl rfl rfl rfl (by first | rfl | decide) (by decide) rfl dX0_open_77 (pc2 := 80) rfl ?_
  refine pk_aload_n C 0 dX0_open_80 rfl rfl (pc2 := 81) rfl ?_
  refine pk_lconst (v := 0) C dX0_open_81 (by decide) (pc2 := 82) rfl ?_
  refine pk_putX (X' := [(a, cC b (C_s_ac (C_s_lc (C_s_cu (C_s_br (C_s_go (C_s_he (C_s_li (C_s_rs (C_s_lo (C_s_re (C_s_al (C_s_co (C_s_ra (C_s_me c (P_me pt)) (P_ra pt)) (P_co pt)) 0) 0) 0) (P_rs pt)) (P_li pt)) 0) 0) 0) 0) 0) 0)), (b, cS t)]) C i0_ tyX0_ok nmX0 0 rfl (ci := 0) rfl 14 (by decide) w18_ rfl rfl rfl rfl (by first | rfl | decide) (by decide) rfl dX0_open_82 (pc2 := 85) rfl ?_
  refine pk_aload_n C 0 dX0_open_85 rfl rfl (pc2 := 86) rfl ?_
  refine pk_dV (cx := [(a, cC b (C_s_ac (C_s_lc (C_s_cu (C_s_br (C_s_go (C_s_he (C_s_li (C_s_rs (C_s_lo (C_s_re (C_s_al (C_s_co (C_s_ra (C_s_me c (P_me pt)) (P_ra pt)) (P_co pt)) 0) 0) 0) (P_rs pt)) (P_li pt)) 0) 0) 0) 0) 0) 0)), (b, cS t)]) (wr := []) (X2 := [(a, cC b (C_s_ac (C_s_lc (C_s_cu (C_s_br (C_s_go (C_s_he (C_s_li (C_s_rs (C_s_lo (C_s_re (C_s_al (C_s_co (C_s_ra (C_s_me c (P_me pt)) (P_ra pt)) (P_co pt)) 0) 0) 0) (P_rs pt)) (P_li pt)) 0) 0) 0) 0) 0) 0)), (b, cS t)]) (st := []) (st2 := []) (As := []) C (c_X0_beginStretch (zl Z) (zG Z) L F a b (C_s_ac (C_s_lc (C_s_cu (C_s_br (C_s_go (C_s_he (C_s_li (C_s_rs (C_s_lo (C_s_re (C_s_al (C_s_co (C_s_ra (C_s_me c (P_me pt)) (P_ra pt)) (P_co pt)) 0) 0) 0) (P_rs pt)) (P_li pt)) 0) 0) 0) 0) 0) 0) t) gX0_open_X0_beginStretch rfl rfl rfl 0 (by decide +kernel) (by decide) (pw_atX 0 rfl) rfl rfl rfl (by decide) (by decide) [0, 1] [] [0, 1] rfl rfl rfl rfl (by decide) rfl rfl dX0_open_86 (pc2 := 89) rfl rfl ?_
  exact pr_void C hE (po_d_rfl rfl (by first | rfl | (unfold m_X0_open; rfl))) dX0_open_89

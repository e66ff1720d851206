theorem lp_lt {x e : Int32} {N k : Nat} (hx : x = nI N) (hN : N < 2 ^ 31) (he : e = nI k) (hk : k ≤ N) (h : ¬ x ≤ e) : k < N := by
  rcases Nat.lt_or_ge k N with q | q
  · exact q
  · exact absurd (by rw [hx, he]; exact nI_le q (by omega)) h
theorem lp_in {x e : Int32} {N k M : Nat} (hx : x = nI N) (hM : M < 2 ^ 31) (hN : N ≤ M) (he : e = nI k) (hk : k ≤ N) (h : ¬ x ≤ e) : vp_in e M := by
  have := lp_lt hx (by omega) he hk h
  rw [he]
  exact vp_in_nI (by omega) hM
def m_X5_eventIn_l (c : MR) (T : TR) (p : Int32) (mm : Int32) : Nat → Int32 → Int32 → Int32
  | 0, _, _ => 0
  | n + 1, fd, e => if (M_ev c) ≤ e then fd else if ((T_of T) (Int32.toNatClampNeg e)) = (p + 1) then if ((T_wh T) (Int32.toNatClampNeg e)) = mm then m_X5_eventIn_l c T p mm n e (e + 1) else m_X5_eventIn_l c T p mm n fd (e + 1) else m_X5_eventIn_l c T p mm n fd (e + 1)
theorem m_X5_eventIn_l_s (c : MR) (T : TR) (p : Int32) (mm : Int32) (n : Nat) (fd : Int32) (e : Int32) : m_X5_eventIn_l c T p mm (n + 1) fd e = if (M_ev c) ≤ e then fd else if ((T_of T) (Int32.toNatClampNeg e)) = (p + 1) then if ((T_wh T) (Int32.toNatClampNeg e)) = mm then m_X5_eventIn_l c T p mm n e (e + 1) else m_X5_eventIn_l c T p mm n fd (e + 1) else m_X5_eventIn_l c T p mm n fd (e + 1) := rfl
def m_X5_eventIn (c : MR) (T : TR) (p : Int32) (mm : Int32) : Int32 := m_X5_eventIn_l c T p mm 41 (-1) 0
set_option maxRecDepth 100000 in
set_option maxHeartbeats 2000000 in
theorem l_X5_eventIn {Z : pw_Z} {Q : State → Prop} {L : List Nat} {F : Nat → va_E} {m : Nat} {rf : Nat → Nat} {c : MR} {T : TR} {p : Int32} {mm : Int32} (C : pw_C Z cX5_eventIn 5 RX5 wsX5_eventIn ⟨0, 0, 0, 0⟩ (some .int)) (hE : pw_End Z Q (mX (zG Z) m rf c T) L F (po_d (some (.int (m_X5_eventIn c T p mm))) (mX (zG Z) m rf c T) L F) 0 0) (N : Nat) (hN : N ≤ 40) (hev : M_ev c = nI N) : ∀ (n k : Nat) (fd : Int32) (e : Int32), N < k + n → k ≤ N → e = nI k → m_X5_eventIn_l c T p mm n fd e = (m_X5_eventIn c T p mm) → PW Z (mX (zG Z) m rf c T) L F 0 0 Q 5 [(0, .ref m), (1, .int p), (2, .int mm), (3, .int fd), (4, .int e)] [] := by
  intro n
  induction n with
  | zero =>
    intro k fd e h1 h2
    exact absurd h1 (by omega)
  | succ n ih =>
    intro k fd e hk1 hk2 he hR
    have i5_ : ∀ w ∈ wsX50, w ∈ wsX5_eventIn := by decide +kernel
    have w0_ : Cond.fieldLink RX5 72 "AgedAssetsModel" "events" "I" ∈ wsX5_eventIn := by decide +kernel
    have w1_ : Cond.fieldLink RX5 35 "AgedAssetsModel" "of" "[I" ∈ wsX5_eventIn := by decide +kernel
    have w2_ : Cond.fieldLink RX5 38 "AgedAssetsModel" "when" "[I" ∈ wsX5_eventIn := by decide +kernel
    refine pk_iload C 4 dX5_eventIn_5 rfl (pc2 := 7) rfl ?_
    refine pk_aload_n C 0 dX5_eventIn_7 rfl rfl (pc2 := 8) rfl ?_
    refine pk_get (v := .int (M_ev c)) C i5_ (pw_atX 0 rfl) (ci := 5) rfl 11 (by decide) w0_ rfl rfl dX5_eventIn_8 (pc2 := 11) rfl ?_
    refine pk_icmp_ge (tgt := 51) C dX5_eventIn_11 (by decide) (pc2 := 14) rfl (fun h1_ => ?_) (fun h1_ => ?_)
    ·
      refine pk_iload_n C 3 dX5_eventIn_51 rfl rfl (pc2 := 52) rfl ?_
      exact pr_int (ty := .int) C hE rfl rfl (po_d_rfl (by rw [← hR, m_X5_eventIn_l_s, if_pos h1_]) rfl) dX5_eventIn_52
    ·
      refine pk_aload_n C 0 dX5_eventIn_14 rfl rfl (pc2 := 15) rfl ?_
      refine pk_get (v := .ref (rf 8)) C i5_ (pw_atX 0 rfl) (ci := 5) rfl 12 (by decide) w1_ rfl rfl dX5_eventIn_15 (pc2 := 18) rfl ?_
      refine pk_iload C 4 dX5_eventIn_18 rfl (pc2 := 20) rfl ?_
      refine pk_iald (v := ((T_of T) (Int32.toNatClampNeg e))) C (pw_atX 9 rfl) (lp_in hev (by decide) hN he hk2 h1_) rfl dX5_eventIn_20 (pc2 := 21) rfl ?_
      refine pk_iload_n C 1 dX5_eventIn_21 rfl rfl (pc2 := 22) rfl ?_
      refine pk_iconst (v := 1) C dX5_eventIn_22 (by decide) (pc2 := 23) rfl ?_
      refine pk_iadd C dX5_eventIn_23 (pc2 := 24) rfl ?_
      refine pk_icmp_ne (tgt := 43) C dX5_eventIn_24 (by decide) (pc2 := 27) rfl (fun h2_ => ?_) (fun h2_ => ?_)
      ·
        refine pk_iload_n C 3 dX5_eventIn_43 rfl rfl (pc2 := 44) rfl ?_
        refine pk_istore_n (lv' := [(3, .int fd), (0, .ref m), (1, .int p), (2, .int mm), (4, .int e)]) C dX5_eventIn_44 rfl (by decide) rfl (pc2 := 45) rfl ?_
        refine pk_iinc (v := (e + 1)) (lv' := [(4, .int (e + 1)), (3, .int fd), (0, .ref m), (1, .int p), (2, .int mm)]) C 4 dX5_eventIn_45 rfl rfl (by decide) rfl (pc2 := 48) rfl ?_
        refine pk_goto (tgt := 5) C dX5_eventIn_48 (by decide) ?_
        refine pw_lv [2, 3, 4, 1, 0] (lv' := [(0, .ref m), (1, .int p), (2, .int mm), (3, .int fd), (4, .int (e + 1))]) rfl ?_
        exact ih (k + 1) fd (e + 1) (by omega) (lp_lt hev (by omega) he hk2 h1_) (by rw [he, nI_1]) (by rw [← hR, m_X5_eventIn_l_s, if_neg h1_, if_neg h2_])
      ·
        refine pk_aload_n C 0 dX5_eventIn_27 rfl rfl (pc2 := 28) rfl ?_
        refine pk_get (v := .ref (rf 9)) C i5_ (pw_atX 0 rfl) (ci := 5) rfl 13 (by decide) w2_ rfl rfl dX5_eventIn_28 (pc2 := 31) rfl ?_
        refine pk_iload C 4 dX5_eventIn_31 rfl (pc2 := 33) rfl ?_
        refine pk_iald (v := ((T_wh T) (Int32.toNatClampNeg e))) C (pw_atX 10 rfl) (lp_in hev (by decide) hN he hk2 h1_) rfl dX5_eventIn_33 (pc2 := 34) rfl ?_
        refine pk_iload_n C 2 dX5_eventIn_34 rfl rfl (pc2 := 35) rfl ?_
        refine pk_icmp_ne (tgt := 43) C dX5_eventIn_35 (by decide) (pc2 := 38) rfl (fun h3_ => ?_) (fun h3_ => ?_)
        ·
          refine pk_iload_n C 3 dX5_eventIn_43 rfl rfl (pc2 := 44) rfl ?_
          refine pk_istore_n (lv' := [(3, .int fd), (0, .ref m), (1, .int p), (2, .int mm), (4, .int e)]) C dX5_eventIn_44 rfl (by decide) rfl (pc2 := 45) rfl ?_
          refine pk_iinc (v := (e + 1)) (lv' := [(4, .int (e + 1)), (3, .int fd), (0, .ref m), (1, .int p), (2, .int mm)]) C 4 dX5_eventIn_45 rfl rfl (by decide) rfl (pc2 := 48) rfl ?_
          refine pk_goto (tgt := 5) C dX5_eventIn_48 (by decide) ?_
          refine pw_lv [2, 3, 4, 1, 0] (lv' := [(0, .ref m), (1, .int p), (2, .int mm), (3, .int fd), (4, .int (e + 1))]) rfl ?_
          exact ih (k + 1) fd (e + 1) (by omega) (lp_lt hev (by omega) he hk2 h1_) (by rw [he, nI_1]) (by rw [← hR, m_X5_eventIn_l_s, if_neg h1_, if_pos h2_, if_neg h3_])
        ·
          refine pk_iload C 4 dX5_eventIn_38 rfl (pc2 := 40) rfl ?_
          refine pk_goto (tgt := 44) C dX5_eventIn_40 (by decide) ?_
          refine pk_istore_n (lv' := [(3, .int e), (0, .ref m), (1, .int p), (2, .int mm), (4, .int e)]) C dX5_eventIn_44 rfl (by decide) rfl (pc2 := 45) rfl ?_
          refine pk_iinc (v := (e + 1)) (lv' := [(4, .int (e + 1)), (3, .int e), (0, .ref m), (1, .int p), (2, .int mm)]) C 4 dX5_eventIn_45 rfl rfl (by decide) rfl (pc2 := 48) rfl ?_
          refine pk_goto (tgt := 5) C dX5_eventIn_48 (by decide) ?_
          refine pw_lv [2, 3, 4, 1, 0] (lv' := [(0, .ref m), (1, .int p), (2, .int mm), (3, .int e), (4, .int (e + 1))]) rfl ?_
          exact ih (k + 1) e (e + 1) (by omega) (lp_lt hev (by omega) he hk2 h1_) (by rw [he, nI_1]) (by rw [← hR, m_X5_eventIn_l_s, if_neg h1_, if_pos h2_, if_pos h3_])
set_option maxRecDepth 100000 in
set_option maxHeartbeats 2000000 in
theorem c_X5_eventIn (l : Launch) (G : pw_G) (L : List Nat) (F : Nat → va_E) (m : Nat) (rf : Nat → Nat) (c : MR) (T : TR) (p : Int32) (mm : Int32) (N : Nat) (hN : N ≤ 40) (hev : M_ev c = nI N) : PM l yX5_eventIn wsX5_eventIn ⟨0, 0, 0, 0⟩ G [.ref m, .int p, .int mm] (mX G m rf c T) L F 0 0 (po_d (some (.int (m_X5_eventIn c T p mm))) (mX G m rf c T) L F) := by
  refine pm_entry (by decide) rfl rfl (Nat.le_of_ble_eq_true rfl) ?_
  intro Z Q C hl0 hG0 hnm hE
  subst hl0
  subst hG0
  show PW Z (mX (zG Z) m rf c T) L F 0 0 Q 0 [(0, .ref m), (1, .int p), (2, .int mm)] []
  refine pk_iconst (v := -1) C dX5_eventIn_0 (by decide) (pc2 := 1) rfl ?_
  refine pk_istore_n (lv' := [(3, .int (-1)), (0, .ref m), (1, .int p), (2, .int mm)]) C dX5_eventIn_1 rfl (by decide) rfl (pc2 := 2) rfl ?_
  refine pk_iconst (v := 0) C dX5_eventIn_2 (by decide) (pc2 := 3) rfl ?_
  refine pk_istore (lv' := [(4, .int 0), (3, .int (-1)), (0, .ref m), (1, .int p), (2, .int mm)]) C dX5_eventIn_3 (by decide) rfl (pc2 := 5) rfl ?_
  refine pw_lv [2, 3, 4, 1, 0] (lv' := [(0, .ref m), (1, .int p), (2, .int mm), (3, .int (-1)), (4, .int 0)]) rfl ?_
  exact l_X5_eventIn C hE N hN hev 41 0 (-1) 0 (by omega) (Nat.zero_le _) rfl rfl
def m_X5_countOf_l (c : MR) (T : TR) (p : Int32) : Nat → Int32 → Int32 → Int32
  | 0, _, _ => 0
  | n + 1, fd, e => if (M_ev c) ≤ e then fd else if ((T_of T) (Int32.toNatClampNeg e)) = (p + 1) then m_X5_countOf_l c T p n (fd + 1) (e + 1) else m_X5_countOf_l c T p n fd (e + 1)
theorem m_X5_countOf_l_s (c : MR) (T : TR) (p : Int32) (n : Nat) (fd : Int32) (e : Int32) : m_X5_countOf_l c T p (n + 1) fd e = if (M_ev c) ≤ e then fd else if ((T_of T) (Int32.toNatClampNeg e)) = (p + 1) then m_X5_countOf_l c T p n (fd + 1) (e + 1) else m_X5_countOf_l c T p n fd (e + 1) := rfl
def m_X5_countOf (c : MR) (T : TR) (p : Int32) : Int32 := m_X5_countOf_l c T p 41 0 0
set_option maxRecDepth 100000 in
set_option maxHeartbeats 2000000 in
theorem l_X5_countOf {Z : pw_Z} {Q : State → Prop} {L : List Nat} {F : Nat → va_E} {m : Nat} {rf : Nat → Nat} {c : MR} {T : TR} {p : Int32} (C : pw_C Z cX5_countOf 4 RX5 wsX5_countOf ⟨0, 0, 0, 0⟩ (some .int)) (hE : pw_End Z Q (mX (zG Z) m rf c T) L F (po_d (some (.int (m_X5_countOf c T p))) (mX (zG Z) m rf c T) L F) 0 0) (N : Nat) (hN : N ≤ 40) (hev : M_ev c = nI N) : ∀ (n k : Nat) (fd : Int32) (e : Int32), N < k + n → k ≤ N → e = nI k → m_X5_countOf_l c T p n fd e = (m_X5_countOf c T p) → PW Z (mX (zG Z) m rf c T) L F 0 0 Q 4 [(0, .ref m), (1, .int p), (2, .int fd), (3, .int e)] [] := by
  intro n
  induction n with
  | zero =>
    intro k fd e h1 h2
    exact absurd h1 (by omega)
  | succ n ih =>
    intro k fd e hk1 hk2 he hR
    have i5_ : ∀ w ∈ wsX50, w ∈ wsX5_countOf := by decide +kernel
    have w0_ : Cond.fieldLink RX5 72 "AgedAssetsModel" "events" "I" ∈ wsX5_countOf := by decide +kernel
    have w1_ : Cond.fieldLink RX5 35 "AgedAssetsModel" "of" "[I" ∈ wsX5_countOf := by decide +kernel
    refine pk_iload_n C 3 dX5_countOf_4 rfl rfl (pc2 := 5) rfl ?_
    refine pk_aload_n C 0 dX5_countOf_5 rfl rfl (pc2 := 6) rfl ?_
    refine pk_get (v := .int (M_ev c)) C i5_ (pw_atX 0 rfl) (ci := 5) rfl 11 (by decide) w0_ rfl rfl dX5_countOf_6 (pc2 := 9) rfl ?_
    refine pk_icmp_ge (tgt := 38) C dX5_countOf_9 (by decide) (pc2 := 12) rfl (fun h1_ => ?_) (fun h1_ => ?_)
    ·
      refine pk_iload_n C 2 dX5_countOf_38 rfl rfl (pc2 := 39) rfl ?_
      exact pr_int (ty := .int) C hE rfl rfl (po_d_rfl (by rw [← hR, m_X5_countOf_l_s, if_pos h1_]) rfl) dX5_countOf_39
    ·
      refine pk_aload_n C 0 dX5_countOf_12 rfl rfl (pc2 := 13) rfl ?_
      refine pk_get (v := .ref (rf 8)) C i5_ (pw_atX 0 rfl) (ci := 5) rfl 12 (by decide) w1_ rfl rfl dX5_countOf_13 (pc2 := 16) rfl ?_
      refine pk_iload_n C 3 dX5_countOf_16 rfl rfl (pc2 := 17) rfl ?_
      refine pk_iald (v := ((T_of T) (Int32.toNatClampNeg e))) C (pw_atX 9 rfl) (lp_in hev (by decide) hN he hk2 h1_) rfl dX5_countOf_17 (pc2 := 18) rfl ?_
      refine pk_iload_n C 1 dX5_countOf_18 rfl rfl (pc2 := 19) rfl ?_
      refine pk_iconst (v := 1) C dX5_countOf_19 (by decide) (pc2 := 20) rfl ?_
      refine pk_iadd C dX5_countOf_20 (pc2 := 21) rfl ?_
      refine pk_icmp_ne (tgt := 30) C dX5_countOf_21 (by decide) (pc2 := 24) rfl (fun h2_ => ?_) (fun h2_ => ?_)
      ·
        refine pk_iload_n C 2 dX5_countOf_30 rfl rfl (pc2 := 31) rfl ?_
        refine pk_istore_n (lv' := [(2, .int fd), (0, .ref m), (1, .int p), (3, .int e)]) C dX5_countOf_31 rfl (by decide) rfl (pc2 := 32) rfl ?_
        refine pk_iinc (v := (e + 1)) (lv' := [(3, .int (e + 1)), (2, .int fd), (0, .ref m), (1, .int p)]) C 3 dX5_countOf_32 rfl rfl (by decide) rfl (pc2 := 35) rfl ?_
        refine pk_goto (tgt := 4) C dX5_countOf_35 (by decide) ?_
        refine pw_lv [2, 3, 1, 0] (lv' := [(0, .ref m), (1, .int p), (2, .int fd), (3, .int (e + 1))]) rfl ?_
        exact ih (k + 1) fd (e + 1) (by omega) (lp_lt hev (by omega) he hk2 h1_) (by rw [he, nI_1]) (by rw [← hR, m_X5_countOf_l_s, if_neg h1_, if_neg h2_])
      ·
        refine pk_iload_n C 2 dX5_countOf_24 rfl rfl (pc2 := 25) rfl ?_
        refine pk_iconst (v := 1) C dX5_countOf_25 (by decide) (pc2 := 26) rfl ?_
        refine pk_iadd C dX5_countOf_26 (pc2 := 27) rfl ?_
        refine pk_goto (tgt := 31) C dX5_countOf_27 (by decide) ?_
        refine pk_topi (fun n1_ en1_ => ?_)
        refine pk_istore_n (lv' := [(2, .int n1_), (0, .ref m), (1, .int p), (3, .int e)]) C dX5_countOf_31 rfl (by decide) rfl (pc2 := 32) rfl ?_
        refine pk_iinc (v := (e + 1)) (lv' := [(3, .int (e + 1)), (2, .int n1_), (0, .ref m), (1, .int p)]) C 3 dX5_countOf_32 rfl rfl (by decide) rfl (pc2 := 35) rfl ?_
        refine pk_goto (tgt := 4) C dX5_countOf_35 (by decide) ?_
        refine pw_lv [2, 3, 1, 0] (lv' := [(0, .ref m), (1, .int p), (2, .int n1_), (3, .int (e + 1))]) rfl ?_
        subst en1_
        exact ih (k + 1) (fd + 1) (e + 1) (by omega) (lp_lt hev (by omega) he hk2 h1_) (by rw [he, nI_1]) (by rw [← hR, m_X5_countOf_l_s, if_neg h1_, if_pos h2_])
set_option maxRecDepth 100000 in
set_option maxHeartbeats 2000000 in
theorem c_X5_countOf (l : Launch) (G : pw_G) (L : List Nat) (F : Nat → va_E) (m : Nat) (rf : Nat → Nat) (c : MR) (T : TR) (p : Int32) (N : Nat) (hN : N ≤ 40) (hev : M_ev c = nI N) : PM l yX5_countOf wsX5_countOf ⟨0, 0, 0, 0⟩ G [.ref m, .int p] (mX G m rf c T) L F 0 0 (po_d (some (.int (m_X5_countOf c T p))) (mX G m rf c T) L F) := by
  refine pm_entry (by decide) rfl rfl (Nat.le_of_ble_eq_true rfl) ?_
  intro Z Q C hl0 hG0 hnm hE
  subst hl0
  subst hG0
  show PW Z (mX (zG Z) m rf c T) L F 0 0 Q 0 [(0, .ref m), (1, .int p)] []
  refine pk_iconst (v := 0) C dX5_countOf_0 (by decide) (pc2 := 1) rfl ?_
  refine pk_istore_n (lv' := [(2, .int 0), (0, .ref m), (1, .int p)]) C dX5_countOf_1 rfl (by decide) rfl (pc2 := 2) rfl ?_
  refine pk_iconst (v := 0) C dX5_countOf_2 (by decide) (pc2 := 3) rfl ?_
  refine pk_istore_n (lv' := [(3, .int 0), (2, .int 0), (0, .ref m), (1, .int p)]) C dX5_countOf_3 rfl (by decide) rfl (pc2 := 4) rfl ?_
  refine pw_lv [2, 3, 1, 0] (lv' := [(0, .ref m), (1, .int p), (2, .int 0), (3, .int 0)]) rfl ?_
  exact l_X5_countOf C hE N hN hev 41 0 0 0 (by omega) (Nat.zero_le _) rfl rfl
theorem ix_pm {p e : Int32} {a k : Nat} (hp : p = nI a) (ha : a < 6) (he : e = nI k) (hk : k < 36) : vp_in (((36) * p) + e) 216 := by
  rw [hp, he, show (36 : Int32) = nI 36 from rfl, pk_mul, nI_add]
  exact vp_in_nI (by omega) (by decide)
def m_X5_totalOf_l (c : MR) (T : TR) (p : Int32) : Nat → Int64 → Int32 → Int64
  | 0, _, _ => 0
  | n + 1, fd, e => if (M_mn c) ≤ e then fd else m_X5_totalOf_l c T p n (fd + ((T_po T) (Int32.toNatClampNeg ((36 * p) + e)))) (e + 1)
theorem m_X5_totalOf_l_s (c : MR) (T : TR) (p : Int32) (n : Nat) (fd : Int64) (e : Int32) : m_X5_totalOf_l c T p (n + 1) fd e = if (M_mn c) ≤ e then fd else m_X5_totalOf_l c T p n (fd + ((T_po T) (Int32.toNatClampNeg ((36 * p) + e)))) (e + 1) := rfl
def m_X5_totalOf (c : MR) (T : TR) (p : Int32) : Int64 := m_X5_totalOf_l c T p 37 0 0
set_option maxRecDepth 100000 in
set_option maxHeartbeats 2000000 in
theorem l_X5_totalOf {Z : pw_Z} {Q : State → Prop} {L : List Nat} {F : Nat → va_E} {m : Nat} {rf : Nat → Nat} {c : MR} {T : TR} {p : Int32} (C : pw_C Z cX5_totalOf 5 RX5 wsX5_totalOf ⟨0, 0, 0, 0⟩ (some .long)) (hE : pw_End Z Q (mX (zG Z) m rf c T) L F (po_d (some (.long (m_X5_totalOf c T p))) (mX (zG Z) m rf c T) L F) 0 0) (N : Nat) (hN : N ≤ 36) (hmn : M_mn c = nI N) (a : Nat) (ha : a < 6) (hpa : p = nI a) : ∀ (n k : Nat) (fd : Int64) (e : Int32), N < k + n → k ≤ N → e = nI k → m_X5_totalOf_l c T p n fd e = (m_X5_totalOf c T p) → PW Z (mX (zG Z) m rf c T) L F 0 0 Q 5 [(0, .ref m), (1, .int p), (2, .long fd), (4, .int e)] [] := by
  intro n
  induction n with
  | zero =>
    intro k fd e h1 h2
    exact absurd h1 (by omega)
  | succ n ih =>
    intro k fd e hk1 hk2 he hR
    have i5_ : ∀ w ∈ wsX50, w ∈ wsX5_totalOf := by decide +kernel
    have w0_ : Cond.fieldLink RX5 219 "AgedAssetsModel" "months" "I" ∈ wsX5_totalOf := by decide +kernel
    have w1_ : Cond.fieldLink RX5 32 "AgedAssetsModel" "posted" "[J" ∈ wsX5_totalOf := by decide +kernel
    refine pk_iload C 3 dX5_totalOf_5 rfl (pc2 := 7) rfl ?_
    refine pk_aload_n C 0 dX5_totalOf_7 rfl rfl (pc2 := 8) rfl ?_
    refine pk_get (v := .int (M_mn c)) C i5_ (pw_atX 0 rfl) (ci := 5) rfl 10 (by decide) w0_ rfl rfl dX5_totalOf_8 (pc2 := 11) rfl ?_
    refine pk_icmp_ge (tgt := 35) C dX5_totalOf_11 (by decide) (pc2 := 14) rfl (fun h1_ => ?_) (fun h1_ => ?_)
    ·
      refine pk_lload_n C 2 dX5_totalOf_35 rfl rfl (pc2 := 36) rfl ?_
      exact pr_long C hE (po_d_rfl (by rw [← hR, m_X5_totalOf_l_s, if_pos h1_]) rfl) dX5_totalOf_36
    ·
      refine pk_lload_n C 2 dX5_totalOf_14 rfl rfl (pc2 := 15) rfl ?_
      refine pk_aload_n C 0 dX5_totalOf_15 rfl rfl (pc2 := 16) rfl ?_
      refine pk_get (v := .ref (rf 7)) C i5_ (pw_atX 0 rfl) (ci := 5) rfl 9 (by decide) w1_ rfl rfl dX5_totalOf_16 (pc2 := 19) rfl ?_
      refine pk_bipush (v := 36) C dX5_totalOf_19 (by decide) (pc2 := 21) rfl ?_
      refine pk_iload_n C 1 dX5_totalOf_21 rfl rfl (pc2 := 22) rfl ?_
      refine pk_imul C dX5_totalOf_22 (pc2 := 23) rfl ?_
      refine pk_iload C 3 dX5_totalOf_23 rfl (pc2 := 25) rfl ?_
      refine pk_iadd C dX5_totalOf_25 (pc2 := 26) rfl ?_
      refine pk_lald (v := ((T_po T) (Int32.toNatClampNeg ((36 * p) + e)))) C (pw_atX 8 rfl) (ix_pm hpa ha he (Nat.lt_of_lt_of_le (lp_lt hmn (by omega) he hk2 h1_) hN)) rfl dX5_totalOf_26 (pc2 := 27) rfl ?_
      refine pk_ladd C dX5_totalOf_27 (pc2 := 28) rfl ?_
      refine pk_topl (fun n1_ en1_ => ?_)
      refine pk_lstore_n (lv' := [(2, .long n1_), (0, .ref m), (1, .int p), (4, .int e)]) C dX5_totalOf_28 rfl (by decide) rfl (pc2 := 29) rfl ?_
      refine pk_iinc (v := (e + 1)) (lv' := [(4, .int (e + 1)), (2, .long n1_), (0, .ref m), (1, .int p)]) C 3 dX5_totalOf_29 rfl rfl (by decide) rfl (pc2 := 32) rfl ?_
      refine pk_goto (tgt := 5) C dX5_totalOf_32 (by decide) ?_
      refine pw_lv [2, 3, 1, 0] (lv' := [(0, .ref m), (1, .int p), (2, .long n1_), (4, .int (e + 1))]) rfl ?_
      subst en1_
      exact ih (k + 1) (fd + ((T_po T) (Int32.toNatClampNeg ((36 * p) + e)))) (e + 1) (by omega) (lp_lt hmn (by omega) he hk2 h1_) (by rw [he, nI_1]) (by rw [← hR, m_X5_totalOf_l_s, if_neg h1_])
set_option maxRecDepth 100000 in
set_option maxHeartbeats 2000000 in
theorem c_X5_totalOf (l : Launch) (G : pw_G) (L : List Nat) (F : Nat → va_E) (m : Nat) (rf : Nat → Nat) (c : MR) (T : TR) (p : Int32) (N : Nat) (hN : N ≤ 36) (hmn : M_mn c = nI N) (a : Nat) (ha : a < 6) (hpa : p = nI a) : PM l yX5_totalOf wsX5_totalOf ⟨0, 0, 0, 0⟩ G [.ref m, .int p] (mX G m rf c T) L F 0 0 (po_d (some (.long (m_X5_totalOf c T p))) (mX G m rf c T) L F) := by
  refine pm_entry (by decide) rfl rfl (Nat.le_of_ble_eq_true rfl) ?_
  intro Z Q C hl0 hG0 hnm hE
  subst hl0
  subst hG0
  show PW Z (mX (zG Z) m rf c T) L F 0 0 Q 0 [(0, .ref m), (1, .int p)] []
  refine pk_lconst (v := 0) C dX5_totalOf_0 (by decide) (pc2 := 1) rfl ?_
  refine pk_lstore_n (lv' := [(2, .long 0), (0, .ref m), (1, .int p)]) C dX5_totalOf_1 rfl (by decide) rfl (pc2 := 2) rfl ?_
  refine pk_iconst (v := 0) C dX5_totalOf_2 (by decide) (pc2 := 3) rfl ?_
  refine pk_istore (lv' := [(4, .int 0), (2, .long 0), (0, .ref m), (1, .int p)]) C dX5_totalOf_3 (by decide) rfl (pc2 := 5) rfl ?_
  refine pw_lv [2, 3, 1, 0] (lv' := [(0, .ref m), (1, .int p), (2, .long 0), (4, .int 0)]) rfl ?_
  exact l_X5_totalOf C hE N hN hmn a ha hpa 37 0 0 0 (by omega) (Nat.zero_le _) rfl rfl

theorem ev_in {c : MR} {e : Int32} {N : Nat} (hN : N ≤ 40) (hev : M_ev c = nI N) (h0 : ¬ e < 0) (h1 : ¬ (M_ev c) ≤ e) : ∃ j, j < N ∧ e = nI j := by
  rw [hev] at h1
  exact re_int h0 h1 (by omega)
theorem ev_40 {e : Int32} {N : Nat} (hN : N ≤ 40) (h : ∃ j, j < N ∧ e = nI j) : vp_in e 40 := by
  obtain ⟨j, h1, rfl⟩ := h
  exact vp_in_nI (by omega) (by decide)
def m_X5_isEvent (c : MR) (T : TR) (e : Int32) : Int32 :=
  if e < 0 then 0 else if (M_ev c) ≤ e then 0 else if ((T_of T) (Int32.toNatClampNeg e)) ≤ 0 then 0 else 1
set_option maxRecDepth 100000 in
set_option maxHeartbeats 2000000 in
theorem c_X5_isEvent (l : Launch) (G : pw_G) (L : List Nat) (F : Nat → va_E) (m : Nat) (rf : Nat → Nat) (c : MR) (T : TR) (e : Int32) (N : Nat) (hN : N ≤ 40) (hev : M_ev c = nI N) : PM l yX5_isEvent wsX5_isEvent ⟨0, 0, 0, 0⟩ G [.ref m, .int e] (mX G m rf c T) L F 0 0 (po_d (some (.int (m_X5_isEvent c T e))) (mX G m rf c T) L F) := by
  refine pm_entry (by decide) rfl rfl (Nat.le_of_ble_eq_true rfl) ?_
  intro Z Q C hl0 hG0 hnm hE
  subst hl0
  subst hG0
  have i5_ : ∀ w ∈ wsX50, w ∈ wsX5_isEvent := by decide +kernel
  have w0_ : Cond.fieldLink RX5 72 "AgedAssetsModel" "events" "I" ∈ wsX5_isEvent := by decide +kernel
  have w1_ : Cond.fieldLink RX5 35 "AgedAssetsModel" "of" "[I" ∈ wsX5_isEvent := by decide +kernel
  show PW Z (mX (zG Z) m rf c T) L F 0 0 Q 0 [(0, .ref m), (1, .int e)] []
  refine pk_iload_n C 1 dX5_isEvent_0 rfl rfl (pc2 := 1) rfl ?_
  refine pk_if_lt (tgt := 25) C dX5_isEvent_1 (by decide) (pc2 := 4) rfl (fun h1_ => ?_) (fun h1_ => ?_)
  ·
    refine pk_iconst (v := 0) C dX5_isEvent_25 (by decide) (pc2 := 26) rfl ?_
    exact pr_int (ty := .boolean) C hE rfl rfl (po_d_rfl (by first | with_reducible rfl | (unfold m_X5_isEvent; rw [if_pos h1_])) (by first | with_reducible rfl | (unfold m_X5_isEvent; rw [if_pos h1_]))) dX5_isEvent_26
  ·
    refine pk_iload_n C 1 dX5_isEvent_4 rfl rfl (pc2 := 5) rfl ?_
    refine pk_aload_n C 0 dX5_isEvent_5 rfl rfl (pc2 := 6) rfl ?_
    refine pk_get (v := .int (M_ev c)) C i5_ (pw_atX 0 rfl) (ci := 5) rfl 11 (by decide) w0_ rfl rfl dX5_isEvent_6 (pc2 := 9) rfl ?_
    refine pk_icmp_ge (tgt := 25) C dX5_isEvent_9 (by decide) (pc2 := 12) rfl (fun h2_ => ?_) (fun h2_ => ?_)
    ·
      refine pk_iconst (v := 0) C dX5_isEvent_25 (by decide) (pc2 := 26) rfl ?_
      exact pr_int (ty := .boolean) C hE rfl rfl (po_d_rfl (by first | with_reducible rfl | (unfold m_X5_isEvent; rw [if_neg h1_, if_pos h2_])) (by first | with_reducible rfl | (unfold m_X5_isEvent; rw [if_neg h1_, if_pos h2_]))) dX5_isEvent_26
    ·
      have he40 := ev_40 hN (ev_in hN hev h1_ h2_)
      refine pk_aload_n C 0 dX5_isEvent_12 rfl rfl (pc2 := 13) rfl ?_
      refine pk_get (v := .ref (rf 8)) C i5_ (pw_atX 0 rfl) (ci := 5) rfl 12 (by decide) w1_ rfl rfl dX5_isEvent_13 (pc2 := 16) rfl ?_
      refine pk_iload_n C 1 dX5_isEvent_16 rfl rfl (pc2 := 17) rfl ?_
      refine pk_iald (v := ((T_of T) (Int32.toNatClampNeg e))) C (pw_atX 9 rfl) he40 rfl dX5_isEvent_17 (pc2 := 18) rfl ?_
      refine pk_if_le (tgt := 25) C dX5_isEvent_18 (by decide) (pc2 := 21) rfl (fun h3_ => ?_) (fun h3_ => ?_)
      ·
        refine pk_iconst (v := 0) C dX5_isEvent_25 (by decide) (pc2 := 26) rfl ?_
        exact pr_int (ty := .boolean) C hE rfl rfl (po_d_rfl (by first | with_reducible rfl | (unfold m_X5_isEvent; rw [if_neg h1_, if_neg h2_, if_pos h3_])) (by first | with_reducible rfl | (unfold m_X5_isEvent; rw [if_neg h1_, if_neg h2_, if_pos h3_]))) dX5_isEvent_26
      ·
        refine pk_iconst (v := 1) C dX5_isEvent_21 (by decide) (pc2 := 22) rfl ?_
        refine pk_goto (tgt := 26) C dX5_isEvent_22 (by decide) ?_
        exact pr_int (ty := .boolean) C hE rfl rfl (po_d_rfl (by first | with_reducible rfl | (unfold m_X5_isEvent; rw [if_neg h1_, if_neg h2_, if_neg h3_])) (by first | with_reducible rfl | (unfold m_X5_isEvent; rw [if_neg h1_, if_neg h2_, if_neg h3_]))) dX5_isEvent_26
theorem zb_m_X5_isEvent (c : MR) (T : TR) (e : Int32) : (m_X5_isEvent c T e) = 0 ∨ (m_X5_isEvent c T e) = 1 := by
  unfold m_X5_isEvent
  repeat (first | split | (exact Or.inl rfl) | (exact Or.inr rfl) | assumption)
theorem isEvent_in {c : MR} {T : TR} {NP NE NM : Nat} {e : Int32} (h : RI c T NP NE NM) (hp : ¬ m_X5_isEvent c T e = 0) : ∃ j a, j < NE ∧ e = nI j ∧ a < NP ∧ T_of T (Int32.toNatClampNeg e) = nI (a + 1) := by
  unfold m_X5_isEvent at hp
  by_cases a0 : e < 0
  · rw [if_pos a0] at hp; exact absurd rfl hp
  · rw [if_neg a0] at hp
    by_cases a1 : (M_ev c) ≤ e
    · rw [if_pos a1] at hp; exact absurd rfl hp
    · rw [if_neg a1] at hp
      by_cases a2 : ((T_of T) (Int32.toNatClampNeg e)) ≤ 0
      · rw [if_pos a2] at hp; exact absurd rfl hp
      · obtain ⟨j, hj, he⟩ := ev_in h.2.1.1 h.2.1.2 a0 a1
        have hc : Int32.toNatClampNeg e = j := by rw [he, nI_clamp (by have := h.2.1.1; omega)]
        rcases (h.2.2.2.2 j hj).2 with q | ⟨a, ha, q⟩
        · rw [hc, q] at a2; exact absurd (by decide) a2
        · exact ⟨j, a, hj, he, ha, by rw [hc]; exact q⟩
theorem was_1 {x : Int32} {a : Nat} (h : x = nI (a + 1)) : x - 1 = nI a := by
  rw [h, ← nI_1, Int32.add_sub_cancel]
theorem f0_nc (c : MR) : M_nc (M_mk 0 (M_pt c) (M_mn c) (M_ev c) (M_co c) (M_al c) (M_re c) (M_lo c) (M_rs c) (M_li c) (M_he c) (M_go c) (M_sp c) (M_ba c) (M_le c) (M_lf c) (M_mo c) (M_un c) (M_ch c) (M_lc c) (M_ac c) (M_bd c)) = M_nc c := rfl
def f0_X5_strike (c : MR) (T : TR) (e : Int32) : MR :=
  (M_mk 0 (M_pt c) (M_mn c) (M_ev c) (M_co c) (M_al c) (M_re c) (M_lo c) (M_rs c) (M_li c) (M_he c) (M_go c) (M_sp c) (M_ba c) (M_le c) (M_lf c) (M_mo c) (M_un c) (M_ch c) (M_lc c) (M_ac c) (M_bd c))
set_option maxRecDepth 100000 in
set_option maxHeartbeats 2000000 in
theorem s0_X5_strike {Z : pw_Z} {Q : State → Prop} {L : List Nat} {F : Nat → va_E} {m : Nat} {rf : Nat → Nat} {NP NE NM : Nat} {c : MR} {T : TR} {e : Int32} (C : pw_C Z cX5_strike 4 RX5 wsX5_strike ⟨6, 0, 0, 140⟩ (some .boolean)) (hri : RI c T NP NE NM) (k : PW Z (mX (zG Z) m rf (f0_X5_strike c T e) T) L F 0 0 Q 5 [(0, .ref m), (1, .int e)] []) : PW Z (mX (zG Z) m rf c T) L F 0 0 Q 0 [(0, .ref m), (1, .int e)] [] := by
  have i5_ : ∀ w ∈ wsX50, w ∈ wsX5_strike := by decide +kernel
  have w0_ : Cond.fieldLink RX5 56 "AgedAssetsModel" "code" "I" ∈ wsX5_strike := by decide +kernel
  refine pk_aload_n C 0 dX5_strike_0 rfl rfl (pc2 := 1) rfl ?_
  refine pk_iconst (v := 0) C dX5_strike_1 (by decide) (pc2 := 2) rfl ?_
  refine pk_putX (X' := ((m, kM rf 0 (M_pt c) (M_mn c) (M_ev c) (M_co c) (M_al c) (M_re c) (M_lo c) (M_rs c) (M_li c) (M_he c) (M_go c) (M_sp c) (M_ba c) (M_le c) (M_lf c) (M_mo c) (M_un c) (M_ch c) (M_lc c) (M_ac c) (M_bd c)) :: mT (zG Z) rf T)) C i5_ tyX5_ok nmX5 0 rfl (ci := 5) rfl 0 (by decide) w0_ rfl rfl rfl rfl rfl (Nat.le_of_ble_eq_true rfl) rfl dX5_strike_2 (pc2 := 5) rfl ?_
  refine pw_conv (X' := (mX (zG Z) m rf (M_mk 0 (M_pt c) (M_mn c) (M_ev c) (M_co c) (M_al c) (M_re c) (M_lo c) (M_rs c) (M_li c) (M_he c) (M_go c) (M_sp c) (M_ba c) (M_le c) (M_lf c) (M_mo c) (M_un c) (M_ch c) (M_lc c) (M_ac c) (M_bd c)) T)) mX_mk ?_
  refine pw_lv [0, 1] (lv' := [(0, .ref m), (1, .int e)]) rfl ?_
  have k9 := k
  unfold f0_X5_strike at k9
  exact k9
def m_X5_strike_1 (c : MR) (T : TR) (e : Int32) (c1 : MR) : Int32 × MR × TR :=
  if (m_X5_isEvent c1 T e) = 0 then (0, c1, T) else if ((m_X5_reckon c1 (T_s_of T (upd (T_of T) (Int32.toNatClampNeg e) 0)) (((T_of T) (Int32.toNatClampNeg e)) - 1) 35).1) = 0 then (((m_X5_reckon c1 (T_s_of T (upd (T_of T) (Int32.toNatClampNeg e) 0)) (((T_of T) (Int32.toNatClampNeg e)) - 1) 35).1), ((m_X5_reckon c1 (T_s_of T (upd (T_of T) (Int32.toNatClampNeg e) 0)) (((T_of T) (Int32.toNatClampNeg e)) - 1) 35).2.1), (T_s_of ((m_X5_reckon c1 (T_s_of T (upd (T_of T) (Int32.toNatClampNeg e) 0)) (((T_of T) (Int32.toNatClampNeg e)) - 1) 35).2.2) (upd (T_of ((m_X5_reckon c1 (T_s_of T (upd (T_of T) (Int32.toNatClampNeg e) 0)) (((T_of T) (Int32.toNatClampNeg e)) - 1) 35).2.2)) (Int32.toNatClampNeg e) ((T_of T) (Int32.toNatClampNeg e))))) else (((m_X5_reckon c1 (T_s_of T (upd (T_of T) (Int32.toNatClampNeg e) 0)) (((T_of T) (Int32.toNatClampNeg e)) - 1) 35).1), ((m_X5_reckon c1 (T_s_of T (upd (T_of T) (Int32.toNatClampNeg e) 0)) (((T_of T) (Int32.toNatClampNeg e)) - 1) 35).2.1), (T_s_of ((m_X5_reckon c1 (T_s_of T (upd (T_of T) (Int32.toNatClampNeg e) 0)) (((T_of T) (Int32.toNatClampNeg e)) - 1) 35).2.2) (upd (T_of ((m_X5_reckon c1 (T_s_of T (upd (T_of T) (Int32.toNatClampNeg e) 0)) (((T_of T) (Int32.toNatClampNeg e)) - 1) 35).2.2)) (Int32.toNatClampNeg e) 0)))
def m_X5_strike_0 (c : MR) (T : TR) (e : Int32) : Int32 × MR × TR := m_X5_strike_1 c T e (f0_X5_strike c T e)
def m_X5_strike (c : MR) (T : TR) (e : Int32) : Int32 × MR × TR := m_X5_strike_0 c T e
set_option maxRecDepth 100000 in
set_option maxHeartbeats 2000000 in
theorem t1_X5_strike {Z : pw_Z} {Q : State → Prop} {L : List Nat} {F : Nat → va_E} {m : Nat} {rf : Nat → Nat} {NP NE NM : Nat} {c : MR} {T : TR} {e : Int32} {c1 : MR} (C : pw_C Z cX5_strike 4 RX5 wsX5_strike ⟨6, 0, 0, 140⟩ (some .boolean)) {X9 : va_W} {R : Int32 × MR × TR} (hE : pw_End Z Q X9 L F (po_d (some (.int (R.1))) (mX (zG Z) m rf (R.2.1) (R.2.2)) L F) 0 0) (hri : RI c T NP NE NM) (hri1 : RI c1 T NP NE NM) (hR : m_X5_strike_1 c T e c1 = R) : PW Z (mX (zG Z) m rf c1 T) L F 0 0 Q 5 [(0, .ref m), (1, .int e)] [] := by
  have i5_ : ∀ w ∈ wsX50, w ∈ wsX5_strike := by decide +kernel
  have w0_ : Cond.fieldLink RX5 35 "AgedAssetsModel" "of" "[I" ∈ wsX5_strike := by decide +kernel
  refine pk_aload_n C 0 dX5_strike_5 rfl rfl (pc2 := 6) rfl ?_
  refine pk_iload_n C 1 dX5_strike_6 rfl rfl (pc2 := 7) rfl ?_
  refine pk_dV (cx := (mX (zG Z) m rf c1 T)) (wr := []) (X2 := (mX (zG Z) m rf c1 T)) (st := []) (st2 := [.int (m_X5_isEvent c1 T e)]) (As := [.int e]) C (c_X5_isEvent (zl Z) (zG Z) L F m rf c1 T e NE hri.2.1.1 hri1.2.1.2) gX5_strike_X5_isEvent rfl rfl rfl 1 (by decide +kernel) ⟨Nat.le_of_ble_eq_true rfl, Nat.le_of_ble_eq_true rfl⟩ (pw_atX 0 rfl) rfl rfl rfl (Nat.le_of_ble_eq_true rfl) ⟨Nat.le_of_ble_eq_true rfl, Nat.le_of_ble_eq_true rfl⟩ [0, 1, 2, 3, 4, 5, 6, 7, 8, 9, 10, 11, 12, 13, 14, 15] [] [0, 1, 2, 3, 4, 5, 6, 7, 8, 9, 10, 11, 12, 13, 14, 15] rfl rfl rfl rfl (by decide) rfl rfl dX5_strike_7 (pc2 := 10) rfl rfl ?_
  refine pk_topi (fun n1_ en1_ => ?_)
  refine pk_if_ne (tgt := 15) C dX5_strike_10 (by decide) (pc2 := 13) rfl (fun h1_ => ?_) (fun h1_ => ?_)
  ·
    obtain ⟨j_, a_, hj_, he_, ha_, hof_⟩ := isEvent_in hri1 (by rw [← en1_]; exact h1_)
    have he40 : vp_in e 40 := ev_40 hri.2.1.1 ⟨j_, hj_, he_⟩
    refine pk_aload_n C 0 dX5_strike_15 rfl rfl (pc2 := 16) rfl ?_
    refine pk_get (v := .ref (rf 8)) C i5_ (pw_atX 0 rfl) (ci := 5) rfl 12 (by decide) w0_ rfl rfl dX5_strike_16 (pc2 := 19) rfl ?_
    refine pk_iload_n C 1 dX5_strike_19 rfl rfl (pc2 := 20) rfl ?_
    refine pk_iald (v := ((T_of T) (Int32.toNatClampNeg e))) C (pw_atX 9 rfl) he40 rfl dX5_strike_20 (pc2 := 21) rfl ?_
    refine pk_topi (fun n2_ en2_ => ?_)
    refine pk_istore_n (lv' := [(2, .int n2_), (0, .ref m), (1, .int e)]) C dX5_strike_21 rfl (by decide) rfl (pc2 := 22) rfl ?_
    refine pk_aload_n C 1 dX5_strike_22 rfl rfl (pc2 := 23) rfl ?_
    refine pk_get (v := .ref (rf 8)) C i5_ (pw_atX 0 rfl) (ci := 5) rfl 12 (by decide) w0_ rfl rfl dX5_strike_23 (pc2 := 26) rfl ?_
    refine pk_iload_n C 2 dX5_strike_26 rfl rfl (pc2 := 27) rfl ?_
    refine pk_iconst (v := 0) C dX5_strike_27 (by decide) (pc2 := 28) rfl ?_
    refine pk_iastX (X' := (mX (zG Z) m rf c1 (T_s_of T (upd (T_of T) (Int32.toNatClampNeg e) 0)))) C 9 rfl he40 mT_s_of dX5_strike_28 (pc2 := 29) rfl ?_
    generalize en3_ : (T_s_of T (upd (T_of T) (Int32.toNatClampNeg e) 0)) = n3_
    refine pk_aload_n C 1 dX5_strike_29 rfl rfl (pc2 := 30) rfl ?_
    refine pk_iload_n C 0 dX5_strike_30 rfl rfl (pc2 := 31) rfl ?_
    refine pk_iconst (v := 1) C dX5_strike_31 (by decide) (pc2 := 32) rfl ?_
    refine pk_isub C dX5_strike_32 (pc2 := 33) rfl ?_
    refine pk_bipush (v := 35) C dX5_strike_33 (by decide) (pc2 := 35) rfl ?_
    have hgo_ : GO (M_ev c1) n3_ (n2_ - 1) 35 := by subst en1_ en2_ en3_; exact GO_4 (by simp only [T_fi_s_of]) (by simp only [T_li_s_of]) (by simp only [T_ki_s_of]) (by simp only [T_nu_s_of]) (RI_go hri1 ha_ (was_1 hof_) (by decide))
    refine pk_dV (cx := (mX (zG Z) m rf c1 n3_)) (wr := []) (X2 := (mX (zG Z) m rf ((m_X5_reckon c1 n3_ (n2_ - 1) 35).2.1) ((m_X5_reckon c1 n3_ (n2_ - 1) 35).2.2))) (st := []) (st2 := [.int ((m_X5_reckon c1 n3_ (n2_ - 1) 35).1)]) (As := [.int (n2_ - 1), .int 35]) C (c_X5_reckon (zl Z) (zG Z) L F m rf c1 n3_ (n2_ - 1) 35 hgo_ hgo_) gX5_strike_X5_reckon rfl rfl rfl 2 (by decide +kernel) ⟨Nat.le_of_ble_eq_true rfl, Nat.le_of_ble_eq_true rfl⟩ (pw_atX 0 rfl) rfl rfl rfl (Nat.le_of_ble_eq_true rfl) ⟨Nat.le_of_ble_eq_true rfl, Nat.le_of_ble_eq_true rfl⟩ [0, 1, 2, 3, 4, 5, 6, 7, 8, 9, 10, 11, 12, 13, 14, 15] [] [0, 1, 2, 3, 4, 5, 6, 7, 8, 9, 10, 11, 12, 13, 14, 15] rfl rfl rfl rfl (by decide) rfl rfl dX5_strike_35 (pc2 := 38) rfl rfl ?_
    generalize en4_ : ((m_X5_reckon c1 n3_ (n2_ - 1) 35).2.1) = n4_
    generalize en5_ : ((m_X5_reckon c1 n3_ (n2_ - 1) 35).2.2) = n5_
    refine pk_topi (fun n6_ en6_ => ?_)
    refine pk_istore_n (lv' := [(3, .int n6_), (2, .int n2_), (0, .ref m), (1, .int e)]) C dX5_strike_38 rfl (by decide) rfl (pc2 := 39) rfl ?_
    refine pk_aload_n C 2 dX5_strike_39 rfl rfl (pc2 := 40) rfl ?_
    refine pk_get (v := .ref (rf 8)) C i5_ (pw_atX 0 rfl) (ci := 5) rfl 12 (by decide) w0_ rfl rfl dX5_strike_40 (pc2 := 43) rfl ?_
    refine pk_iload_n C 3 dX5_strike_43 rfl rfl (pc2 := 44) rfl ?_
    refine pk_iload_n C 0 dX5_strike_44 rfl rfl (pc2 := 45) rfl ?_
    refine pk_if_eq (tgt := 52) C dX5_strike_45 (by decide) (pc2 := 48) rfl (fun h2_ => ?_) (fun h2_ => ?_)
    ·
      refine pk_iload_n C 1 dX5_strike_52 rfl rfl (pc2 := 53) rfl ?_
      refine pk_iastX (X' := (mX (zG Z) m rf n4_ (T_s_of n5_ (upd (T_of n5_) (Int32.toNatClampNeg e) n2_)))) C 9 rfl he40 mT_s_of dX5_strike_53 (pc2 := 54) rfl ?_
      generalize en7_ : (T_s_of n5_ (upd (T_of n5_) (Int32.toNatClampNeg e) n2_)) = n7_
      refine pk_iload_n C 0 dX5_strike_54 rfl rfl (pc2 := 55) rfl ?_
      subst en1_ en2_ en3_ en4_ en5_ en6_ en7_
      unfold m_X5_strike_1 at hR
      try rw [if_neg h1_] at hR
      try rw [if_pos h2_] at hR
      subst hR
      exact pr_int (ty := .boolean) C hE rfl (zb_n (zb_m_X5_reckon _ _ _ _)) (po_d_rfl rfl rfl) dX5_strike_55
    ·
      refine pk_iconst (v := 0) C dX5_strike_48 (by decide) (pc2 := 49) rfl ?_
      refine pk_goto (tgt := 53) C dX5_strike_49 (by decide) ?_
      refine pk_iastX (X' := (mX (zG Z) m rf n4_ (T_s_of n5_ (upd (T_of n5_) (Int32.toNatClampNeg e) 0)))) C 9 rfl he40 mT_s_of dX5_strike_53 (pc2 := 54) rfl ?_
      generalize en8_ : (T_s_of n5_ (upd (T_of n5_) (Int32.toNatClampNeg e) 0)) = n8_
      refine pk_iload_n C 0 dX5_strike_54 rfl rfl (pc2 := 55) rfl ?_
      subst en1_ en2_ en3_ en4_ en5_ en6_ en8_
      unfold m_X5_strike_1 at hR
      try rw [if_neg h1_] at hR
      try rw [if_neg h2_] at hR
      subst hR
      exact pr_int (ty := .boolean) C hE rfl (zb_n (zb_m_X5_reckon _ _ _ _)) (po_d_rfl rfl rfl) dX5_strike_55
  ·
    refine pk_iconst (v := 0) C dX5_strike_13 (by decide) (pc2 := 14) rfl ?_
    subst en1_
    unfold m_X5_strike_1 at hR
    try rw [if_pos h1_] at hR
    subst hR
    exact pr_int (ty := .boolean) C hE rfl rfl (po_d_rfl rfl rfl) dX5_strike_14
set_option maxRecDepth 100000 in
set_option maxHeartbeats 2000000 in
theorem t0_X5_strike {Z : pw_Z} {Q : State → Prop} {L : List Nat} {F : Nat → va_E} {m : Nat} {rf : Nat → Nat} {NP NE NM : Nat} {c : MR} {T : TR} {e : Int32} (C : pw_C Z cX5_strike 4 RX5 wsX5_strike ⟨6, 0, 0, 140⟩ (some .boolean)) {X9 : va_W} {R : Int32 × MR × TR} (hE : pw_End Z Q X9 L F (po_d (some (.int (R.1))) (mX (zG Z) m rf (R.2.1) (R.2.2)) L F) 0 0) (hri : RI c T NP NE NM) (hR : m_X5_strike_0 c T e = R) : PW Z (mX (zG Z) m rf c T) L F 0 0 Q 0 [(0, .ref m), (1, .int e)] [] := by
  refine s0_X5_strike C hri ?_
  exact t1_X5_strike C hE hri (RI_nc hri (f0_nc c)) hR
set_option maxRecDepth 100000 in
set_option maxHeartbeats 2000000 in
theorem c_X5_strike (l : Launch) (G : pw_G) (L : List Nat) (F : Nat → va_E) (m : Nat) (rf : Nat → Nat) (NP NE NM : Nat) (c : MR) (T : TR) (e : Int32) (hri : RI c T NP NE NM) : PM l yX5_strike wsX5_strike ⟨6, 0, 0, 140⟩ G [.ref m, .int e] (mX G m rf c T) L F 0 0 (po_d (some (.int ((m_X5_strike c T e).1))) (mX G m rf ((m_X5_strike c T e).2.1) ((m_X5_strike c T e).2.2)) L F) := by
  refine pm_entry (by decide) rfl rfl (Nat.le_of_ble_eq_true rfl) ?_
  intro Z Q C hl0 hG0 hnm hE
  subst hl0
  subst hG0
  exact t0_X5_strike C hE hri rfl
def f0_X5_told (c : MR) (T : TR) (e : Int32) (wh : Int32) : MR :=
  (M_mk 0 (M_pt c) (M_mn c) (M_ev c) (M_co c) (M_al c) (M_re c) (M_lo c) (M_rs c) (M_li c) (M_he c) (M_go c) (M_sp c) (M_ba c) (M_le c) (M_lf c) (M_mo c) (M_un c) (M_ch c) (M_lc c) (M_ac c) (M_bd c))
set_option maxRecDepth 100000 in
set_option maxHeartbeats 2000000 in
theorem s0_X5_told {Z : pw_Z} {Q : State → Prop} {L : List Nat} {F : Nat → va_E} {m : Nat} {rf : Nat → Nat} {NP NE NM : Nat} {c : MR} {T : TR} {e : Int32} {wh : Int32} (C : pw_C Z cX5_told 3 RX5 wsX5_told ⟨1, 0, 0, 21⟩ (some .int)) (hri : RI c T NP NE NM) (k : PW Z (mX (zG Z) m rf (f0_X5_told c T e wh) T) L F 0 0 Q 5 [(0, .ref m), (1, .int e), (2, .int wh)] []) : PW Z (mX (zG Z) m rf c T) L F 0 0 Q 0 [(0, .ref m), (1, .int e), (2, .int wh)] [] := by
  have i5_ : ∀ w ∈ wsX50, w ∈ wsX5_told := by decide +kernel
  have w0_ : Cond.fieldLink RX5 56 "AgedAssetsModel" "code" "I" ∈ wsX5_told := by decide +kernel
  refine pk_aload_n C 0 dX5_told_0 rfl rfl (pc2 := 1) rfl ?_
  refine pk_iconst (v := 0) C dX5_told_1 (by decide) (pc2 := 2) rfl ?_
  refine pk_putX (X' := ((m, kM rf 0 (M_pt c) (M_mn c) (M_ev c) (M_co c) (M_al c) (M_re c) (M_lo c) (M_rs c) (M_li c) (M_he c) (M_go c) (M_sp c) (M_ba c) (M_le c) (M_lf c) (M_mo c) (M_un c) (M_ch c) (M_lc c) (M_ac c) (M_bd c)) :: mT (zG Z) rf T)) C i5_ tyX5_ok nmX5 0 rfl (ci := 5) rfl 0 (by decide) w0_ rfl rfl rfl rfl rfl (Nat.le_of_ble_eq_true rfl) rfl dX5_told_2 (pc2 := 5) rfl ?_
  refine pw_conv (X' := (mX (zG Z) m rf (M_mk 0 (M_pt c) (M_mn c) (M_ev c) (M_co c) (M_al c) (M_re c) (M_lo c) (M_rs c) (M_li c) (M_he c) (M_go c) (M_sp c) (M_ba c) (M_le c) (M_lf c) (M_mo c) (M_un c) (M_ch c) (M_lc c) (M_ac c) (M_bd c)) T)) mX_mk ?_
  refine pw_lv [0, 1, 2] (lv' := [(0, .ref m), (1, .int e), (2, .int wh)]) rfl ?_
  have k9 := k
  unfold f0_X5_told at k9
  exact k9
def m_X5_told_1 (c : MR) (T : TR) (e : Int32) (wh : Int32) (c1 : MR) : Int32 × MR :=
  if (m_X5_isEvent c1 T e) = 0 then ((-1), c1) else if wh < 0 then ((-1), c1) else if wh ≤ 3 then if wh = 0 then ((((T_of T) (Int32.toNatClampNeg e)) - 1), c1) else if wh = 1 then (((T_wh T) (Int32.toNatClampNeg e)), c1) else if wh = 2 then (((T_ki T) (Int32.toNatClampNeg e)), c1) else (((T_nu T) (Int32.toNatClampNeg e)), c1) else ((-1), c1)
def m_X5_told_0 (c : MR) (T : TR) (e : Int32) (wh : Int32) : Int32 × MR := m_X5_told_1 c T e wh (f0_X5_told c T e wh)
def m_X5_told (c : MR) (T : TR) (e : Int32) (wh : Int32) : Int32 × MR := m_X5_told_0 c T e wh
set_option maxRecDepth 100000 in
set_option maxHeartbeats 2000000 in
theorem t1_X5_told {Z : pw_Z} {Q : State → Prop} {L : List Nat} {F : Nat → va_E} {m : Nat} {rf : Nat → Nat} {NP NE NM : Nat} {c : MR} {T : TR} {e : Int32} {wh : Int32} {c1 : MR} (C : pw_C Z cX5_told 3 RX5 wsX5_told ⟨1, 0, 0, 21⟩ (some .int)) {X9 : va_W} {R : Int32 × MR} (hE : pw_End Z Q X9 L F (po_d (some (.int (R.1))) (mX (zG Z) m rf (R.2) T) L F) 0 0) (hri : RI c T NP NE NM) (hri1 : RI c1 T NP NE NM) (hR : m_X5_told_1 c T e wh c1 = R) : PW Z (mX (zG Z) m rf c1 T) L F 0 0 Q 5 [(0, .ref m), (1, .int e), (2, .int wh)] [] := by
  have i5_ : ∀ w ∈ wsX50, w ∈ wsX5_told := by decide +kernel
  have w0_ : Cond.fieldLink RX5 47 "AgedAssetsModel" "numbers" "[I" ∈ wsX5_told := by decide +kernel
  have w1_ : Cond.fieldLink RX5 41 "AgedAssetsModel" "kinds" "[I" ∈ wsX5_told := by decide +kernel
  have w2_ : Cond.fieldLink RX5 38 "AgedAssetsModel" "when" "[I" ∈ wsX5_told := by decide +kernel
  have w3_ : Cond.fieldLink RX5 35 "AgedAssetsModel" "of" "[I" ∈ wsX5_told := by decide +kernel
  refine pk_aload_n C 0 dX5_told_5 rfl rfl (pc2 := 6) rfl ?_
  refine pk_iload_n C 1 dX5_told_6 rfl rfl (pc2 := 7) rfl ?_
  refine pk_dV (cx := (mX (zG Z) m rf c1 T)) (wr := []) (X2 := (mX (zG Z) m rf c1 T)) (st := []) (st2 := [.int (m_X5_isEvent c1 T e)]) (As := [.int e]) C (c_X5_isEvent (zl Z) (zG Z) L F m rf c1 T e NE hri.2.1.1 hri1.2.1.2) gX5_told_X5_isEvent rfl rfl rfl 1 (by decide +kernel) ⟨Nat.le_of_ble_eq_true rfl, Nat.le_of_ble_eq_true rfl⟩ (pw_atX 0 rfl) rfl rfl rfl (Nat.le_of_ble_eq_true rfl) ⟨Nat.le_of_ble_eq_true rfl, Nat.le_of_ble_eq_true rfl⟩ [0, 1, 2, 3, 4, 5, 6, 7, 8, 9, 10, 11, 12, 13, 14, 15] [] [0, 1, 2, 3, 4, 5, 6, 7, 8, 9, 10, 11, 12, 13, 14, 15] rfl rfl rfl rfl (by decide) rfl rfl dX5_told_7 (pc2 := 10) rfl rfl ?_
  refine pk_topi (fun n1_ en1_ => ?_)
  refine pk_if_eq (tgt := 22) C dX5_told_10 (by decide) (pc2 := 13) rfl (fun h1_ => ?_) (fun h1_ => ?_)
  ·
    refine pk_iconst (v := -1) C dX5_told_22 (by decide) (pc2 := 23) rfl ?_
    subst en1_
    unfold m_X5_told_1 at hR
    try rw [if_pos h1_] at hR
    subst hR
    exact pr_int (ty := .int) C hE rfl rfl (po_d_rfl rfl rfl) dX5_told_23
  ·
    refine pk_iload_n C 2 dX5_told_13 rfl rfl (pc2 := 14) rfl ?_
    refine pk_if_lt (tgt := 22) C dX5_told_14 (by decide) (pc2 := 17) rfl (fun h2_ => ?_) (fun h2_ => ?_)
    ·
      refine pk_iconst (v := -1) C dX5_told_22 (by decide) (pc2 := 23) rfl ?_
      subst en1_
      unfold m_X5_told_1 at hR
      try rw [if_neg h1_] at hR
      try rw [if_pos h2_] at hR
      subst hR
      exact pr_int (ty := .int) C hE rfl rfl (po_d_rfl rfl rfl) dX5_told_23
    ·
      refine pk_iload_n C 2 dX5_told_17 rfl rfl (pc2 := 18) rfl ?_
      refine pk_iconst (v := 3) C dX5_told_18 (by decide) (pc2 := 19) rfl ?_
      refine pk_icmp_le (tgt := 24) C dX5_told_19 (by decide) (pc2 := 22) rfl (fun h3_ => ?_) (fun h3_ => ?_)
      ·
        obtain ⟨j_, a_, hj_, he_, ha_, hof_⟩ := isEvent_in hri1 (by rw [← en1_]; exact h1_)
        have he40 : vp_in e 40 := ev_40 hri.2.1.1 ⟨j_, hj_, he_⟩
        refine pk_iload_n C 2 dX5_told_24 rfl rfl (pc2 := 25) rfl ?_
        refine pk_if_ne (tgt := 39) C dX5_told_25 (by decide) (pc2 := 28) rfl (fun h4_ => ?_) (fun h4_ => ?_)
        ·
          refine pk_iload_n C 2 dX5_told_39 rfl rfl (pc2 := 40) rfl ?_
          refine pk_iconst (v := 1) C dX5_told_40 (by decide) (pc2 := 41) rfl ?_
          refine pk_icmp_ne (tgt := 53) C dX5_told_41 (by decide) (pc2 := 44) rfl (fun h5_ => ?_) (fun h5_ => ?_)
          ·
            refine pk_iload_n C 2 dX5_told_53 rfl rfl (pc2 := 54) rfl ?_
            refine pk_iconst (v := 2) C dX5_told_54 (by decide) (pc2 := 55) rfl ?_
            refine pk_icmp_ne (tgt := 67) C dX5_told_55 (by decide) (pc2 := 58) rfl (fun h6_ => ?_) (fun h6_ => ?_)
            ·
              refine pk_aload_n C 0 dX5_told_67 rfl rfl (pc2 := 68) rfl ?_
              refine pk_get (v := .ref (rf 12)) C i5_ (pw_atX 0 rfl) (ci := 5) rfl 16 (by decide) w0_ rfl rfl dX5_told_68 (pc2 := 71) rfl ?_
              refine pk_iload_n C 1 dX5_told_71 rfl rfl (pc2 := 72) rfl ?_
              refine pk_iald (v := ((T_nu T) (Int32.toNatClampNeg e))) C (pw_atX 13 rfl) he40 rfl dX5_told_72 (pc2 := 73) rfl ?_
              subst en1_
              unfold m_X5_told_1 at hR
              try rw [if_neg h1_] at hR
              try rw [if_neg h2_] at hR
              try rw [if_pos h3_] at hR
              try rw [if_neg h4_] at hR
              try rw [if_neg h5_] at hR
              try rw [if_neg h6_] at hR
              subst hR
              exact pr_int (ty := .int) C hE rfl rfl (po_d_rfl rfl rfl) dX5_told_73
            ·
              refine pk_aload_n C 0 dX5_told_58 rfl rfl (pc2 := 59) rfl ?_
              refine pk_get (v := .ref (rf 10)) C i5_ (pw_atX 0 rfl) (ci := 5) rfl 14 (by decide) w1_ rfl rfl dX5_told_59 (pc2 := 62) rfl ?_
              refine pk_iload_n C 1 dX5_told_62 rfl rfl (pc2 := 63) rfl ?_
              refine pk_iald (v := ((T_ki T) (Int32.toNatClampNeg e))) C (pw_atX 11 rfl) he40 rfl dX5_told_63 (pc2 := 64) rfl ?_
              refine pk_goto (tgt := 73) C dX5_told_64 (by decide) ?_
              subst en1_
              unfold m_X5_told_1 at hR
              try rw [if_neg h1_] at hR
              try rw [if_neg h2_] at hR
              try rw [if_pos h3_] at hR
              try rw [if_neg h4_] at hR
              try rw [if_neg h5_] at hR
              try rw [if_pos h6_] at hR
              subst hR
              exact pr_int (ty := .int) C hE rfl rfl (po_d_rfl rfl rfl) dX5_told_73
          ·
            refine pk_aload_n C 0 dX5_told_44 rfl rfl (pc2 := 45) rfl ?_
            refine pk_get (v := .ref (rf 9)) C i5_ (pw_atX 0 rfl) (ci := 5) rfl 13 (by decide) w2_ rfl rfl dX5_told_45 (pc2 := 48) rfl ?_
            refine pk_iload_n C 1 dX5_told_48 rfl rfl (pc2 := 49) rfl ?_
            refine pk_iald (v := ((T_wh T) (Int32.toNatClampNeg e))) C (pw_atX 10 rfl) he40 rfl dX5_told_49 (pc2 := 50) rfl ?_
            refine pk_goto (tgt := 73) C dX5_told_50 (by decide) ?_
            subst en1_
            unfold m_X5_told_1 at hR
            try rw [if_neg h1_] at hR
            try rw [if_neg h2_] at hR
            try rw [if_pos h3_] at hR
            try rw [if_neg h4_] at hR
            try rw [if_pos h5_] at hR
            subst hR
            exact pr_int (ty := .int) C hE rfl rfl (po_d_rfl rfl rfl) dX5_told_73
        ·
          refine pk_aload_n C 0 dX5_told_28 rfl rfl (pc2 := 29) rfl ?_
          refine pk_get (v := .ref (rf 8)) C i5_ (pw_atX 0 rfl) (ci := 5) rfl 12 (by decide) w3_ rfl rfl dX5_told_29 (pc2 := 32) rfl ?_
          refine pk_iload_n C 1 dX5_told_32 rfl rfl (pc2 := 33) rfl ?_
          refine pk_iald (v := ((T_of T) (Int32.toNatClampNeg e))) C (pw_atX 9 rfl) he40 rfl dX5_told_33 (pc2 := 34) rfl ?_
          refine pk_iconst (v := 1) C dX5_told_34 (by decide) (pc2 := 35) rfl ?_
          refine pk_isub C dX5_told_35 (pc2 := 36) rfl ?_
          refine pk_goto (tgt := 73) C dX5_told_36 (by decide) ?_
          subst en1_
          unfold m_X5_told_1 at hR
          try rw [if_neg h1_] at hR
          try rw [if_neg h2_] at hR
          try rw [if_pos h3_] at hR
          try rw [if_pos h4_] at hR
          subst hR
          exact pr_int (ty := .int) C hE rfl rfl (po_d_rfl rfl rfl) dX5_told_73
      ·
        refine pk_iconst (v := -1) C dX5_told_22 (by decide) (pc2 := 23) rfl ?_
        subst en1_
        unfold m_X5_told_1 at hR
        try rw [if_neg h1_] at hR
        try rw [if_neg h2_] at hR
        try rw [if_neg h3_] at hR
        subst hR
        exact pr_int (ty := .int) C hE rfl rfl (po_d_rfl rfl rfl) dX5_told_23
set_option maxRecDepth 100000 in
set_option maxHeartbeats 2000000 in
theorem t0_X5_told {Z : pw_Z} {Q : State → Prop} {L : List Nat} {F : Nat → va_E} {m : Nat} {rf : Nat → Nat} {NP NE NM : Nat} {c : MR} {T : TR} {e : Int32} {wh : Int32} (C : pw_C Z cX5_told 3 RX5 wsX5_told ⟨1, 0, 0, 21⟩ (some .int)) {X9 : va_W} {R : Int32 × MR} (hE : pw_End Z Q X9 L F (po_d (some (.int (R.1))) (mX (zG Z) m rf (R.2) T) L F) 0 0) (hri : RI c T NP NE NM) (hR : m_X5_told_0 c T e wh = R) : PW Z (mX (zG Z) m rf c T) L F 0 0 Q 0 [(0, .ref m), (1, .int e), (2, .int wh)] [] := by
  refine s0_X5_told C hri ?_
  exact t1_X5_told C hE hri (RI_nc hri (f0_nc c)) hR
set_option maxRecDepth 100000 in
set_option maxHeartbeats 2000000 in
theorem c_X5_told (l : Launch) (G : pw_G) (L : List Nat) (F : Nat → va_E) (m : Nat) (rf : Nat → Nat) (NP NE NM : Nat) (c : MR) (T : TR) (e : Int32) (wh : Int32) (hri : RI c T NP NE NM) : PM l yX5_told wsX5_told ⟨1, 0, 0, 21⟩ G [.ref m, .int e, .int wh] (mX G m rf c T) L F 0 0 (po_d (some (.int ((m_X5_told c T e wh).1))) (mX G m rf ((m_X5_told c T e wh).2) T) L F) := by
  refine pm_entry (by decide) rfl rfl (Nat.le_of_ble_eq_true rfl) ?_
  intro Z Q C hl0 hG0 hnm hE
  subst hl0
  subst hG0
  exact t0_X5_told C hE hri rfl

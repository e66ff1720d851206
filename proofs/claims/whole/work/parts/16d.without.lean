def f0_X5_without (c : MR) (T : TR) (p : Int32) (mm : Int32) : MR :=
  if (m_X5_isPart c T p) = 0 then (M_mk 1 (M_pt c) (M_mn c) (M_ev c) (M_co c) (M_al c) (M_re c) (M_lo c) (M_rs c) (M_li c) (M_he c) (M_go c) (M_sp c) (M_ba c) (M_le c) (M_lf c) (M_mo c) (M_un c) (M_ch c) (M_lc c) (M_ac c) (M_bd c)) else if (m_X5_isMonth mm) = 0 then (M_mk 1 (M_pt c) (M_mn c) (M_ev c) (M_co c) (M_al c) (M_re c) (M_lo c) (M_rs c) (M_li c) (M_he c) (M_go c) (M_sp c) (M_ba c) (M_le c) (M_lf c) (M_mo c) (M_un c) (M_ch c) (M_lc c) (M_ac c) (M_bd c)) else (M_mk 0 (M_pt c) (M_mn c) (M_ev c) (M_co c) (M_al c) (M_re c) (M_lo c) (M_rs c) (M_li c) (M_he c) (M_go c) (M_sp c) (M_ba c) (M_le c) (M_lf c) (M_mo c) (M_un c) (M_ch c) (M_lc c) (M_ac c) (M_bd c))
theorem f0_X5_without_h {c : MR} {T : TR} {p mm : Int32} {NP NE NM : Nat} (hri : RI c T NP NE NM) : (M_cd (f0_X5_without c T p mm) ≤ 0 → (∃ a, a < NP ∧ p = nI a) ∧ ∃ k, k < 36 ∧ mm = nI k) ∧ M_nc (f0_X5_without c T p mm) = M_nc c := by
  have key : ∀ a d : MR, M_cd a = 1 → M_nc a = M_nc c → (M_cd a ≤ 0 → (∃ a, a < NP ∧ p = nI a) ∧ ∃ k, k < 36 ∧ mm = nI k) ∧ M_nc a = M_nc c := fun a d h1 h2 => ⟨fun h => cd_no h h1, h2⟩
  unfold f0_X5_without
  refine zi_ite (P := fun (x : MR) => (M_cd x ≤ 0 → (∃ a, a < NP ∧ p = nI a) ∧ ∃ k, k < 36 ∧ mm = nI k) ∧ M_nc x = M_nc c) (fun _ => key _ c (M_cd_mk ..) rfl) (fun h1 => ?_)
  refine zi_ite (P := fun (x : MR) => (M_cd x ≤ 0 → (∃ a, a < NP ∧ p = nI a) ∧ ∃ k, k < 36 ∧ mm = nI k) ∧ M_nc x = M_nc c) (fun _ => key _ c (M_cd_mk ..) rfl) (fun h2 => ?_)
  exact ⟨fun _ => ⟨isPart_in hri h1, isMonth_in h2⟩, rfl⟩
set_option maxRecDepth 100000 in
set_option maxHeartbeats 2000000 in
theorem s0_X5_without {Z : pw_Z} {Q : State → Prop} {L : List Nat} {F : Nat → va_E} {m : Nat} {rf : Nat → Nat} {NP NE NM : Nat} {c : MR} {T : TR} {p : Int32} {mm : Int32} (C : pw_C Z cX5_without 4 RX5 wsX5_without ⟨5, 0, 0, 118⟩ (some .long)) (hri : RI c T NP NE NM) (k : PW Z (mX (zG Z) m rf (f0_X5_without c T p mm) T) L F 0 0 Q 24 [(0, .ref m), (1, .int p), (2, .int mm)] []) : PW Z (mX (zG Z) m rf c T) L F 0 0 Q 0 [(0, .ref m), (1, .int p), (2, .int mm)] [] := by
  have i5_ : ∀ w ∈ wsX50, w ∈ wsX5_without := by decide +kernel
  have w0_ : Cond.fieldLink RX5 56 "AgedAssetsModel" "code" "I" ∈ wsX5_without := by decide +kernel
  refine pk_aload_n C 0 dX5_without_0 rfl rfl (pc2 := 1) rfl ?_
  refine pk_aload_n C 0 dX5_without_1 rfl rfl (pc2 := 2) rfl ?_
  refine pk_iload_n C 1 dX5_without_2 rfl rfl (pc2 := 3) rfl ?_
  refine pk_dV (cx := (mX (zG Z) m rf c T)) (wr := []) (X2 := (mX (zG Z) m rf c T)) (st := [.ref m]) (st2 := [.int (m_X5_isPart c T p), .ref m]) (As := [.int p]) C (c_X5_isPart (zl Z) (zG Z) L F m rf c T p) gX5_without_X5_isPart rfl rfl rfl 1 (by decide +kernel) ⟨Nat.le_of_ble_eq_true rfl, Nat.le_of_ble_eq_true rfl⟩ (pw_atX 0 rfl) rfl rfl rfl (Nat.le_of_ble_eq_true rfl) ⟨Nat.le_of_ble_eq_true rfl, Nat.le_of_ble_eq_true rfl⟩ [0, 1, 2, 3, 4, 5, 6, 7, 8, 9, 10, 11, 12, 13, 14, 15] [] [0, 1, 2, 3, 4, 5, 6, 7, 8, 9, 10, 11, 12, 13, 14, 15] rfl rfl rfl rfl (by decide) rfl rfl dX5_without_3 (pc2 := 6) rfl rfl ?_
  refine pk_topi (fun n1_ en1_ => ?_)
  refine pk_if_eq (tgt := 20) C dX5_without_6 (by decide) (pc2 := 9) rfl (fun h1_ => ?_) (fun h1_ => ?_)
  ·
    refine pk_iconst (v := 1) C dX5_without_20 (by decide) (pc2 := 21) rfl ?_
    refine pk_putX (X' := ((m, kM rf 1 (M_pt c) (M_mn c) (M_ev c) (M_co c) (M_al c) (M_re c) (M_lo c) (M_rs c) (M_li c) (M_he c) (M_go c) (M_sp c) (M_ba c) (M_le c) (M_lf c) (M_mo c) (M_un c) (M_ch c) (M_lc c) (M_ac c) (M_bd c)) :: mT (zG Z) rf T)) C i5_ tyX5_ok nmX5 0 rfl (ci := 5) rfl 0 (by decide) w0_ rfl rfl rfl rfl rfl (Nat.le_of_ble_eq_true rfl) rfl dX5_without_21 (pc2 := 24) rfl ?_
    refine pw_conv (X' := (mX (zG Z) m rf (M_mk 1 (M_pt c) (M_mn c) (M_ev c) (M_co c) (M_al c) (M_re c) (M_lo c) (M_rs c) (M_li c) (M_he c) (M_go c) (M_sp c) (M_ba c) (M_le c) (M_lf c) (M_mo c) (M_un c) (M_ch c) (M_lc c) (M_ac c) (M_bd c)) T)) mX_mk ?_
    refine pw_lv [0, 1, 2] (lv' := [(0, .ref m), (1, .int p), (2, .int mm)]) rfl ?_
    subst en1_
    have k9 := k
    unfold f0_X5_without at k9
    try rw [if_pos h1_] at k9
    exact k9
  ·
    refine pk_iload_n C 2 dX5_without_9 rfl rfl (pc2 := 10) rfl ?_
    refine pk_dS (cx := []) (wr := (mX (zG Z) m rf c T)) (X2 := (mX (zG Z) m rf c T)) (st := [.ref m]) (st2 := [.int (m_X5_isMonth mm), .ref m]) (As := [.int mm]) C (c_X5_isMonth (zl Z) (zG Z) L F mm) gX5_without_X5_isMonth rfl rfl rfl 1 (by decide +kernel) ⟨Nat.le_of_ble_eq_true rfl, Nat.le_of_ble_eq_true rfl⟩ rfl rfl (Nat.le_of_ble_eq_true rfl) ⟨Nat.le_of_ble_eq_true rfl, Nat.le_of_ble_eq_true rfl⟩ [] [0, 1, 2, 3, 4, 5, 6, 7, 8, 9, 10, 11, 12, 13, 14, 15] [0, 1, 2, 3, 4, 5, 6, 7, 8, 9, 10, 11, 12, 13, 14, 15] rfl rfl rfl rfl (by decide) rfl rfl dX5_without_10 (pc2 := 13) rfl rfl ?_
    refine pk_topi (fun n2_ en2_ => ?_)
    refine pk_if_eq (tgt := 20) C dX5_without_13 (by decide) (pc2 := 16) rfl (fun h2_ => ?_) (fun h2_ => ?_)
    ·
      refine pk_iconst (v := 1) C dX5_without_20 (by decide) (pc2 := 21) rfl ?_
      refine pk_putX (X' := ((m, kM rf 1 (M_pt c) (M_mn c) (M_ev c) (M_co c) (M_al c) (M_re c) (M_lo c) (M_rs c) (M_li c) (M_he c) (M_go c) (M_sp c) (M_ba c) (M_le c) (M_lf c) (M_mo c) (M_un c) (M_ch c) (M_lc c) (M_ac c) (M_bd c)) :: mT (zG Z) rf T)) C i5_ tyX5_ok nmX5 0 rfl (ci := 5) rfl 0 (by decide) w0_ rfl rfl rfl rfl rfl (Nat.le_of_ble_eq_true rfl) rfl dX5_without_21 (pc2 := 24) rfl ?_
      refine pw_conv (X' := (mX (zG Z) m rf (M_mk 1 (M_pt c) (M_mn c) (M_ev c) (M_co c) (M_al c) (M_re c) (M_lo c) (M_rs c) (M_li c) (M_he c) (M_go c) (M_sp c) (M_ba c) (M_le c) (M_lf c) (M_mo c) (M_un c) (M_ch c) (M_lc c) (M_ac c) (M_bd c)) T)) mX_mk ?_
      refine pw_lv [0, 1, 2] (lv' := [(0, .ref m), (1, .int p), (2, .int mm)]) rfl ?_
      subst en1_ en2_
      have k9 := k
      unfold f0_X5_without at k9
      try rw [if_neg h1_] at k9
      try rw [if_pos h2_] at k9
      exact k9
    ·
      refine pk_iconst (v := 0) C dX5_without_16 (by decide) (pc2 := 17) rfl ?_
      refine pk_goto (tgt := 21) C dX5_without_17 (by decide) ?_
      refine pk_putX (X' := ((m, kM rf 0 (M_pt c) (M_mn c) (M_ev c) (M_co c) (M_al c) (M_re c) (M_lo c) (M_rs c) (M_li c) (M_he c) (M_go c) (M_sp c) (M_ba c) (M_le c) (M_lf c) (M_mo c) (M_un c) (M_ch c) (M_lc c) (M_ac c) (M_bd c)) :: mT (zG Z) rf T)) C i5_ tyX5_ok nmX5 0 rfl (ci := 5) rfl 0 (by decide) w0_ rfl rfl rfl rfl rfl (Nat.le_of_ble_eq_true rfl) rfl dX5_without_21 (pc2 := 24) rfl ?_
      refine pw_conv (X' := (mX (zG Z) m rf (M_mk 0 (M_pt c) (M_mn c) (M_ev c) (M_co c) (M_al c) (M_re c) (M_lo c) (M_rs c) (M_li c) (M_he c) (M_go c) (M_sp c) (M_ba c) (M_le c) (M_lf c) (M_mo c) (M_un c) (M_ch c) (M_lc c) (M_ac c) (M_bd c)) T)) mX_mk ?_
      refine pw_lv [0, 1, 2] (lv' := [(0, .ref m), (1, .int p), (2, .int mm)]) rfl ?_
      subst en1_ en2_
      have k9 := k
      unfold f0_X5_without at k9
      try rw [if_neg h1_] at k9
      try rw [if_neg h2_] at k9
      exact k9
def m_X5_without_1 (c : MR) (T : TR) (p : Int32) (mm : Int32) (c1 : MR) : Int64 × MR × TR :=
  if (M_cd c1) ≤ 0 then if mm < ((m_X5_go c1 T p mm 1).1) then if ((T_fi ((m_X5_go c1 T p mm 1).2.2)) (Int32.toNatClampNeg p)) ≤ mm then (((T_bh ((m_X5_go c1 T p mm 1).2.2)) (Int32.toNatClampNeg mm)), ((m_X5_go c1 T p mm 1).2.1), ((m_X5_go c1 T p mm 1).2.2)) else (0, ((m_X5_go c1 T p mm 1).2.1), ((m_X5_go c1 T p mm 1).2.2)) else ((-1), ((m_X5_go c1 T p mm 1).2.1), ((m_X5_go c1 T p mm 1).2.2)) else (0, c1, T)
def m_X5_without_0 (c : MR) (T : TR) (p : Int32) (mm : Int32) : Int64 × MR × TR := m_X5_without_1 c T p mm (f0_X5_without c T p mm)
def m_X5_without (c : MR) (T : TR) (p : Int32) (mm : Int32) : Int64 × MR × TR := m_X5_without_0 c T p mm
set_option maxRecDepth 100000 in
set_option maxHeartbeats 2000000 in
theorem t1_X5_without {Z : pw_Z} {Q : State → Prop} {L : List Nat} {F : Nat → va_E} {m : Nat} {rf : Nat → Nat} {NP NE NM : Nat} {c : MR} {T : TR} {p : Int32} {mm : Int32} {c1 : MR} (C : pw_C Z cX5_without 4 RX5 wsX5_without ⟨5, 0, 0, 118⟩ (some .long)) {X9 : va_W} {R : Int64 × MR × TR} (hE : pw_End Z Q X9 L F (po_d (some (.long (R.1))) (mX (zG Z) m rf (R.2.1) (R.2.2)) L F) 0 0) (hri : RI c T NP NE NM) (hcd : M_cd c1 ≤ 0 → (∃ a, a < NP ∧ p = nI a) ∧ ∃ k, k < 36 ∧ mm = nI k) (hri1 : RI c1 T NP NE NM) (hR : m_X5_without_1 c T p mm c1 = R) : PW Z (mX (zG Z) m rf c1 T) L F 0 0 Q 24 [(0, .ref m), (1, .int p), (2, .int mm)] [] := by
  have i5_ : ∀ w ∈ wsX50, w ∈ wsX5_without := by decide +kernel
  have w0_ : Cond.fieldLink RX5 56 "AgedAssetsModel" "code" "I" ∈ wsX5_without := by decide +kernel
  have w1_ : Cond.fieldLink RX5 16 "AgedAssetsModel" "firsts" "[I" ∈ wsX5_without := by decide +kernel
  have w2_ : Cond.fieldLink RX5 53 "AgedAssetsModel" "behind" "[J" ∈ wsX5_without := by decide +kernel
  have w3_ : Cond.constantLong RX5 217 (-1) ∈ wsX5_without := by decide +kernel
  refine pk_aload_n C 0 dX5_without_24 rfl rfl (pc2 := 25) rfl ?_
  refine pk_get (v := .int (M_cd c1)) C i5_ (pw_atX 0 rfl) (ci := 5) rfl 0 (by decide) w0_ rfl rfl dX5_without_25 (pc2 := 28) rfl ?_
  refine pk_if_le (tgt := 33) C dX5_without_28 (by decide) (pc2 := 31) rfl (fun h1_ => ?_) (fun h1_ => ?_)
  ·
    obtain ⟨⟨a_, ha_, hpa_⟩, k_, hk_, hmk_⟩ := hcd h1_
    have hgo35_ := RI_go (un := 35) hri1 ha_ hpa_ (by decide)
    have hm35 : mm.toInt ≤ 35 := by rw [hmk_, nI_toInt (by omega)]; omega
    have hgo_ := RI_go hri1 ha_ hpa_ hm35
    have hm36 : vp_in mm 36 := by rw [hmk_]; exact vp_in_nI hk_ (by decide)
    have hp6 : vp_in p 6 := by rw [hpa_]; exact vp_in_nI (Nat.lt_of_lt_of_le ha_ hri.1.1) (by decide)
    refine pk_aload_n C 0 dX5_without_33 rfl rfl (pc2 := 34) rfl ?_
    refine pk_iload_n C 1 dX5_without_34 rfl rfl (pc2 := 35) rfl ?_
    refine pk_iload_n C 2 dX5_without_35 rfl rfl (pc2 := 36) rfl ?_
    refine pk_iconst (v := 1) C dX5_without_36 (by decide) (pc2 := 37) rfl ?_
    refine pk_dV (cx := (mX (zG Z) m rf c1 T)) (wr := []) (X2 := (mX (zG Z) m rf ((m_X5_go c1 T p mm 1).2.1) ((m_X5_go c1 T p mm 1).2.2))) (st := []) (st2 := [.int ((m_X5_go c1 T p mm 1).1)]) (As := [.int p, .int mm, .int 1]) C (c_X5_go (zl Z) (zG Z) L F m rf c1 T p mm 1 hgo_) gX5_without_X5_go rfl rfl rfl 3 (by decide +kernel) ⟨Nat.le_of_ble_eq_true rfl, Nat.le_of_ble_eq_true rfl⟩ (pw_atX 0 rfl) rfl rfl rfl (Nat.le_of_ble_eq_true rfl) ⟨Nat.le_of_ble_eq_true rfl, Nat.le_of_ble_eq_true rfl⟩ [0, 1, 2, 3, 4, 5, 6, 7, 8, 9, 10, 11, 12, 13, 14, 15] [] [0, 1, 2, 3, 4, 5, 6, 7, 8, 9, 10, 11, 12, 13, 14, 15] rfl rfl rfl rfl (by decide) rfl rfl dX5_without_37 (pc2 := 40) rfl rfl ?_
    generalize en1_ : ((m_X5_go c1 T p mm 1).2.1) = n1_
    generalize en2_ : ((m_X5_go c1 T p mm 1).2.2) = n2_
    refine pk_topi (fun n3_ en3_ => ?_)
    refine pk_istore_n (lv' := [(3, .int n3_), (0, .ref m), (1, .int p), (2, .int mm)]) C dX5_without_40 rfl (by decide) rfl (pc2 := 41) rfl ?_
    refine pk_iload_n C 0 dX5_without_41 rfl rfl (pc2 := 42) rfl ?_
    refine pk_iload_n C 3 dX5_without_42 rfl rfl (pc2 := 43) rfl ?_
    refine pk_icmp_gt (tgt := 52) C dX5_without_43 (by decide) (pc2 := 46) rfl (fun h2_ => ?_) (fun h2_ => ?_)
    ·
      refine pk_iload_n C 3 dX5_without_52 rfl rfl (pc2 := 53) rfl ?_
      refine pk_aload_n C 1 dX5_without_53 rfl rfl (pc2 := 54) rfl ?_
      refine pk_get (v := .ref (rf 2)) C i5_ (pw_atX 0 rfl) (ci := 5) rfl 4 (by decide) w1_ rfl rfl dX5_without_54 (pc2 := 57) rfl ?_
      refine pk_iload_n C 2 dX5_without_57 rfl rfl (pc2 := 58) rfl ?_
      refine pk_iald (v := ((T_fi n2_) (Int32.toNatClampNeg p))) C (pw_atX 3 rfl) hp6 rfl dX5_without_58 (pc2 := 59) rfl ?_
      refine pk_icmp_ge (tgt := 66) C dX5_without_59 (by decide) (pc2 := 62) rfl (fun h3_ => ?_) (fun h3_ => ?_)
      ·
        refine pk_aload_n C 1 dX5_without_66 rfl rfl (pc2 := 67) rfl ?_
        refine pk_get (v := .ref (rf 14)) C i5_ (pw_atX 0 rfl) (ci := 5) rfl 35 (by decide) w2_ rfl rfl dX5_without_67 (pc2 := 70) rfl ?_
        refine pk_iload_n C 3 dX5_without_70 rfl rfl (pc2 := 71) rfl ?_
        refine pk_lald (v := ((T_bh n2_) (Int32.toNatClampNeg mm))) C (pw_atX 15 rfl) hm36 rfl dX5_without_71 (pc2 := 72) rfl ?_
        subst en1_ en2_ en3_
        unfold m_X5_without_1 at hR
        try rw [if_pos h1_] at hR
        try rw [if_pos h2_] at hR
        try rw [if_pos h3_] at hR
        subst hR
        exact pr_long C hE (po_d_rfl rfl rfl) dX5_without_72
      ·
        refine pk_lconst (v := 0) C dX5_without_62 (by decide) (pc2 := 63) rfl ?_
        refine pk_goto (tgt := 72) C dX5_without_63 (by decide) ?_
        subst en1_ en2_ en3_
        unfold m_X5_without_1 at hR
        try rw [if_pos h1_] at hR
        try rw [if_pos h2_] at hR
        try rw [if_neg h3_] at hR
        subst hR
        exact pr_long C hE (po_d_rfl rfl rfl) dX5_without_72
    ·
      refine pk_ldc2 C w3_ dX5_without_46 (pc2 := 49) rfl ?_
      refine pk_goto (tgt := 72) C dX5_without_49 (by decide) ?_
      subst en1_ en2_ en3_
      unfold m_X5_without_1 at hR
      try rw [if_pos h1_] at hR
      try rw [if_neg h2_] at hR
      subst hR
      exact pr_long C hE (po_d_rfl rfl rfl) dX5_without_72
  ·
    refine pk_lconst (v := 0) C dX5_without_31 (by decide) (pc2 := 32) rfl ?_
    unfold m_X5_without_1 at hR
    try rw [if_neg h1_] at hR
    subst hR
    exact pr_long C hE (po_d_rfl rfl rfl) dX5_without_32
set_option maxRecDepth 100000 in
set_option maxHeartbeats 2000000 in
theorem t0_X5_without {Z : pw_Z} {Q : State → Prop} {L : List Nat} {F : Nat → va_E} {m : Nat} {rf : Nat → Nat} {NP NE NM : Nat} {c : MR} {T : TR} {p : Int32} {mm : Int32} (C : pw_C Z cX5_without 4 RX5 wsX5_without ⟨5, 0, 0, 118⟩ (some .long)) {X9 : va_W} {R : Int64 × MR × TR} (hE : pw_End Z Q X9 L F (po_d (some (.long (R.1))) (mX (zG Z) m rf (R.2.1) (R.2.2)) L F) 0 0) (hri : RI c T NP NE NM) (hR : m_X5_without_0 c T p mm = R) : PW Z (mX (zG Z) m rf c T) L F 0 0 Q 0 [(0, .ref m), (1, .int p), (2, .int mm)] [] := by
  refine s0_X5_without C hri ?_
  exact t1_X5_without C hE hri (f0_X5_without_h hri).1 (RI_nc hri (f0_X5_without_h hri).2) hR
set_option maxRecDepth 100000 in
set_option maxHeartbeats 2000000 in
theorem c_X5_without (l : Launch) (G : pw_G) (L : List Nat) (F : Nat → va_E) (m : Nat) (rf : Nat → Nat) (NP NE NM : Nat) (c : MR) (T : TR) (p : Int32) (mm : Int32) (hri : RI c T NP NE NM) : PM l yX5_without wsX5_without ⟨5, 0, 0, 118⟩ G [.ref m, .int p, .int mm] (mX G m rf c T) L F 0 0 (po_d (some (.long ((m_X5_without c T p mm).1))) (mX G m rf ((m_X5_without c T p mm).2.1) ((m_X5_without c T p mm).2.2)) L F) := by
  refine pm_entry (by decide) rfl rfl (Nat.le_of_ble_eq_true rfl) ?_
  intro Z Q C hl0 hG0 hnm hE
  subst hl0
  subst hG0
  exact t0_X5_without C hE hri rfl
def f0_X5_posted (c : MR) (T : TR) (p : Int32) (mm : Int32) : MR :=
  if (m_X5_isPart c T p) = 0 then (M_mk 1 (M_pt c) (M_mn c) (M_ev c) (M_co c) (M_al c) (M_re c) (M_lo c) (M_rs c) (M_li c) (M_he c) (M_go c) (M_sp c) (M_ba c) (M_le c) (M_lf c) (M_mo c) (M_un c) (M_ch c) (M_lc c) (M_ac c) (M_bd c)) else if (m_X5_isMonth mm) = 0 then (M_mk 1 (M_pt c) (M_mn c) (M_ev c) (M_co c) (M_al c) (M_re c) (M_lo c) (M_rs c) (M_li c) (M_he c) (M_go c) (M_sp c) (M_ba c) (M_le c) (M_lf c) (M_mo c) (M_un c) (M_ch c) (M_lc c) (M_ac c) (M_bd c)) else (M_mk 0 (M_pt c) (M_mn c) (M_ev c) (M_co c) (M_al c) (M_re c) (M_lo c) (M_rs c) (M_li c) (M_he c) (M_go c) (M_sp c) (M_ba c) (M_le c) (M_lf c) (M_mo c) (M_un c) (M_ch c) (M_lc c) (M_ac c) (M_bd c))
theorem f0_X5_posted_h {c : MR} {T : TR} {p mm : Int32} {NP NE NM : Nat} (hri : RI c T NP NE NM) : (M_cd (f0_X5_posted c T p mm) ≤ 0 → (∃ a, a < NP ∧ p = nI a) ∧ ∃ k, k < 36 ∧ mm = nI k) ∧ M_nc (f0_X5_posted c T p mm) = M_nc c := by
  have key : ∀ a d : MR, M_cd a = 1 → M_nc a = M_nc c → (M_cd a ≤ 0 → (∃ a, a < NP ∧ p = nI a) ∧ ∃ k, k < 36 ∧ mm = nI k) ∧ M_nc a = M_nc c := fun a d h1 h2 => ⟨fun h => cd_no h h1, h2⟩
  unfold f0_X5_posted
  refine zi_ite (P := fun (x : MR) => (M_cd x ≤ 0 → (∃ a, a < NP ∧ p = nI a) ∧ ∃ k, k < 36 ∧ mm = nI k) ∧ M_nc x = M_nc c) (fun _ => key _ c (M_cd_mk ..) rfl) (fun h1 => ?_)
  refine zi_ite (P := fun (x : MR) => (M_cd x ≤ 0 → (∃ a, a < NP ∧ p = nI a) ∧ ∃ k, k < 36 ∧ mm = nI k) ∧ M_nc x = M_nc c) (fun _ => key _ c (M_cd_mk ..) rfl) (fun h2 => ?_)
  exact ⟨fun _ => ⟨isPart_in hri h1, isMonth_in h2⟩, rfl⟩
set_option maxRecDepth 100000 in
set_option maxHeartbeats 2000000 in
theorem s0_X5_posted {Z : pw_Z} {Q : State → Prop} {L : List Nat} {F : Nat → va_E} {m : Nat} {rf : Nat → Nat} {NP NE NM : Nat} {c : MR} {T : TR} {p : Int32} {mm : Int32} (C : pw_C Z cX5_posted 3 RX5 wsX5_posted ⟨1, 0, 0, 21⟩ (some .long)) (hri : RI c T NP NE NM) (k : PW Z (mX (zG Z) m rf (f0_X5_posted c T p mm) T) L F 0 0 Q 24 [(0, .ref m), (1, .int p), (2, .int mm)] []) : PW Z (mX (zG Z) m rf c T) L F 0 0 Q 0 [(0, .ref m), (1, .int p), (2, .int mm)] [] := by
  have i5_ : ∀ w ∈ wsX50, w ∈ wsX5_posted := by decide +kernel
  have w0_ : Cond.fieldLink RX5 56 "AgedAssetsModel" "code" "I" ∈ wsX5_posted := by decide +kernel
  refine pk_aload_n C 0 dX5_posted_0 rfl rfl (pc2 := 1) rfl ?_
  refine pk_aload_n C 0 dX5_posted_1 rfl rfl (pc2 := 2) rfl ?_
  refine pk_iload_n C 1 dX5_posted_2 rfl rfl (pc2 := 3) rfl ?_
  refine pk_dV (cx := (mX (zG Z) m rf c T)) (wr := []) (X2 := (mX (zG Z) m rf c T)) (st := [.ref m]) (st2 := [.int (m_X5_isPart c T p), .ref m]) (As := [.int p]) C (c_X5_isPart (zl Z) (zG Z) L F m rf c T p) gX5_posted_X5_isPart rfl rfl rfl 1 (by decide +kernel) ⟨Nat.le_of_ble_eq_true rfl, Nat.le_of_ble_eq_true rfl⟩ (pw_atX 0 rfl) rfl rfl rfl (Nat.le_of_ble_eq_true rfl) ⟨Nat.le_of_ble_eq_true rfl, Nat.le_of_ble_eq_true rfl⟩ [0, 1, 2, 3, 4, 5, 6, 7, 8, 9, 10, 11, 12, 13, 14, 15] [] [0, 1, 2, 3, 4, 5, 6, 7, 8, 9, 10, 11, 12, 13, 14, 15] rfl rfl rfl rfl (by decide) rfl rfl dX5_posted_3 (pc2 := 6) rfl rfl ?_
  refine pk_topi (fun n1_ en1_ => ?_)
  refine pk_if_eq (tgt := 20) C dX5_posted_6 (by decide) (pc2 := 9) rfl (fun h1_ => ?_) (fun h1_ => ?_)
  ·
    refine pk_iconst (v := 1) C dX5_posted_20 (by decide) (pc2 := 21) rfl ?_
    refine pk_putX (X' := ((m, kM rf 1 (M_pt c) (M_mn c) (M_ev c) (M_co c) (M_al c) (M_re c) (M_lo c) (M_rs c) (M_li c) (M_he c) (M_go c) (M_sp c) (M_ba c) (M_le c) (M_lf c) (M_mo c) (M_un c) (M_ch c) (M_lc c) (M_ac c) (M_bd c)) :: mT (zG Z) rf T)) C i5_ tyX5_ok nmX5 0 rfl (ci := 5) rfl 0 (by decide) w0_ rfl rfl rfl rfl rfl (Nat.le_of_ble_eq_true rfl) rfl dX5_posted_21 (pc2 := 24) rfl ?_
    refine pw_conv (X' := (mX (zG Z) m rf (M_mk 1 (M_pt c) (M_mn c) (M_ev c) (M_co c) (M_al c) (M_re c) (M_lo c) (M_rs c) (M_li c) (M_he c) (M_go c) (M_sp c) (M_ba c) (M_le c) (M_lf c) (M_mo c) (M_un c) (M_ch c) (M_lc c) (M_ac c) (M_bd c)) T)) mX_mk ?_
    refine pw_lv [0, 1, 2] (lv' := [(0, .ref m), (1, .int p), (2, .int mm)]) rfl ?_
    subst en1_
    have k9 := k
    unfold f0_X5_posted at k9
    try rw [if_pos h1_] at k9
    exact k9
  ·
    refine pk_iload_n C 2 dX5_posted_9 rfl rfl (pc2 := 10) rfl ?_
    refine pk_dS (cx := []) (wr := (mX (zG Z) m rf c T)) (X2 := (mX (zG Z) m rf c T)) (st := [.ref m]) (st2 := [.int (m_X5_isMonth mm), .ref m]) (As := [.int mm]) C (c_X5_isMonth (zl Z) (zG Z) L F mm) gX5_posted_X5_isMonth rfl rfl rfl 1 (by decide +kernel) ⟨Nat.le_of_ble_eq_true rfl, Nat.le_of_ble_eq_true rfl⟩ rfl rfl (Nat.le_of_ble_eq_true rfl) ⟨Nat.le_of_ble_eq_true rfl, Nat.le_of_ble_eq_true rfl⟩ [] [0, 1, 2, 3, 4, 5, 6, 7, 8, 9, 10, 11, 12, 13, 14, 15] [0, 1, 2, 3, 4, 5, 6, 7, 8, 9, 10, 11, 12, 13, 14, 15] rfl rfl rfl rfl (by decide) rfl rfl dX5_posted_10 (pc2 := 13) rfl rfl ?_
    refine pk_topi (fun n2_ en2_ => ?_)
    refine pk_if_eq (tgt := 20) C dX5_posted_13 (by decide) (pc2 := 16) rfl (fun h2_ => ?_) (fun h2_ => ?_)
    ·
      refine pk_iconst (v := 1) C dX5_posted_20 (by decide) (pc2 := 21) rfl ?_
      refine pk_putX (X' := ((m, kM rf 1 (M_pt c) (M_mn c) (M_ev c) (M_co c) (M_al c) (M_re c) (M_lo c) (M_rs c) (M_li c) (M_he c) (M_go c) (M_sp c) (M_ba c) (M_le c) (M_lf c) (M_mo c) (M_un c) (M_ch c) (M_lc c) (M_ac c) (M_bd c)) :: mT (zG Z) rf T)) C i5_ tyX5_ok nmX5 0 rfl (ci := 5) rfl 0 (by decide) w0_ rfl rfl rfl rfl rfl (Nat.le_of_ble_eq_true rfl) rfl dX5_posted_21 (pc2 := 24) rfl ?_
      refine pw_conv (X' := (mX (zG Z) m rf (M_mk 1 (M_pt c) (M_mn c) (M_ev c) (M_co c) (M_al c) (M_re c) (M_lo c) (M_rs c) (M_li c) (M_he c) (M_go c) (M_sp c) (M_ba c) (M_le c) (M_lf c) (M_mo c) (M_un c) (M_ch c) (M_lc c) (M_ac c) (M_bd c)) T)) mX_mk ?_
      refine pw_lv [0, 1, 2] (lv' := [(0, .ref m), (1, .int p), (2, .int mm)]) rfl ?_
      subst en1_ en2_
      have k9 := k
      unfold f0_X5_posted at k9
      try rw [if_neg h1_] at k9
      try rw [if_pos h2_] at k9
      exact k9
    ·
      refine pk_iconst (v := 0) C dX5_posted_16 (by decide) (pc2 := 17) rfl ?_
      refine pk_goto (tgt := 21) C dX5_posted_17 (by decide) ?_
      refine pk_putX (X' := ((m, kM rf 0 (M_pt c) (M_mn c) (M_ev c) (M_co c) (M_al c) (M_re c) (M_lo c) (M_rs c) (M_li c) (M_he c) (M_go c) (M_sp c) (M_ba c) (M_le c) (M_lf c) (M_mo c) (M_un c) (M_ch c) (M_lc c) (M_ac c) (M_bd c)) :: mT (zG Z) rf T)) C i5_ tyX5_ok nmX5 0 rfl (ci := 5) rfl 0 (by decide) w0_ rfl rfl rfl rfl rfl (Nat.le_of_ble_eq_true rfl) rfl dX5_posted_21 (pc2 := 24) rfl ?_
      refine pw_conv (X' := (mX (zG Z) m rf (M_mk 0 (M_pt c) (M_mn c) (M_ev c) (M_co c) (M_al c) (M_re c) (M_lo c) (M_rs c) (M_li c) (M_he c) (M_go c) (M_sp c) (M_ba c) (M_le c) (M_lf c) (M_mo c) (M_un c) (M_ch c) (M_lc c) (M_ac c) (M_bd c)) T)) mX_mk ?_
      refine pw_lv [0, 1, 2] (lv' := [(0, .ref m), (1, .int p), (2, .int mm)]) rfl ?_
      subst en1_ en2_
      have k9 := k
      unfold f0_X5_posted at k9
      try rw [if_neg h1_] at k9
      try rw [if_neg h2_] at k9
      exact k9
def m_X5_posted_1 (c : MR) (T : TR) (p : Int32) (mm : Int32) (c1 : MR) : Int64 × MR :=
  if (M_cd c1) ≤ 0 then (((T_po T) (Int32.toNatClampNeg ((36 * p) + mm))), c1) else (0, c1)
def m_X5_posted_0 (c : MR) (T : TR) (p : Int32) (mm : Int32) : Int64 × MR := m_X5_posted_1 c T p mm (f0_X5_posted c T p mm)
def m_X5_posted (c : MR) (T : TR) (p : Int32) (mm : Int32) : Int64 × MR := m_X5_posted_0 c T p mm
set_option maxRecDepth 100000 in
set_option maxHeartbeats 2000000 in
theorem t1_X5_posted {Z : pw_Z} {Q : State → Prop} {L : List Nat} {F : Nat → va_E} {m : Nat} {rf : Nat → Nat} {NP NE NM : Nat} {c : MR} {T : TR} {p : Int32} {mm : Int32} {c1 : MR} (C : pw_C Z cX5_posted 3 RX5 wsX5_posted ⟨1, 0, 0, 21⟩ (some .long)) {X9 : va_W} {R : Int64 × MR} (hE : pw_End Z Q X9 L F (po_d (some (.long (R.1))) (mX (zG Z) m rf (R.2) T) L F) 0 0) (hri : RI c T NP NE NM) (hcd : M_cd c1 ≤ 0 → (∃ a, a < NP ∧ p = nI a) ∧ ∃ k, k < 36 ∧ mm = nI k) (hri1 : RI c1 T NP NE NM) (hR : m_X5_posted_1 c T p mm c1 = R) : PW Z (mX (zG Z) m rf c1 T) L F 0 0 Q 24 [(0, .ref m), (1, .int p), (2, .int mm)] [] := by
  have i5_ : ∀ w ∈ wsX50, w ∈ wsX5_posted := by decide +kernel
  have w0_ : Cond.fieldLink RX5 56 "AgedAssetsModel" "code" "I" ∈ wsX5_posted := by decide +kernel
  have w1_ : Cond.fieldLink RX5 32 "AgedAssetsModel" "posted" "[J" ∈ wsX5_posted := by decide +kernel
  refine pk_aload_n C 0 dX5_posted_24 rfl rfl (pc2 := 25) rfl ?_
  refine pk_get (v := .int (M_cd c1)) C i5_ (pw_atX 0 rfl) (ci := 5) rfl 0 (by decide) w0_ rfl rfl dX5_posted_25 (pc2 := 28) rfl ?_
  refine pk_if_le (tgt := 35) C dX5_posted_28 (by decide) (pc2 := 31) rfl (fun h1_ => ?_) (fun h1_ => ?_)
  ·
    obtain ⟨⟨a_, ha_, hpa_⟩, k_, hk_, hmk_⟩ := hcd h1_
    have hpm : vp_in ((36 * p) + mm) 216 := ix_pm hpa_ (Nat.lt_of_lt_of_le ha_ hri.1.1) hmk_ hk_
    refine pk_aload_n C 0 dX5_posted_35 rfl rfl (pc2 := 36) rfl ?_
    refine pk_get (v := .ref (rf 7)) C i5_ (pw_atX 0 rfl) (ci := 5) rfl 9 (by decide) w1_ rfl rfl dX5_posted_36 (pc2 := 39) rfl ?_
    refine pk_bipush (v := 36) C dX5_posted_39 (by decide) (pc2 := 41) rfl ?_
    refine pk_iload_n C 1 dX5_posted_41 rfl rfl (pc2 := 42) rfl ?_
    refine pk_imul C dX5_posted_42 (pc2 := 43) rfl ?_
    refine pk_iload_n C 2 dX5_posted_43 rfl rfl (pc2 := 44) rfl ?_
    refine pk_iadd C dX5_posted_44 (pc2 := 45) rfl ?_
    refine pk_lald (v := ((T_po T) (Int32.toNatClampNeg ((36 * p) + mm)))) C (pw_atX 8 rfl) hpm rfl dX5_posted_45 (pc2 := 46) rfl ?_
    unfold m_X5_posted_1 at hR
    try rw [if_pos h1_] at hR
    subst hR
    exact pr_long C hE (po_d_rfl rfl rfl) dX5_posted_46
  ·
    refine pk_lconst (v := 0) C dX5_posted_31 (by decide) (pc2 := 32) rfl ?_
    refine pk_goto (tgt := 46) C dX5_posted_32 (by decide) ?_
    unfold m_X5_posted_1 at hR
    try rw [if_neg h1_] at hR
    subst hR
    exact pr_long C hE (po_d_rfl rfl rfl) dX5_posted_46
set_option maxRecDepth 100000 in
set_option maxHeartbeats 2000000 in
theorem t0_X5_posted {Z : pw_Z} {Q : State → Prop} {L : List Nat} {F : Nat → va_E} {m : Nat} {rf : Nat → Nat} {NP NE NM : Nat} {c : MR} {T : TR} {p : Int32} {mm : Int32} (C : pw_C Z cX5_posted 3 RX5 wsX5_posted ⟨1, 0, 0, 21⟩ (some .long)) {X9 : va_W} {R : Int64 × MR} (hE : pw_End Z Q X9 L F (po_d (some (.long (R.1))) (mX (zG Z) m rf (R.2) T) L F) 0 0) (hri : RI c T NP NE NM) (hR : m_X5_posted_0 c T p mm = R) : PW Z (mX (zG Z) m rf c T) L F 0 0 Q 0 [(0, .ref m), (1, .int p), (2, .int mm)] [] := by
  refine s0_X5_posted C hri ?_
  exact t1_X5_posted C hE hri (f0_X5_posted_h hri).1 (RI_nc hri (f0_X5_posted_h hri).2) hR
set_option maxRecDepth 100000 in
set_option maxHeartbeats 2000000 in
theorem c_X5_posted (l : Launch) (G : pw_G) (L : List Nat) (F : Nat → va_E) (m : Nat) (rf : Nat → Nat) (NP NE NM : Nat) (c : MR) (T : TR) (p : Int32) (mm : Int32) (hri : RI c T NP NE NM) : PM l yX5_posted wsX5_posted ⟨1, 0, 0, 21⟩ G [.ref m, .int p, .int mm] (mX G m rf c T) L F 0 0 (po_d (some (.long ((m_X5_posted c T p mm).1))) (mX G m rf ((m_X5_posted c T p mm).2) T) L F) := by
  refine pm_entry (by decide) rfl rfl (Nat.le_of_ble_eq_true rfl) ?_
  intro Z Q C hl0 hG0 hnm hE
  subst hl0
  subst hG0
  exact t0_X5_posted C hE hri rfl
def f0_X5_total (c : MR) (T : TR) (p : Int32) : MR :=
  if (m_X5_isPart c T p) = 0 then (M_mk 1 (M_pt c) (M_mn c) (M_ev c) (M_co c) (M_al c) (M_re c) (M_lo c) (M_rs c) (M_li c) (M_he c) (M_go c) (M_sp c) (M_ba c) (M_le c) (M_lf c) (M_mo c) (M_un c) (M_ch c) (M_lc c) (M_ac c) (M_bd c)) else (M_mk 0 (M_pt c) (M_mn c) (M_ev c) (M_co c) (M_al c) (M_re c) (M_lo c) (M_rs c) (M_li c) (M_he c) (M_go c) (M_sp c) (M_ba c) (M_le c) (M_lf c) (M_mo c) (M_un c) (M_ch c) (M_lc c) (M_ac c) (M_bd c))
theorem f0_X5_total_h {c : MR} {T : TR} {p : Int32} {NP NE NM : Nat} (hri : RI c T NP NE NM) : (M_cd (f0_X5_total c T p) ≤ 0 → ∃ a, a < NP ∧ p = nI a) ∧ M_nc (f0_X5_total c T p) = M_nc c := by
  unfold f0_X5_total
  refine zi_ite (P := fun (x : MR) => (M_cd x ≤ 0 → ∃ a, a < NP ∧ p = nI a) ∧ M_nc x = M_nc c) (fun _ => ⟨fun h => cd_no h (M_cd_mk ..), rfl⟩) (fun h1 => ⟨fun _ => isPart_in hri h1, rfl⟩)
set_option maxRecDepth 100000 in
set_option maxHeartbeats 2000000 in
theorem s0_X5_total {Z : pw_Z} {Q : State → Prop} {L : List Nat} {F : Nat → va_E} {m : Nat} {rf : Nat → Nat} {NP NE NM : Nat} {c : MR} {T : TR} {p : Int32} (C : pw_C Z cX5_total 2 RX5 wsX5_total ⟨1, 0, 0, 24⟩ (some .long)) (hri : RI c T NP NE NM) (k : PW Z (mX (zG Z) m rf (f0_X5_total c T p) T) L F 0 0 Q 17 [(0, .ref m), (1, .int p)] []) : PW Z (mX (zG Z) m rf c T) L F 0 0 Q 0 [(0, .ref m), (1, .int p)] [] := by
  have i5_ : ∀ w ∈ wsX50, w ∈ wsX5_total := by decide +kernel
  have w0_ : Cond.fieldLink RX5 56 "AgedAssetsModel" "code" "I" ∈ wsX5_total := by decide +kernel
  refine pk_aload_n C 0 dX5_total_0 rfl rfl (pc2 := 1) rfl ?_
  refine pk_aload_n C 0 dX5_total_1 rfl rfl (pc2 := 2) rfl ?_
  refine pk_iload_n C 1 dX5_total_2 rfl rfl (pc2 := 3) rfl ?_
  refine pk_dV (cx := (mX (zG Z) m rf c T)) (wr := []) (X2 := (mX (zG Z) m rf c T)) (st := [.ref m]) (st2 := [.int (m_X5_isPart c T p), .ref m]) (As := [.int p]) C (c_X5_isPart (zl Z) (zG Z) L F m rf c T p) gX5_total_X5_isPart rfl rfl rfl 1 (by decide +kernel) ⟨Nat.le_of_ble_eq_true rfl, Nat.le_of_ble_eq_true rfl⟩ (pw_atX 0 rfl) rfl rfl rfl (Nat.le_of_ble_eq_true rfl) ⟨Nat.le_of_ble_eq_true rfl, Nat.le_of_ble_eq_true rfl⟩ [0, 1, 2, 3, 4, 5, 6, 7, 8, 9, 10, 11, 12, 13, 14, 15] [] [0, 1, 2, 3, 4, 5, 6, 7, 8, 9, 10, 11, 12, 13, 14, 15] rfl rfl rfl rfl (by decide) rfl rfl dX5_total_3 (pc2 := 6) rfl rfl ?_
  refine pk_topi (fun n1_ en1_ => ?_)
  refine pk_if_eq (tgt := 13) C dX5_total_6 (by decide) (pc2 := 9) rfl (fun h1_ => ?_) (fun h1_ => ?_)
  ·
    refine pk_iconst (v := 1) C dX5_total_13 (by decide) (pc2 := 14) rfl ?_
    refine pk_putX (X' := ((m, kM rf 1 (M_pt c) (M_mn c) (M_ev c) (M_co c) (M_al c) (M_re c) (M_lo c) (M_rs c) (M_li c) (M_he c) (M_go c) (M_sp c) (M_ba c) (M_le c) (M_lf c) (M_mo c) (M_un c) (M_ch c) (M_lc c) (M_ac c) (M_bd c)) :: mT (zG Z) rf T)) C i5_ tyX5_ok nmX5 0 rfl (ci := 5) rfl 0 (by decide) w0_ rfl rfl rfl rfl rfl (Nat.le_of_ble_eq_true rfl) rfl dX5_total_14 (pc2 := 17) rfl ?_
    refine pw_conv (X' := (mX (zG Z) m rf (M_mk 1 (M_pt c) (M_mn c) (M_ev c) (M_co c) (M_al c) (M_re c) (M_lo c) (M_rs c) (M_li c) (M_he c) (M_go c) (M_sp c) (M_ba c) (M_le c) (M_lf c) (M_mo c) (M_un c) (M_ch c) (M_lc c) (M_ac c) (M_bd c)) T)) mX_mk ?_
    refine pw_lv [0, 1] (lv' := [(0, .ref m), (1, .int p)]) rfl ?_
    subst en1_
    have k9 := k
    unfold f0_X5_total at k9
    try rw [if_pos h1_] at k9
    exact k9
  ·
    refine pk_iconst (v := 0) C dX5_total_9 (by decide) (pc2 := 10) rfl ?_
    refine pk_goto (tgt := 14) C dX5_total_10 (by decide) ?_
    refine pk_putX (X' := ((m, kM rf 0 (M_pt c) (M_mn c) (M_ev c) (M_co c) (M_al c) (M_re c) (M_lo c) (M_rs c) (M_li c) (M_he c) (M_go c) (M_sp c) (M_ba c) (M_le c) (M_lf c) (M_mo c) (M_un c) (M_ch c) (M_lc c) (M_ac c) (M_bd c)) :: mT (zG Z) rf T)) C i5_ tyX5_ok nmX5 0 rfl (ci := 5) rfl 0 (by decide) w0_ rfl rfl rfl rfl rfl (Nat.le_of_ble_eq_true rfl) rfl dX5_total_14 (pc2 := 17) rfl ?_
    refine pw_conv (X' := (mX (zG Z) m rf (M_mk 0 (M_pt c) (M_mn c) (M_ev c) (M_co c) (M_al c) (M_re c) (M_lo c) (M_rs c) (M_li c) (M_he c) (M_go c) (M_sp c) (M_ba c) (M_le c) (M_lf c) (M_mo c) (M_un c) (M_ch c) (M_lc c) (M_ac c) (M_bd c)) T)) mX_mk ?_
    refine pw_lv [0, 1] (lv' := [(0, .ref m), (1, .int p)]) rfl ?_
    subst en1_
    have k9 := k
    unfold f0_X5_total at k9
    try rw [if_neg h1_] at k9
    exact k9
def m_X5_total_1 (c : MR) (T : TR) (p : Int32) (c1 : MR) : Int64 × MR :=
  if (M_cd c1) ≤ 0 then ((m_X5_totalOf c1 T p), c1) else (0, c1)
def m_X5_total_0 (c : MR) (T : TR) (p : Int32) : Int64 × MR := m_X5_total_1 c T p (f0_X5_total c T p)
def m_X5_total (c : MR) (T : TR) (p : Int32) : Int64 × MR := m_X5_total_0 c T p
set_option maxRecDepth 100000 in
set_option maxHeartbeats 2000000 in
theorem t1_X5_total {Z : pw_Z} {Q : State → Prop} {L : List Nat} {F : Nat → va_E} {m : Nat} {rf : Nat → Nat} {NP NE NM : Nat} {c : MR} {T : TR} {p : Int32} {c1 : MR} (C : pw_C Z cX5_total 2 RX5 wsX5_total ⟨1, 0, 0, 24⟩ (some .long)) {X9 : va_W} {R : Int64 × MR} (hE : pw_End Z Q X9 L F (po_d (some (.long (R.1))) (mX (zG Z) m rf (R.2) T) L F) 0 0) (hri : RI c T NP NE NM) (hcd : M_cd c1 ≤ 0 → ∃ a, a < NP ∧ p = nI a) (hri1 : RI c1 T NP NE NM) (hR : m_X5_total_1 c T p c1 = R) : PW Z (mX (zG Z) m rf c1 T) L F 0 0 Q 17 [(0, .ref m), (1, .int p)] [] := by
  have i5_ : ∀ w ∈ wsX50, w ∈ wsX5_total := by decide +kernel
  have w0_ : Cond.fieldLink RX5 56 "AgedAssetsModel" "code" "I" ∈ wsX5_total := by decide +kernel
  refine pk_aload_n C 0 dX5_total_17 rfl rfl (pc2 := 18) rfl ?_
  refine pk_get (v := .int (M_cd c1)) C i5_ (pw_atX 0 rfl) (ci := 5) rfl 0 (by decide) w0_ rfl rfl dX5_total_18 (pc2 := 21) rfl ?_
  refine pk_if_le (tgt := 28) C dX5_total_21 (by decide) (pc2 := 24) rfl (fun h1_ => ?_) (fun h1_ => ?_)
  ·
    obtain ⟨a_, ha_, hpa_⟩ := hcd h1_
    refine pk_aload_n C 0 dX5_total_28 rfl rfl (pc2 := 29) rfl ?_
    refine pk_iload_n C 1 dX5_total_29 rfl rfl (pc2 := 30) rfl ?_
    refine pk_dV (cx := (mX (zG Z) m rf c1 T)) (wr := []) (X2 := (mX (zG Z) m rf c1 T)) (st := []) (st2 := [.long (m_X5_totalOf c1 T p)]) (As := [.int p]) C (c_X5_totalOf (zl Z) (zG Z) L F m rf c1 T p NM hri.2.2.1.1 hri1.2.2.1.2 a_ (Nat.lt_of_lt_of_le ha_ hri.1.1) hpa_) gX5_total_X5_totalOf rfl rfl rfl 1 (by decide +kernel) ⟨Nat.le_of_ble_eq_true rfl, Nat.le_of_ble_eq_true rfl⟩ (pw_atX 0 rfl) rfl rfl rfl (Nat.le_of_ble_eq_true rfl) ⟨Nat.le_of_ble_eq_true rfl, Nat.le_of_ble_eq_true rfl⟩ [0, 1, 2, 3, 4, 5, 6, 7, 8, 9, 10, 11, 12, 13, 14, 15] [] [0, 1, 2, 3, 4, 5, 6, 7, 8, 9, 10, 11, 12, 13, 14, 15] rfl rfl rfl rfl (by decide) rfl rfl dX5_total_30 (pc2 := 33) rfl rfl ?_
    refine pk_topl (fun n1_ en1_ => ?_)
    subst en1_
    unfold m_X5_total_1 at hR
    try rw [if_pos h1_] at hR
    subst hR
    exact pr_long C hE (po_d_rfl rfl rfl) dX5_total_33
  ·
    refine pk_lconst (v := 0) C dX5_total_24 (by decide) (pc2 := 25) rfl ?_
    refine pk_goto (tgt := 33) C dX5_total_25 (by decide) ?_
    unfold m_X5_total_1 at hR
    try rw [if_neg h1_] at hR
    subst hR
    exact pr_long C hE (po_d_rfl rfl rfl) dX5_total_33
set_option maxRecDepth 100000 in
set_option maxHeartbeats 2000000 in
theorem t0_X5_total {Z : pw_Z} {Q : State → Prop} {L : List Nat} {F : Nat → va_E} {m : Nat} {rf : Nat → Nat} {NP NE NM : Nat} {c : MR} {T : TR} {p : Int32} (C : pw_C Z cX5_total 2 RX5 wsX5_total ⟨1, 0, 0, 24⟩ (some .long)) {X9 : va_W} {R : Int64 × MR} (hE : pw_End Z Q X9 L F (po_d (some (.long (R.1))) (mX (zG Z) m rf (R.2) T) L F) 0 0) (hri : RI c T NP NE NM) (hR : m_X5_total_0 c T p = R) : PW Z (mX (zG Z) m rf c T) L F 0 0 Q 0 [(0, .ref m), (1, .int p)] [] := by
  refine s0_X5_total C hri ?_
  exact t1_X5_total C hE hri (f0_X5_total_h hri).1 (RI_nc hri (f0_X5_total_h hri).2) hR
set_option maxRecDepth 100000 in
set_option maxHeartbeats 2000000 in
theorem c_X5_total (l : Launch) (G : pw_G) (L : List Nat) (F : Nat → va_E) (m : Nat) (rf : Nat → Nat) (NP NE NM : Nat) (c : MR) (T : TR) (p : Int32) (hri : RI c T NP NE NM) : PM l yX5_total wsX5_total ⟨1, 0, 0, 24⟩ G [.ref m, .int p] (mX G m rf c T) L F 0 0 (po_d (some (.long ((m_X5_total c T p).1))) (mX G m rf ((m_X5_total c T p).2) T) L F) := by
  refine pm_entry (by decide) rfl rfl (Nat.le_of_ble_eq_true rfl) ?_
  intro Z Q C hl0 hG0 hnm hE
  subst hl0
  subst hG0
  exact t0_X5_total C hE hri rfl
def m_X5_months (c : MR) (T : TR) : Int32 × MR :=
  ((M_mn c), (M_mk 0 (M_pt c) (M_mn c) (M_ev c) (M_co c) (M_al c) (M_re c) (M_lo c) (M_rs c) (M_li c) (M_he c) (M_go c) (M_sp c) (M_ba c) (M_le c) (M_lf c) (M_mo c) (M_un c) (M_ch c) (M_lc c) (M_ac c) (M_bd c)))
set_option maxRecDepth 100000 in
set_option maxHeartbeats 2000000 in
theorem c_X5_months (l : Launch) (G : pw_G) (L : List Nat) (F : Nat → va_E) (m : Nat) (rf : Nat → Nat) (c : MR) (T : TR) : PM l yX5_months wsX5_months ⟨0, 0, 0, 0⟩ G [.ref m] (mX G m rf c T) L F 0 0 (po_d (some (.int (m_X5_months c T).1)) (mX G m rf ((m_X5_months c T).2) T) L F) := by
  refine pm_entry (by decide) rfl rfl (Nat.le_of_ble_eq_true rfl) ?_
  intro Z Q C hl0 hG0 hnm hE
  subst hl0
  subst hG0
  have i5_ : ∀ w ∈ wsX50, w ∈ wsX5_months := by decide +kernel
  have w0_ : Cond.fieldLink RX5 56 "AgedAssetsModel" "code" "I" ∈ wsX5_months := by decide +kernel
  have w1_ : Cond.fieldLink RX5 219 "AgedAssetsModel" "months" "I" ∈ wsX5_months := by decide +kernel
  show PW Z (mX (zG Z) m rf c T) L F 0 0 Q 0 [(0, .ref m)] []
  refine pk_aload_n C 0 dX5_months_0 rfl rfl (pc2 := 1) rfl ?_
  refine pk_iconst (v := 0) C dX5_months_1 (by decide) (pc2 := 2) rfl ?_
  refine pk_putX (X' := ((m, kM rf 0 (M_pt c) (M_mn c) (M_ev c) (M_co c) (M_al c) (M_re c) (M_lo c) (M_rs c) (M_li c) (M_he c) (M_go c) (M_sp c) (M_ba c) (M_le c) (M_lf c) (M_mo c) (M_un c) (M_ch c) (M_lc c) (M_ac c) (M_bd c)) :: mT (zG Z) rf T)) C i5_ tyX5_ok nmX5 0 rfl (ci := 5) rfl 0 (by decide) w0_ rfl rfl rfl rfl rfl (Nat.le_of_ble_eq_true rfl) rfl dX5_months_2 (pc2 := 5) rfl ?_
  refine pk_aload_n C 0 dX5_months_5 rfl rfl (pc2 := 6) rfl ?_
  refine pk_get (v := .int (M_mn c)) C i5_ (pw_atX 0 rfl) (ci := 5) rfl 10 (by decide) w1_ rfl rfl dX5_months_6 (pc2 := 9) rfl ?_
  refine pw_conv (X' := (mX (zG Z) m rf (M_mk 0 (M_pt c) (M_mn c) (M_ev c) (M_co c) (M_al c) (M_re c) (M_lo c) (M_rs c) (M_li c) (M_he c) (M_go c) (M_sp c) (M_ba c) (M_le c) (M_lf c) (M_mo c) (M_un c) (M_ch c) (M_lc c) (M_ac c) (M_bd c)) T)) mX_mk ?_
  exact pr_int (ty := .int) C hE rfl rfl (po_d_rfl (by first | with_reducible rfl | (unfold m_X5_months; with_reducible rfl)) (by first | with_reducible rfl | (unfold m_X5_months; with_reducible rfl))) dX5_months_9
def m_X5_parts (c : MR) (T : TR) : Int32 × MR :=
  ((M_pt c), (M_mk 0 (M_pt c) (M_mn c) (M_ev c) (M_co c) (M_al c) (M_re c) (M_lo c) (M_rs c) (M_li c) (M_he c) (M_go c) (M_sp c) (M_ba c) (M_le c) (M_lf c) (M_mo c) (M_un c) (M_ch c) (M_lc c) (M_ac c) (M_bd c)))
set_option maxRecDepth 100000 in
set_option maxHeartbeats 2000000 in
theorem c_X5_parts (l : Launch) (G : pw_G) (L : List Nat) (F : Nat → va_E) (m : Nat) (rf : Nat → Nat) (c : MR) (T : TR) : PM l yX5_parts wsX5_parts ⟨0, 0, 0, 0⟩ G [.ref m] (mX G m rf c T) L F 0 0 (po_d (some (.int (m_X5_parts c T).1)) (mX G m rf ((m_X5_parts c T).2) T) L F) := by
  refine pm_entry (by decide) rfl rfl (Nat.le_of_ble_eq_true rfl) ?_
  intro Z Q C hl0 hG0 hnm hE
  subst hl0
  subst hG0
  have i5_ : ∀ w ∈ wsX50, w ∈ wsX5_parts := by decide +kernel
  have w0_ : Cond.fieldLink RX5 56 "AgedAssetsModel" "code" "I" ∈ wsX5_parts := by decide +kernel
  have w1_ : Cond.fieldLink RX5 62 "AgedAssetsModel" "parts" "I" ∈ wsX5_parts := by decide +kernel
  show PW Z (mX (zG Z) m rf c T) L F 0 0 Q 0 [(0, .ref m)] []
  refine pk_aload_n C 0 dX5_parts_0 rfl rfl (pc2 := 1) rfl ?_
  refine pk_iconst (v := 0) C dX5_parts_1 (by decide) (pc2 := 2) rfl ?_
  refine pk_putX (X' := ((m, kM rf 0 (M_pt c) (M_mn c) (M_ev c) (M_co c) (M_al c) (M_re c) (M_lo c) (M_rs c) (M_li c) (M_he c) (M_go c) (M_sp c) (M_ba c) (M_le c) (M_lf c) (M_mo c) (M_un c) (M_ch c) (M_lc c) (M_ac c) (M_bd c)) :: mT (zG Z) rf T)) C i5_ tyX5_ok nmX5 0 rfl (ci := 5) rfl 0 (by decide) w0_ rfl rfl rfl rfl rfl (Nat.le_of_ble_eq_true rfl) rfl dX5_parts_2 (pc2 := 5) rfl ?_
  refine pk_aload_n C 0 dX5_parts_5 rfl rfl (pc2 := 6) rfl ?_
  refine pk_get (v := .int (M_pt c)) C i5_ (pw_atX 0 rfl) (ci := 5) rfl 1 (by decide) w1_ rfl rfl dX5_parts_6 (pc2 := 9) rfl ?_
  refine pw_conv (X' := (mX (zG Z) m rf (M_mk 0 (M_pt c) (M_mn c) (M_ev c) (M_co c) (M_al c) (M_re c) (M_lo c) (M_rs c) (M_li c) (M_he c) (M_go c) (M_sp c) (M_ba c) (M_le c) (M_lf c) (M_mo c) (M_un c) (M_ch c) (M_lc c) (M_ac c) (M_bd c)) T)) mX_mk ?_
  exact pr_int (ty := .int) C hE rfl rfl (po_d_rfl (by first | with_reducible rfl | (unfold m_X5_parts; with_reducible rfl)) (by first | with_reducible rfl | (unfold m_X5_parts; with_reducible rfl))) dX5_parts_9

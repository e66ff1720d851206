def f0_X5_value (c : MR) (T : TR) (p : Int32) (mm : Int32) (wh : Int32) : MR :=
  if (m_X5_isPart c T p) = 0 then (M_mk 1 (M_pt c) (M_mn c) (M_ev c) (M_co c) (M_al c) (M_re c) (M_lo c) (M_rs c) (M_li c) (M_he c) (M_go c) (M_sp c) (M_ba c) (M_le c) (M_lf c) (M_mo c) (M_un c) (M_ch c) (M_lc c) (M_ac c) (M_bd c)) else if (m_X5_isMonth mm) = 0 then (M_mk 1 (M_pt c) (M_mn c) (M_ev c) (M_co c) (M_al c) (M_re c) (M_lo c) (M_rs c) (M_li c) (M_he c) (M_go c) (M_sp c) (M_ba c) (M_le c) (M_lf c) (M_mo c) (M_un c) (M_ch c) (M_lc c) (M_ac c) (M_bd c)) else if wh < 0 then (M_mk 1 (M_pt c) (M_mn c) (M_ev c) (M_co c) (M_al c) (M_re c) (M_lo c) (M_rs c) (M_li c) (M_he c) (M_go c) (M_sp c) (M_ba c) (M_le c) (M_lf c) (M_mo c) (M_un c) (M_ch c) (M_lc c) (M_ac c) (M_bd c)) else if 6 < wh then (M_mk 1 (M_pt c) (M_mn c) (M_ev c) (M_co c) (M_al c) (M_re c) (M_lo c) (M_rs c) (M_li c) (M_he c) (M_go c) (M_sp c) (M_ba c) (M_le c) (M_lf c) (M_mo c) (M_un c) (M_ch c) (M_lc c) (M_ac c) (M_bd c)) else (M_mk 0 (M_pt c) (M_mn c) (M_ev c) (M_co c) (M_al c) (M_re c) (M_lo c) (M_rs c) (M_li c) (M_he c) (M_go c) (M_sp c) (M_ba c) (M_le c) (M_lf c) (M_mo c) (M_un c) (M_ch c) (M_lc c) (M_ac c) (M_bd c))
theorem f0_X5_value_h {c : MR} {T : TR} {p mm wh : Int32} {NP NE NM : Nat} (hri : RI c T NP NE NM) : (M_cd (f0_X5_value c T p mm wh) ≤ 0 → (∃ a, a < NP ∧ p = nI a) ∧ ∃ k, k < 36 ∧ mm = nI k) ∧ M_nc (f0_X5_value c T p mm wh) = M_nc c := by
  have key : ∀ a d : MR, M_cd a = 1 → M_nc a = M_nc c → (M_cd a ≤ 0 → (∃ a, a < NP ∧ p = nI a) ∧ ∃ k, k < 36 ∧ mm = nI k) ∧ M_nc a = M_nc c := fun a d h1 h2 => ⟨fun h => cd_no h h1, h2⟩
  unfold f0_X5_value
  refine zi_ite (P := fun (x : MR) => (M_cd x ≤ 0 → (∃ a, a < NP ∧ p = nI a) ∧ ∃ k, k < 36 ∧ mm = nI k) ∧ M_nc x = M_nc c) (fun _ => key _ c (M_cd_mk ..) rfl) (fun h1 => ?_)
  refine zi_ite (P := fun (x : MR) => (M_cd x ≤ 0 → (∃ a, a < NP ∧ p = nI a) ∧ ∃ k, k < 36 ∧ mm = nI k) ∧ M_nc x = M_nc c) (fun _ => key _ c (M_cd_mk ..) rfl) (fun h2 => ?_)
  repeat' (first | (with_reducible refine zi_ite (P := fun (x : MR) => (M_cd x ≤ 0 → (∃ a, a < NP ∧ p = nI a) ∧ ∃ k, k < 36 ∧ mm = nI k) ∧ M_nc x = M_nc c) (fun _ => ?_) (fun _ => ?_)) | exact key _ c (M_cd_mk ..) rfl | exact ⟨fun _ => ⟨isPart_in hri h1, isMonth_in h2⟩, rfl⟩)
set_option maxRecDepth 100000 in
set_option maxHeartbeats 2000000 in
theorem s0_X5_value {Z : pw_Z} {Q : State → Prop} {L : List Nat} {F : Nat → va_E} {m : Nat} {rf : Nat → Nat} {NP NE NM : Nat} {c : MR} {T : TR} {p : Int32} {mm : Int32} {wh : Int32} (C : pw_C Z cX5_value 4 RX5 wsX5_value ⟨6, 0, 0, 140⟩ (some .long)) (hri : RI c T NP NE NM) (k : PW Z (mX (zG Z) m rf (f0_X5_value c T p mm wh) T) L F 0 0 Q 34 [(0, .ref m), (1, .int p), (2, .int mm), (3, .int wh)] []) : PW Z (mX (zG Z) m rf c T) L F 0 0 Q 0 [(0, .ref m), (1, .int p), (2, .int mm), (3, .int wh)] [] := by
  have i5_ : ∀ w ∈ wsX50, w ∈ wsX5_value := by decide +kernel
  have w0_ : Cond.fieldLink RX5 56 "AgedAssetsModel" "code" "I" ∈ wsX5_value := by decide +kernel
  refine pk_aload_n C 0 dX5_value_0 rfl rfl (pc2 := 1) rfl ?_
  refine pk_aload_n C 0 dX5_value_1 rfl rfl (pc2 := 2) rfl ?_
  refine pk_iload_n C 1 dX5_value_2 rfl rfl (pc2 := 3) rfl ?_
  refine pk_dV (cx := (mX (zG Z) m rf c T)) (wr := []) (X2 := (mX (zG Z) m rf c T)) (st := [.ref m]) (st2 := [.int (m_X5_isPart c T p), .ref m]) (As := [.int p]) C (c_X5_isPart (zl Z) (zG Z) L F m rf c T p) gX5_value_X5_isPart rfl rfl rfl 1 (by decide +kernel) ⟨Nat.le_of_ble_eq_true rfl, Nat.le_of_ble_eq_true rfl⟩ (pw_atX 0 rfl) rfl rfl rfl (Nat.le_of_ble_eq_true rfl) ⟨Nat.le_of_ble_eq_true rfl, Nat.le_of_ble_eq_true rfl⟩ [0, 1, 2, 3, 4, 5, 6, 7, 8, 9, 10, 11, 12, 13, 14, 15] [] [0, 1, 2, 3, 4, 5, 6, 7, 8, 9, 10, 11, 12, 13, 14, 15] rfl rfl rfl rfl (by decide) rfl rfl dX5_value_3 (pc2 := 6) rfl rfl ?_
  refine pk_topi (fun n1_ en1_ => ?_)
  refine pk_if_eq (tgt := 30) C dX5_value_6 (by decide) (pc2 := 9) rfl (fun h1_ => ?_) (fun h1_ => ?_)
  ·
    refine pk_iconst (v := 1) C dX5_value_30 (by decide) (pc2 := 31) rfl ?_
    refine pk_putX (X' := ((m, kM rf 1 (M_pt c) (M_mn c) (M_ev c) (M_co c) (M_al c) (M_re c) (M_lo c) (M_rs c) (M_li c) (M_he c) (M_go c) (M_sp c) (M_ba c) (M_le c) (M_lf c) (M_mo c) (M_un c) (M_ch c) (M_lc c) (M_ac c) (M_bd c)) :: mT (zG Z) rf T)) C i5_ tyX5_ok nmX5 0 rfl (ci := 5) rfl 0 (by decide) w0_ rfl rfl rfl rfl rfl (Nat.le_of_ble_eq_true rfl) rfl dX5_value_31 (pc2 := 34) rfl ?_
    refine pw_conv (X' := (mX (zG Z) m rf (M_mk 1 (M_pt c) (M_mn c) (M_ev c) (M_co c) (M_al c) (M_re c) (M_lo c) (M_rs c) (M_li c) (M_he c) (M_go c) (M_sp c) (M_ba c) (M_le c) (M_lf c) (M_mo c) (M_un c) (M_ch c) (M_lc c) (M_ac c) (M_bd c)) T)) mX_mk ?_
    refine pw_lv [0, 1, 2, 3] (lv' := [(0, .ref m), (1, .int p), (2, .int mm), (3, .int wh)]) rfl ?_
    subst en1_
    have k9 := k
    unfold f0_X5_value at k9
    try rw [if_pos h1_] at k9
    exact k9
  ·
    refine pk_iload_n C 2 dX5_value_9 rfl rfl (pc2 := 10) rfl ?_
    refine pk_dS (cx := []) (wr := (mX (zG Z) m rf c T)) (X2 := (mX (zG Z) m rf c T)) (st := [.ref m]) (st2 := [.int (m_X5_isMonth mm), .ref m]) (As := [.int mm]) C (c_X5_isMonth (zl Z) (zG Z) L F mm) gX5_value_X5_isMonth rfl rfl rfl 1 (by decide +kernel) ⟨Nat.le_of_ble_eq_true rfl, Nat.le_of_ble_eq_true rfl⟩ rfl rfl (Nat.le_of_ble_eq_true rfl) ⟨Nat.le_of_ble_eq_true rfl, Nat.le_of_ble_eq_true rfl⟩ [] [0, 1, 2, 3, 4, 5, 6, 7, 8, 9, 10, 11, 12, 13, 14, 15] [0, 1, 2, 3, 4, 5, 6, 7, 8, 9, 10, 11, 12, 13, 14, 15] rfl rfl rfl rfl (by decide) rfl rfl dX5_value_10 (pc2 := 13) rfl rfl ?_
    refine pk_topi (fun n2_ en2_ => ?_)
    refine pk_if_eq (tgt := 30) C dX5_value_13 (by decide) (pc2 := 16) rfl (fun h2_ => ?_) (fun h2_ => ?_)
    ·
      refine pk_iconst (v := 1) C dX5_value_30 (by decide) (pc2 := 31) rfl ?_
      refine pk_putX (X' := ((m, kM rf 1 (M_pt c) (M_mn c) (M_ev c) (M_co c) (M_al c) (M_re c) (M_lo c) (M_rs c) (M_li c) (M_he c) (M_go c) (M_sp c) (M_ba c) (M_le c) (M_lf c) (M_mo c) (M_un c) (M_ch c) (M_lc c) (M_ac c) (M_bd c)) :: mT (zG Z) rf T)) C i5_ tyX5_ok nmX5 0 rfl (ci := 5) rfl 0 (by decide) w0_ rfl rfl rfl rfl rfl (Nat.le_of_ble_eq_true rfl) rfl dX5_value_31 (pc2 := 34) rfl ?_
      refine pw_conv (X' := (mX (zG Z) m rf (M_mk 1 (M_pt c) (M_mn c) (M_ev c) (M_co c) (M_al c) (M_re c) (M_lo c) (M_rs c) (M_li c) (M_he c) (M_go c) (M_sp c) (M_ba c) (M_le c) (M_lf c) (M_mo c) (M_un c) (M_ch c) (M_lc c) (M_ac c) (M_bd c)) T)) mX_mk ?_
      refine pw_lv [0, 1, 2, 3] (lv' := [(0, .ref m), (1, .int p), (2, .int mm), (3, .int wh)]) rfl ?_
      subst en1_ en2_
      have k9 := k
      unfold f0_X5_value at k9
      try rw [if_neg h1_] at k9
      try rw [if_pos h2_] at k9
      exact k9
    ·
      refine pk_iload_n C 3 dX5_value_16 rfl rfl (pc2 := 17) rfl ?_
      refine pk_if_lt (tgt := 30) C dX5_value_17 (by decide) (pc2 := 20) rfl (fun h3_ => ?_) (fun h3_ => ?_)
      ·
        refine pk_iconst (v := 1) C dX5_value_30 (by decide) (pc2 := 31) rfl ?_
        refine pk_putX (X' := ((m, kM rf 1 (M_pt c) (M_mn c) (M_ev c) (M_co c) (M_al c) (M_re c) (M_lo c) (M_rs c) (M_li c) (M_he c) (M_go c) (M_sp c) (M_ba c) (M_le c) (M_lf c) (M_mo c) (M_un c) (M_ch c) (M_lc c) (M_ac c) (M_bd c)) :: mT (zG Z) rf T)) C i5_ tyX5_ok nmX5 0 rfl (ci := 5) rfl 0 (by decide) w0_ rfl rfl rfl rfl rfl (Nat.le_of_ble_eq_true rfl) rfl dX5_value_31 (pc2 := 34) rfl ?_
        refine pw_conv (X' := (mX (zG Z) m rf (M_mk 1 (M_pt c) (M_mn c) (M_ev c) (M_co c) (M_al c) (M_re c) (M_lo c) (M_rs c) (M_li c) (M_he c) (M_go c) (M_sp c) (M_ba c) (M_le c) (M_lf c) (M_mo c) (M_un c) (M_ch c) (M_lc c) (M_ac c) (M_bd c)) T)) mX_mk ?_
        refine pw_lv [0, 1, 2, 3] (lv' := [(0, .ref m), (1, .int p), (2, .int mm), (3, .int wh)]) rfl ?_
        subst en1_ en2_
        have k9 := k
        unfold f0_X5_value at k9
        try rw [if_neg h1_] at k9
        try rw [if_neg h2_] at k9
        try rw [if_pos h3_] at k9
        exact k9
      ·
        refine pk_iload_n C 3 dX5_value_20 rfl rfl (pc2 := 21) rfl ?_
        refine pk_bipush (v := 6) C dX5_value_21 (by decide) (pc2 := 23) rfl ?_
        refine pk_icmp_gt (tgt := 30) C dX5_value_23 (by decide) (pc2 := 26) rfl (fun h4_ => ?_) (fun h4_ => ?_)
        ·
          refine pk_iconst (v := 1) C dX5_value_30 (by decide) (pc2 := 31) rfl ?_
          refine pk_putX (X' := ((m, kM rf 1 (M_pt c) (M_mn c) (M_ev c) (M_co c) (M_al c) (M_re c) (M_lo c) (M_rs c) (M_li c) (M_he c) (M_go c) (M_sp c) (M_ba c) (M_le c) (M_lf c) (M_mo c) (M_un c) (M_ch c) (M_lc c) (M_ac c) (M_bd c)) :: mT (zG Z) rf T)) C i5_ tyX5_ok nmX5 0 rfl (ci := 5) rfl 0 (by decide) w0_ rfl rfl rfl rfl rfl (Nat.le_of_ble_eq_true rfl) rfl dX5_value_31 (pc2 := 34) rfl ?_
          refine pw_conv (X' := (mX (zG Z) m rf (M_mk 1 (M_pt c) (M_mn c) (M_ev c) (M_co c) (M_al c) (M_re c) (M_lo c) (M_rs c) (M_li c) (M_he c) (M_go c) (M_sp c) (M_ba c) (M_le c) (M_lf c) (M_mo c) (M_un c) (M_ch c) (M_lc c) (M_ac c) (M_bd c)) T)) mX_mk ?_
          refine pw_lv [0, 1, 2, 3] (lv' := [(0, .ref m), (1, .int p), (2, .int mm), (3, .int wh)]) rfl ?_
          subst en1_ en2_
          have k9 := k
          unfold f0_X5_value at k9
          try rw [if_neg h1_] at k9
          try rw [if_neg h2_] at k9
          try rw [if_neg h3_] at k9
          try rw [if_pos h4_] at k9
          exact k9
        ·
          refine pk_iconst (v := 0) C dX5_value_26 (by decide) (pc2 := 27) rfl ?_
          refine pk_goto (tgt := 31) C dX5_value_27 (by decide) ?_
          refine pk_putX (X' := ((m, kM rf 0 (M_pt c) (M_mn c) (M_ev c) (M_co c) (M_al c) (M_re c) (M_lo c) (M_rs c) (M_li c) (M_he c) (M_go c) (M_sp c) (M_ba c) (M_le c) (M_lf c) (M_mo c) (M_un c) (M_ch c) (M_lc c) (M_ac c) (M_bd c)) :: mT (zG Z) rf T)) C i5_ tyX5_ok nmX5 0 rfl (ci := 5) rfl 0 (by decide) w0_ rfl rfl rfl rfl rfl (Nat.le_of_ble_eq_true rfl) rfl dX5_value_31 (pc2 := 34) rfl ?_
          refine pw_conv (X' := (mX (zG Z) m rf (M_mk 0 (M_pt c) (M_mn c) (M_ev c) (M_co c) (M_al c) (M_re c) (M_lo c) (M_rs c) (M_li c) (M_he c) (M_go c) (M_sp c) (M_ba c) (M_le c) (M_lf c) (M_mo c) (M_un c) (M_ch c) (M_lc c) (M_ac c) (M_bd c)) T)) mX_mk ?_
          refine pw_lv [0, 1, 2, 3] (lv' := [(0, .ref m), (1, .int p), (2, .int mm), (3, .int wh)]) rfl ?_
          subst en1_ en2_
          have k9 := k
          unfold f0_X5_value at k9
          try rw [if_neg h1_] at k9
          try rw [if_neg h2_] at k9
          try rw [if_neg h3_] at k9
          try rw [if_neg h4_] at k9
          exact k9
def m_X5_value_1 (c : MR) (T : TR) (p : Int32) (mm : Int32) (wh : Int32) (c1 : MR) : Int64 × MR × TR :=
  if (M_cd c1) ≤ 0 then if wh = 0 then ((M_co ((m_X5_reckon c1 T p mm).2.1)), ((m_X5_reckon c1 T p mm).2.1), ((m_X5_reckon c1 T p mm).2.2)) else if wh = 1 then ((M_al ((m_X5_reckon c1 T p mm).2.1)), ((m_X5_reckon c1 T p mm).2.1), ((m_X5_reckon c1 T p mm).2.2)) else if wh = 2 then ((m_X5_book ((m_X5_reckon c1 T p mm).2.1) ((m_X5_reckon c1 T p mm).2.2)), ((m_X5_reckon c1 T p mm).2.1), ((m_X5_reckon c1 T p mm).2.2)) else if wh = 3 then ((M_re ((m_X5_reckon c1 T p mm).2.1)), ((m_X5_reckon c1 T p mm).2.1), ((m_X5_reckon c1 T p mm).2.2)) else if wh = 4 then ((M_lo ((m_X5_reckon c1 T p mm).2.1)), ((m_X5_reckon c1 T p mm).2.1), ((m_X5_reckon c1 T p mm).2.2)) else if wh = 5 then ((M_rs ((m_X5_reckon c1 T p mm).2.1)), ((m_X5_reckon c1 T p mm).2.1), ((m_X5_reckon c1 T p mm).2.2)) else ((Int32.toInt64 (M_li ((m_X5_reckon c1 T p mm).2.1))), ((m_X5_reckon c1 T p mm).2.1), ((m_X5_reckon c1 T p mm).2.2)) else (0, c1, T)
def m_X5_value_0 (c : MR) (T : TR) (p : Int32) (mm : Int32) (wh : Int32) : Int64 × MR × TR := m_X5_value_1 c T p mm wh (f0_X5_value c T p mm wh)
def m_X5_value (c : MR) (T : TR) (p : Int32) (mm : Int32) (wh : Int32) : Int64 × MR × TR := m_X5_value_0 c T p mm wh
set_option maxRecDepth 100000 in
set_option maxHeartbeats 2000000 in
theorem t1_X5_value {Z : pw_Z} {Q : State → Prop} {L : List Nat} {F : Nat → va_E} {m : Nat} {rf : Nat → Nat} {NP NE NM : Nat} {c : MR} {T : TR} {p : Int32} {mm : Int32} {wh : Int32} {c1 : MR} (C : pw_C Z cX5_value 4 RX5 wsX5_value ⟨6, 0, 0, 140⟩ (some .long)) {X9 : va_W} {R : Int64 × MR × TR} (hE : pw_End Z Q X9 L F (po_d (some (.long (R.1))) (mX (zG Z) m rf (R.2.1) (R.2.2)) L F) 0 0) (hri : RI c T NP NE NM) (hcd : M_cd c1 ≤ 0 → (∃ a, a < NP ∧ p = nI a) ∧ ∃ k, k < 36 ∧ mm = nI k) (hri1 : RI c1 T NP NE NM) (hR : m_X5_value_1 c T p mm wh c1 = R) : PW Z (mX (zG Z) m rf c1 T) L F 0 0 Q 34 [(0, .ref m), (1, .int p), (2, .int mm), (3, .int wh)] [] := by
  have i5_ : ∀ w ∈ wsX50, w ∈ wsX5_value := by decide +kernel
  have w0_ : Cond.fieldLink RX5 56 "AgedAssetsModel" "code" "I" ∈ wsX5_value := by decide +kernel
  have w1_ : Cond.fieldLink RX5 65 "AgedAssetsModel" "cost" "J" ∈ wsX5_value := by decide +kernel
  have w2_ : Cond.fieldLink RX5 69 "AgedAssetsModel" "allowance" "J" ∈ wsX5_value := by decide +kernel
  have w3_ : Cond.fieldLink RX5 106 "AgedAssetsModel" "reserve" "J" ∈ wsX5_value := by decide +kernel
  have w4_ : Cond.fieldLink RX5 109 "AgedAssetsModel" "losses" "J" ∈ wsX5_value := by decide +kernel
  have w5_ : Cond.fieldLink RX5 79 "AgedAssetsModel" "residual" "J" ∈ wsX5_value := by decide +kernel
  have w6_ : Cond.fieldLink RX5 85 "AgedAssetsModel" "rest" "I" ∈ wsX5_value := by decide +kernel
  refine pk_aload_n C 0 dX5_value_34 rfl rfl (pc2 := 35) rfl ?_
  refine pk_get (v := .int (M_cd c1)) C i5_ (pw_atX 0 rfl) (ci := 5) rfl 0 (by decide) w0_ rfl rfl dX5_value_35 (pc2 := 38) rfl ?_
  refine pk_if_le (tgt := 43) C dX5_value_38 (by decide) (pc2 := 41) rfl (fun h1_ => ?_) (fun h1_ => ?_)
  ·
    obtain ⟨⟨a_, ha_, hpa_⟩, k_, hk_, hmk_⟩ := hcd h1_
    have hgo35_ := RI_go (un := 35) hri1 ha_ hpa_ (by decide)
    have hm35 : mm.toInt ≤ 35 := by rw [hmk_, nI_toInt (by omega)]; omega
    have hgo_ := RI_go hri1 ha_ hpa_ hm35
    refine pk_aload_n C 0 dX5_value_43 rfl rfl (pc2 := 44) rfl ?_
    refine pk_iload_n C 1 dX5_value_44 rfl rfl (pc2 := 45) rfl ?_
    refine pk_iload_n C 2 dX5_value_45 rfl rfl (pc2 := 46) rfl ?_
    refine pk_dV (cx := (mX (zG Z) m rf c1 T)) (wr := []) (X2 := (mX (zG Z) m rf ((m_X5_reckon c1 T p mm).2.1) ((m_X5_reckon c1 T p mm).2.2))) (st := []) (st2 := [.int ((m_X5_reckon c1 T p mm).1)]) (As := [.int p, .int mm]) C (c_X5_reckon (zl Z) (zG Z) L F m rf c1 T p mm hgo35_ hgo_) gX5_value_X5_reckon rfl rfl rfl 2 (by decide +kernel) ⟨Nat.le_of_ble_eq_true rfl, Nat.le_of_ble_eq_true rfl⟩ (pw_atX 0 rfl) rfl rfl rfl (Nat.le_of_ble_eq_true rfl) ⟨Nat.le_of_ble_eq_true rfl, Nat.le_of_ble_eq_true rfl⟩ [0, 1, 2, 3, 4, 5, 6, 7, 8, 9, 10, 11, 12, 13, 14, 15] [] [0, 1, 2, 3, 4, 5, 6, 7, 8, 9, 10, 11, 12, 13, 14, 15] rfl rfl rfl rfl (by decide) rfl rfl dX5_value_46 (pc2 := 49) rfl rfl ?_
    generalize en1_ : ((m_X5_reckon c1 T p mm).2.1) = n1_
    generalize en2_ : ((m_X5_reckon c1 T p mm).2.2) = n2_
    refine pk_topi (fun n3_ en3_ => ?_)
    refine pk_pop C dX5_value_49 rfl (pc2 := 50) rfl ?_
    refine pk_iload_n C 3 dX5_value_50 rfl rfl (pc2 := 51) rfl ?_
    by_cases h2_ : wh = 0
    ·
      refine pk_tableIn (tgt := 88) C dX5_value_51 (by rw [h2_]; decide) (by rw [h2_]; decide) (by rw [h2_]; first | done | rfl) (by decide) ?_
      refine pk_aload_n C 0 dX5_value_88 rfl rfl (pc2 := 89) rfl ?_
      refine pk_get (v := .long (M_co n1_)) C i5_ (pw_atX 0 rfl) (ci := 5) rfl 17 (by decide) w1_ rfl rfl dX5_value_89 (pc2 := 92) rfl ?_
      subst en1_ en2_ en3_
      unfold m_X5_value_1 at hR
      try rw [if_pos h1_] at hR
      try rw [if_pos h2_] at hR
      subst hR
      exact pr_long C hE (po_d_rfl rfl rfl) dX5_value_92
    by_cases h3_ : wh = 1
    ·
      refine pk_tableIn (tgt := 93) C dX5_value_51 (by rw [h3_]; decide) (by rw [h3_]; decide) (by rw [h3_]; first | done | rfl) (by decide) ?_
      refine pk_aload_n C 0 dX5_value_93 rfl rfl (pc2 := 94) rfl ?_
      refine pk_get (v := .long (M_al n1_)) C i5_ (pw_atX 0 rfl) (ci := 5) rfl 18 (by decide) w2_ rfl rfl dX5_value_94 (pc2 := 97) rfl ?_
      subst en1_ en2_ en3_
      unfold m_X5_value_1 at hR
      try rw [if_pos h1_] at hR
      try rw [if_neg h2_] at hR
      try rw [if_pos h3_] at hR
      subst hR
      exact pr_long C hE (po_d_rfl rfl rfl) dX5_value_97
    by_cases h4_ : wh = 2
    ·
      refine pk_tableIn (tgt := 98) C dX5_value_51 (by rw [h4_]; decide) (by rw [h4_]; decide) (by rw [h4_]; first | done | rfl) (by decide) ?_
      refine pk_aload_n C 0 dX5_value_98 rfl rfl (pc2 := 99) rfl ?_
      refine pk_dV (cx := (mX (zG Z) m rf n1_ n2_)) (wr := []) (X2 := (mX (zG Z) m rf n1_ n2_)) (st := []) (st2 := [.long (m_X5_book n1_ n2_)]) (As := []) C (c_X5_book (zl Z) (zG Z) L F m rf n1_ n2_) gX5_value_X5_book rfl rfl rfl 0 (by decide +kernel) ⟨Nat.le_of_ble_eq_true rfl, Nat.le_of_ble_eq_true rfl⟩ (pw_atX 0 rfl) rfl rfl rfl (Nat.le_of_ble_eq_true rfl) ⟨Nat.le_of_ble_eq_true rfl, Nat.le_of_ble_eq_true rfl⟩ [0, 1, 2, 3, 4, 5, 6, 7, 8, 9, 10, 11, 12, 13, 14, 15] [] [0, 1, 2, 3, 4, 5, 6, 7, 8, 9, 10, 11, 12, 13, 14, 15] rfl rfl rfl rfl (by decide) rfl rfl dX5_value_99 (pc2 := 102) rfl rfl ?_
      refine pk_topl (fun n4_ en4_ => ?_)
      subst en1_ en2_ en3_ en4_
      unfold m_X5_value_1 at hR
      try rw [if_pos h1_] at hR
      try rw [if_neg h2_] at hR
      try rw [if_neg h3_] at hR
      try rw [if_pos h4_] at hR
      subst hR
      exact pr_long C hE (po_d_rfl rfl rfl) dX5_value_102
    by_cases h5_ : wh = 3
    ·
      refine pk_tableIn (tgt := 103) C dX5_value_51 (by rw [h5_]; decide) (by rw [h5_]; decide) (by rw [h5_]; first | done | rfl) (by decide) ?_
      refine pk_aload_n C 0 dX5_value_103 rfl rfl (pc2 := 104) rfl ?_
      refine pk_get (v := .long (M_re n1_)) C i5_ (pw_atX 0 rfl) (ci := 5) rfl 19 (by decide) w3_ rfl rfl dX5_value_104 (pc2 := 107) rfl ?_
      subst en1_ en2_ en3_
      unfold m_X5_value_1 at hR
      try rw [if_pos h1_] at hR
      try rw [if_neg h2_] at hR
      try rw [if_neg h3_] at hR
      try rw [if_neg h4_] at hR
      try rw [if_pos h5_] at hR
      subst hR
      exact pr_long C hE (po_d_rfl rfl rfl) dX5_value_107
    by_cases h6_ : wh = 4
    ·
      refine pk_tableIn (tgt := 108) C dX5_value_51 (by rw [h6_]; decide) (by rw [h6_]; decide) (by rw [h6_]; first | done | rfl) (by decide) ?_
      refine pk_aload_n C 0 dX5_value_108 rfl rfl (pc2 := 109) rfl ?_
      refine pk_get (v := .long (M_lo n1_)) C i5_ (pw_atX 0 rfl) (ci := 5) rfl 20 (by decide) w4_ rfl rfl dX5_value_109 (pc2 := 112) rfl ?_
      subst en1_ en2_ en3_
      unfold m_X5_value_1 at hR
      try rw [if_pos h1_] at hR
      try rw [if_neg h2_] at hR
      try rw [if_neg h3_] at hR
      try rw [if_neg h4_] at hR
      try rw [if_neg h5_] at hR
      try rw [if_pos h6_] at hR
      subst hR
      exact pr_long C hE (po_d_rfl rfl rfl) dX5_value_112
    by_cases h7_ : wh = 5
    ·
      refine pk_tableIn (tgt := 113) C dX5_value_51 (by rw [h7_]; decide) (by rw [h7_]; decide) (by rw [h7_]; first | done | rfl) (by decide) ?_
      refine pk_aload_n C 0 dX5_value_113 rfl rfl (pc2 := 114) rfl ?_
      refine pk_get (v := .long (M_rs n1_)) C i5_ (pw_atX 0 rfl) (ci := 5) rfl 21 (by decide) w5_ rfl rfl dX5_value_114 (pc2 := 117) rfl ?_
      subst en1_ en2_ en3_
      unfold m_X5_value_1 at hR
      try rw [if_pos h1_] at hR
      try rw [if_neg h2_] at hR
      try rw [if_neg h3_] at hR
      try rw [if_neg h4_] at hR
      try rw [if_neg h5_] at hR
      try rw [if_neg h6_] at hR
      try rw [if_pos h7_] at hR
      subst hR
      exact pr_long C hE (po_d_rfl rfl rfl) dX5_value_117
    refine pk_tableOut (tgt := 118) C dX5_value_51 (sw_5 h2_ h3_ h4_ h5_ h6_ h7_) (by decide) ?_
    refine pk_aload_n C 0 dX5_value_118 rfl rfl (pc2 := 119) rfl ?_
    refine pk_get (v := .int (M_li n1_)) C i5_ (pw_atX 0 rfl) (ci := 5) rfl 22 (by decide) w6_ rfl rfl dX5_value_119 (pc2 := 122) rfl ?_
    refine pk_i2l C dX5_value_122 (pc2 := 123) rfl ?_
    subst en1_ en2_ en3_
    unfold m_X5_value_1 at hR
    try rw [if_pos h1_] at hR
    try rw [if_neg h2_] at hR
    try rw [if_neg h3_] at hR
    try rw [if_neg h4_] at hR
    try rw [if_neg h5_] at hR
    try rw [if_neg h6_] at hR
    try rw [if_neg h7_] at hR
    subst hR
    exact pr_long C hE (po_d_rfl rfl rfl) dX5_value_123
  ·
    refine pk_lconst (v := 0) C dX5_value_41 (by decide) (pc2 := 42) rfl ?_
    unfold m_X5_value_1 at hR
    try rw [if_neg h1_] at hR
    subst hR
    exact pr_long C hE (po_d_rfl rfl rfl) dX5_value_42
set_option maxRecDepth 100000 in
set_option maxHeartbeats 2000000 in
theorem t0_X5_value {Z : pw_Z} {Q : State → Prop} {L : List Nat} {F : Nat → va_E} {m : Nat} {rf : Nat → Nat} {NP NE NM : Nat} {c : MR} {T : TR} {p : Int32} {mm : Int32} {wh : Int32} (C : pw_C Z cX5_value 4 RX5 wsX5_value ⟨6, 0, 0, 140⟩ (some .long)) {X9 : va_W} {R : Int64 × MR × TR} (hE : pw_End Z Q X9 L F (po_d (some (.long (R.1))) (mX (zG Z) m rf (R.2.1) (R.2.2)) L F) 0 0) (hri : RI c T NP NE NM) (hR : m_X5_value_0 c T p mm wh = R) : PW Z (mX (zG Z) m rf c T) L F 0 0 Q 0 [(0, .ref m), (1, .int p), (2, .int mm), (3, .int wh)] [] := by
  refine s0_X5_value C hri ?_
  exact t1_X5_value C hE hri (f0_X5_value_h hri).1 (RI_nc hri (f0_X5_value_h hri).2) hR
set_option maxRecDepth 100000 in
set_option maxHeartbeats 2000000 in
theorem c_X5_value (l : Launch) (G : pw_G) (L : List Nat) (F : Nat → va_E) (m : Nat) (rf : Nat → Nat) (NP NE NM : Nat) (c : MR) (T : TR) (p : Int32) (mm : Int32) (wh : Int32) (hri : RI c T NP NE NM) : PM l yX5_value wsX5_value ⟨6, 0, 0, 140⟩ G [.ref m, .int p, .int mm, .int wh] (mX G m rf c T) L F 0 0 (po_d (some (.long ((m_X5_value c T p mm wh).1))) (mX G m rf ((m_X5_value c T p mm wh).2.1) ((m_X5_value c T p mm wh).2.2)) L F) := by
  refine pm_entry (by decide) rfl rfl (Nat.le_of_ble_eq_true rfl) ?_
  intro Z Q C hl0 hG0 hnm hE
  subst hl0
  subst hG0
  exact t0_X5_value C hE hri rfl
def f0_X5_charge (c : MR) (T : TR) (p : Int32) (mm : Int32) : MR :=
  if (m_X5_isPart c T p) = 0 then (M_mk 1 (M_pt c) (M_mn c) (M_ev c) (M_co c) (M_al c) (M_re c) (M_lo c) (M_rs c) (M_li c) (M_he c) (M_go c) (M_sp c) (M_ba c) (M_le c) (M_lf c) (M_mo c) (M_un c) (M_ch c) (M_lc c) (M_ac c) (M_bd c)) else if (m_X5_isMonth mm) = 0 then (M_mk 1 (M_pt c) (M_mn c) (M_ev c) (M_co c) (M_al c) (M_re c) (M_lo c) (M_rs c) (M_li c) (M_he c) (M_go c) (M_sp c) (M_ba c) (M_le c) (M_lf c) (M_mo c) (M_un c) (M_ch c) (M_lc c) (M_ac c) (M_bd c)) else (M_mk 0 (M_pt c) (M_mn c) (M_ev c) (M_co c) (M_al c) (M_re c) (M_lo c) (M_rs c) (M_li c) (M_he c) (M_go c) (M_sp c) (M_ba c) (M_le c) (M_lf c) (M_mo c) (M_un c) (M_ch c) (M_lc c) (M_ac c) (M_bd c))
theorem f0_X5_charge_h {c : MR} {T : TR} {p mm : Int32} {NP NE NM : Nat} (hri : RI c T NP NE NM) : (M_cd (f0_X5_charge c T p mm) ≤ 0 → (∃ a, a < NP ∧ p = nI a) ∧ ∃ k, k < 36 ∧ mm = nI k) ∧ M_nc (f0_X5_charge c T p mm) = M_nc c := by
  have key : ∀ a d : MR, M_cd a = 1 → M_nc a = M_nc c → (M_cd a ≤ 0 → (∃ a, a < NP ∧ p = nI a) ∧ ∃ k, k < 36 ∧ mm = nI k) ∧ M_nc a = M_nc c := fun a d h1 h2 => ⟨fun h => cd_no h h1, h2⟩
  unfold f0_X5_charge
  refine zi_ite (P := fun (x : MR) => (M_cd x ≤ 0 → (∃ a, a < NP ∧ p = nI a) ∧ ∃ k, k < 36 ∧ mm = nI k) ∧ M_nc x = M_nc c) (fun _ => key _ c (M_cd_mk ..) rfl) (fun h1 => ?_)
  refine zi_ite (P := fun (x : MR) => (M_cd x ≤ 0 → (∃ a, a < NP ∧ p = nI a) ∧ ∃ k, k < 36 ∧ mm = nI k) ∧ M_nc x = M_nc c) (fun _ => key _ c (M_cd_mk ..) rfl) (fun h2 => ?_)
  exact ⟨fun _ => ⟨isPart_in hri h1, isMonth_in h2⟩, rfl⟩
set_option maxRecDepth 100000 in
set_option maxHeartbeats 2000000 in
theorem s0_X5_charge {Z : pw_Z} {Q : State → Prop} {L : List Nat} {F : Nat → va_E} {m : Nat} {rf : Nat → Nat} {NP NE NM : Nat} {c : MR} {T : TR} {p : Int32} {mm : Int32} (C : pw_C Z cX5_charge 3 RX5 wsX5_charge ⟨6, 0, 0, 140⟩ (some .long)) (hri : RI c T NP NE NM) (k : PW Z (mX (zG Z) m rf (f0_X5_charge c T p mm) T) L F 0 0 Q 24 [(0, .ref m), (1, .int p), (2, .int mm)] []) : PW Z (mX (zG Z) m rf c T) L F 0 0 Q 0 [(0, .ref m), (1, .int p), (2, .int mm)] [] := by
  have i5_ : ∀ w ∈ wsX50, w ∈ wsX5_charge := by decide +kernel
  have w0_ : Cond.fieldLink RX5 56 "AgedAssetsModel" "code" "I" ∈ wsX5_charge := by decide +kernel
  refine pk_aload_n C 0 dX5_charge_0 rfl rfl (pc2 := 1) rfl ?_
  refine pk_aload_n C 0 dX5_charge_1 rfl rfl (pc2 := 2) rfl ?_
  refine pk_iload_n C 1 dX5_charge_2 rfl rfl (pc2 := 3) rfl ?_
  refine pk_dV (cx := (mX (zG Z) m rf c T)) (wr := []) (X2 := (mX (zG Z) m rf c T)) (st := [.ref m]) (st2 := [.int (m_X5_isPart c T p), .ref m]) (As := [.int p]) C (c_X5_isPart (zl Z) (zG Z) L F m rf c T p) gX5_charge_X5_isPart rfl rfl rfl 1 (by decide +kernel) ⟨Nat.le_of_ble_eq_true rfl, Nat.le_of_ble_eq_true rfl⟩ (pw_atX 0 rfl) rfl rfl rfl (Nat.le_of_ble_eq_true rfl) ⟨Nat.le_of_ble_eq_true rfl, Nat.le_of_ble_eq_true rfl⟩ [0, 1, 2, 3, 4, 5, 6, 7, 8, 9, 10, 11, 12, 13, 14, 15] [] [0, 1, 2, 3, 4, 5, 6, 7, 8, 9, 10, 11, 12, 13, 14, 15] rfl rfl rfl rfl (by decide) rfl rfl dX5_charge_3 (pc2 := 6) rfl rfl ?_
  refine pk_topi (fun n1_ en1_ => ?_)
  refine pk_if_eq (tgt := 20) C dX5_charge_6 (by decide) (pc2 := 9) rfl (fun h1_ => ?_) (fun h1_ => ?_)
  ·
    refine pk_iconst (v := 1) C dX5_charge_20 (by decide) (pc2 := 21) rfl ?_
    refine pk_putX (X' := ((m, kM rf 1 (M_pt c) (M_mn c) (M_ev c) (M_co c) (M_al c) (M_re c) (M_lo c) (M_rs c) (M_li c) (M_he c) (M_go c) (M_sp c) (M_ba c) (M_le c) (M_lf c) (M_mo c) (M_un c) (M_ch c) (M_lc c) (M_ac c) (M_bd c)) :: mT (zG Z) rf T)) C i5_ tyX5_ok nmX5 0 rfl (ci := 5) rfl 0 (by decide) w0_ rfl rfl rfl rfl rfl (Nat.le_of_ble_eq_true rfl) rfl dX5_charge_21 (pc2 := 24) rfl ?_
    refine pw_conv (X' := (mX (zG Z) m rf (M_mk 1 (M_pt c) (M_mn c) (M_ev c) (M_co c) (M_al c) (M_re c) (M_lo c) (M_rs c) (M_li c) (M_he c) (M_go c) (M_sp c) (M_ba c) (M_le c) (M_lf c) (M_mo c) (M_un c) (M_ch c) (M_lc c) (M_ac c) (M_bd c)) T)) mX_mk ?_
    refine pw_lv [0, 1, 2] (lv' := [(0, .ref m), (1, .int p), (2, .int mm)]) rfl ?_
    subst en1_
    have k9 := k
    unfold f0_X5_charge at k9
    try rw [if_pos h1_] at k9
    exact k9
  ·
    refine pk_iload_n C 2 dX5_charge_9 rfl rfl (pc2 := 10) rfl ?_
    refine pk_dS (cx := []) (wr := (mX (zG Z) m rf c T)) (X2 := (mX (zG Z) m rf c T)) (st := [.ref m]) (st2 := [.int (m_X5_isMonth mm), .ref m]) (As := [.int mm]) C (c_X5_isMonth (zl Z) (zG Z) L F mm) gX5_charge_X5_isMonth rfl rfl rfl 1 (by decide +kernel) ⟨Nat.le_of_ble_eq_true rfl, Nat.le_of_ble_eq_true rfl⟩ rfl rfl (Nat.le_of_ble_eq_true rfl) ⟨Nat.le_of_ble_eq_true rfl, Nat.le_of_ble_eq_true rfl⟩ [] [0, 1, 2, 3, 4, 5, 6, 7, 8, 9, 10, 11, 12, 13, 14, 15] [0, 1, 2, 3, 4, 5, 6, 7, 8, 9, 10, 11, 12, 13, 14, 15] rfl rfl rfl rfl (by decide) rfl rfl dX5_charge_10 (pc2 := 13) rfl rfl ?_
    refine pk_topi (fun n2_ en2_ => ?_)
    refine pk_if_eq (tgt := 20) C dX5_charge_13 (by decide) (pc2 := 16) rfl (fun h2_ => ?_) (fun h2_ => ?_)
    ·
      refine pk_iconst (v := 1) C dX5_charge_20 (by decide) (pc2 := 21) rfl ?_
      refine pk_putX (X' := ((m, kM rf 1 (M_pt c) (M_mn c) (M_ev c) (M_co c) (M_al c) (M_re c) (M_lo c) (M_rs c) (M_li c) (M_he c) (M_go c) (M_sp c) (M_ba c) (M_le c) (M_lf c) (M_mo c) (M_un c) (M_ch c) (M_lc c) (M_ac c) (M_bd c)) :: mT (zG Z) rf T)) C i5_ tyX5_ok nmX5 0 rfl (ci := 5) rfl 0 (by decide) w0_ rfl rfl rfl rfl rfl (Nat.le_of_ble_eq_true rfl) rfl dX5_charge_21 (pc2 := 24) rfl ?_
      refine pw_conv (X' := (mX (zG Z) m rf (M_mk 1 (M_pt c) (M_mn c) (M_ev c) (M_co c) (M_al c) (M_re c) (M_lo c) (M_rs c) (M_li c) (M_he c) (M_go c) (M_sp c) (M_ba c) (M_le c) (M_lf c) (M_mo c) (M_un c) (M_ch c) (M_lc c) (M_ac c) (M_bd c)) T)) mX_mk ?_
      refine pw_lv [0, 1, 2] (lv' := [(0, .ref m), (1, .int p), (2, .int mm)]) rfl ?_
      subst en1_ en2_
      have k9 := k
      unfold f0_X5_charge at k9
      try rw [if_neg h1_] at k9
      try rw [if_pos h2_] at k9
      exact k9
    ·
      refine pk_iconst (v := 0) C dX5_charge_16 (by decide) (pc2 := 17) rfl ?_
      refine pk_goto (tgt := 21) C dX5_charge_17 (by decide) ?_
      refine pk_putX (X' := ((m, kM rf 0 (M_pt c) (M_mn c) (M_ev c) (M_co c) (M_al c) (M_re c) (M_lo c) (M_rs c) (M_li c) (M_he c) (M_go c) (M_sp c) (M_ba c) (M_le c) (M_lf c) (M_mo c) (M_un c) (M_ch c) (M_lc c) (M_ac c) (M_bd c)) :: mT (zG Z) rf T)) C i5_ tyX5_ok nmX5 0 rfl (ci := 5) rfl 0 (by decide) w0_ rfl rfl rfl rfl rfl (Nat.le_of_ble_eq_true rfl) rfl dX5_charge_21 (pc2 := 24) rfl ?_
      refine pw_conv (X' := (mX (zG Z) m rf (M_mk 0 (M_pt c) (M_mn c) (M_ev c) (M_co c) (M_al c) (M_re c) (M_lo c) (M_rs c) (M_li c) (M_he c) (M_go c) (M_sp c) (M_ba c) (M_le c) (M_lf c) (M_mo c) (M_un c) (M_ch c) (M_lc c) (M_ac c) (M_bd c)) T)) mX_mk ?_
      refine pw_lv [0, 1, 2] (lv' := [(0, .ref m), (1, .int p), (2, .int mm)]) rfl ?_
      subst en1_ en2_
      have k9 := k
      unfold f0_X5_charge at k9
      try rw [if_neg h1_] at k9
      try rw [if_neg h2_] at k9
      exact k9
def m_X5_charge_1 (c : MR) (T : TR) (p : Int32) (mm : Int32) (c1 : MR) : Int64 × MR × TR :=
  if (M_cd c1) ≤ 0 then ((M_lc ((m_X5_reckon c1 T p mm).2.1)), ((m_X5_reckon c1 T p mm).2.1), ((m_X5_reckon c1 T p mm).2.2)) else (0, c1, T)
def m_X5_charge_0 (c : MR) (T : TR) (p : Int32) (mm : Int32) : Int64 × MR × TR := m_X5_charge_1 c T p mm (f0_X5_charge c T p mm)
def m_X5_charge (c : MR) (T : TR) (p : Int32) (mm : Int32) : Int64 × MR × TR := m_X5_charge_0 c T p mm
set_option maxRecDepth 100000 in
set_option maxHeartbeats 2000000 in
theorem t1_X5_charge {Z : pw_Z} {Q : State → Prop} {L : List Nat} {F : Nat → va_E} {m : Nat} {rf : Nat → Nat} {NP NE NM : Nat} {c : MR} {T : TR} {p : Int32} {mm : Int32} {c1 : MR} (C : pw_C Z cX5_charge 3 RX5 wsX5_charge ⟨6, 0, 0, 140⟩ (some .long)) {X9 : va_W} {R : Int64 × MR × TR} (hE : pw_End Z Q X9 L F (po_d (some (.long (R.1))) (mX (zG Z) m rf (R.2.1) (R.2.2)) L F) 0 0) (hri : RI c T NP NE NM) (hcd : M_cd c1 ≤ 0 → (∃ a, a < NP ∧ p = nI a) ∧ ∃ k, k < 36 ∧ mm = nI k) (hri1 : RI c1 T NP NE NM) (hR : m_X5_charge_1 c T p mm c1 = R) : PW Z (mX (zG Z) m rf c1 T) L F 0 0 Q 24 [(0, .ref m), (1, .int p), (2, .int mm)] [] := by
  have i5_ : ∀ w ∈ wsX50, w ∈ wsX5_charge := by decide +kernel
  have w0_ : Cond.fieldLink RX5 56 "AgedAssetsModel" "code" "I" ∈ wsX5_charge := by decide +kernel
  have w1_ : Cond.fieldLink RX5 152 "AgedAssetsModel" "last" "J" ∈ wsX5_charge := by decide +kernel
  refine pk_aload_n C 0 dX5_charge_24 rfl rfl (pc2 := 25) rfl ?_
  refine pk_get (v := .int (M_cd c1)) C i5_ (pw_atX 0 rfl) (ci := 5) rfl 0 (by decide) w0_ rfl rfl dX5_charge_25 (pc2 := 28) rfl ?_
  refine pk_if_le (tgt := 33) C dX5_charge_28 (by decide) (pc2 := 31) rfl (fun h1_ => ?_) (fun h1_ => ?_)
  ·
    obtain ⟨⟨a_, ha_, hpa_⟩, k_, hk_, hmk_⟩ := hcd h1_
    have hgo35_ := RI_go (un := 35) hri1 ha_ hpa_ (by decide)
    have hm35 : mm.toInt ≤ 35 := by rw [hmk_, nI_toInt (by omega)]; omega
    have hgo_ := RI_go hri1 ha_ hpa_ hm35
    refine pk_aload_n C 0 dX5_charge_33 rfl rfl (pc2 := 34) rfl ?_
    refine pk_iload_n C 1 dX5_charge_34 rfl rfl (pc2 := 35) rfl ?_
    refine pk_iload_n C 2 dX5_charge_35 rfl rfl (pc2 := 36) rfl ?_
    refine pk_dV (cx := (mX (zG Z) m rf c1 T)) (wr := []) (X2 := (mX (zG Z) m rf ((m_X5_reckon c1 T p mm).2.1) ((m_X5_reckon c1 T p mm).2.2))) (st := []) (st2 := [.int ((m_X5_reckon c1 T p mm).1)]) (As := [.int p, .int mm]) C (c_X5_reckon (zl Z) (zG Z) L F m rf c1 T p mm hgo35_ hgo_) gX5_charge_X5_reckon rfl rfl rfl 2 (by decide +kernel) ⟨Nat.le_of_ble_eq_true rfl, Nat.le_of_ble_eq_true rfl⟩ (pw_atX 0 rfl) rfl rfl rfl (Nat.le_of_ble_eq_true rfl) ⟨Nat.le_of_ble_eq_true rfl, Nat.le_of_ble_eq_true rfl⟩ [0, 1, 2, 3, 4, 5, 6, 7, 8, 9, 10, 11, 12, 13, 14, 15] [] [0, 1, 2, 3, 4, 5, 6, 7, 8, 9, 10, 11, 12, 13, 14, 15] rfl rfl rfl rfl (by decide) rfl rfl dX5_charge_36 (pc2 := 39) rfl rfl ?_
    generalize en1_ : ((m_X5_reckon c1 T p mm).2.1) = n1_
    generalize en2_ : ((m_X5_reckon c1 T p mm).2.2) = n2_
    refine pk_topi (fun n3_ en3_ => ?_)
    refine pk_pop C dX5_charge_39 rfl (pc2 := 40) rfl ?_
    refine pk_aload_n C 0 dX5_charge_40 rfl rfl (pc2 := 41) rfl ?_
    refine pk_get (v := .long (M_lc n1_)) C i5_ (pw_atX 0 rfl) (ci := 5) rfl 32 (by decide) w1_ rfl rfl dX5_charge_41 (pc2 := 44) rfl ?_
    subst en1_ en2_ en3_
    unfold m_X5_charge_1 at hR
    try rw [if_pos h1_] at hR
    subst hR
    exact pr_long C hE (po_d_rfl rfl rfl) dX5_charge_44
  ·
    refine pk_lconst (v := 0) C dX5_charge_31 (by decide) (pc2 := 32) rfl ?_
    unfold m_X5_charge_1 at hR
    try rw [if_neg h1_] at hR
    subst hR
    exact pr_long C hE (po_d_rfl rfl rfl) dX5_charge_32
set_option maxRecDepth 100000 in
set_option maxHeartbeats 2000000 in
theorem t0_X5_charge {Z : pw_Z} {Q : State → Prop} {L : List Nat} {F : Nat → va_E} {m : Nat} {rf : Nat → Nat} {NP NE NM : Nat} {c : MR} {T : TR} {p : Int32} {mm : Int32} (C : pw_C Z cX5_charge 3 RX5 wsX5_charge ⟨6, 0, 0, 140⟩ (some .long)) {X9 : va_W} {R : Int64 × MR × TR} (hE : pw_End Z Q X9 L F (po_d (some (.long (R.1))) (mX (zG Z) m rf (R.2.1) (R.2.2)) L F) 0 0) (hri : RI c T NP NE NM) (hR : m_X5_charge_0 c T p mm = R) : PW Z (mX (zG Z) m rf c T) L F 0 0 Q 0 [(0, .ref m), (1, .int p), (2, .int mm)] [] := by
  refine s0_X5_charge C hri ?_
  exact t1_X5_charge C hE hri (f0_X5_charge_h hri).1 (RI_nc hri (f0_X5_charge_h hri).2) hR
set_option maxRecDepth 100000 in
set_option maxHeartbeats 2000000 in
theorem c_X5_charge (l : Launch) (G : pw_G) (L : List Nat) (F : Nat → va_E) (m : Nat) (rf : Nat → Nat) (NP NE NM : Nat) (c : MR) (T : TR) (p : Int32) (mm : Int32) (hri : RI c T NP NE NM) : PM l yX5_charge wsX5_charge ⟨6, 0, 0, 140⟩ G [.ref m, .int p, .int mm] (mX G m rf c T) L F 0 0 (po_d (some (.long ((m_X5_charge c T p mm).1))) (mX G m rf ((m_X5_charge c T p mm).2.1) ((m_X5_charge c T p mm).2.2)) L F) := by
  refine pm_entry (by decide) rfl rfl (Nat.le_of_ble_eq_true rfl) ?_
  intro Z Q C hl0 hG0 hnm hE
  subst hl0
  subst hG0
  exact t0_X5_charge C hE hri rfl

/-- a code is set -/
theorem RI_cd {c c' : MR} {T : TR} {NP NE NM : Nat} (h : RI c T NP NE NM) (h1 : M_pt c' = M_pt c) (h2 : M_mn c' = M_mn c) (h3 : M_ev c' = M_ev c) : RI c' T NP NE NM := by
  unfold RI at h ⊢
  rw [h1, h2, h3]
  exact h
theorem RI_st {c : MR} {T T' : TR} {NP NE NM : Nat} (h : RI c T NP NE NM) (hs : T_st T' = T_st T) : RI c T' NP NE NM := by
  unfold RI at h ⊢
  rw [st_fi hs, st_li9 hs, st_ki hs, st_nu hs, st_of hs]
  exact h
/-- what of c a code leaves alone -/
def M_nc (c : MR) : Int32 × Int32 × Int32 := (M_pt c, M_mn c, M_ev c)
theorem RI_nc {c c' : MR} {T : TR} {NP NE NM : Nat} (h : RI c T NP NE NM) (hn : M_nc c' = M_nc c) : RI c' T NP NE NM := RI_cd h (congrArg (fun z => z.1) hn) (congrArg (fun z => z.2.1) hn) (congrArg (fun z => z.2.2) hn)
theorem cd_no {P : Prop} {c : MR} (h : M_cd c ≤ 0) (h1 : M_cd c = 1) : P := by rw [h1] at h; exact absurd h (by decide)
def f0_X5_units (c : MR) (T : TR) (p : Int32) (mm : Int32) (my : Int32) : MR :=
  if (m_X5_isPart c T p) = 0 then (M_mk 1 (M_pt c) (M_mn c) (M_ev c) (M_co c) (M_al c) (M_re c) (M_lo c) (M_rs c) (M_li c) (M_he c) (M_go c) (M_sp c) (M_ba c) (M_le c) (M_lf c) (M_mo c) (M_un c) (M_ch c) (M_lc c) (M_ac c) (M_bd c)) else if (m_X5_isMonth mm) = 0 then (M_mk 1 (M_pt c) (M_mn c) (M_ev c) (M_co c) (M_al c) (M_re c) (M_lo c) (M_rs c) (M_li c) (M_he c) (M_go c) (M_sp c) (M_ba c) (M_le c) (M_lf c) (M_mo c) (M_un c) (M_ch c) (M_lc c) (M_ac c) (M_bd c)) else if (m_X5_isIn (Int32.toInt64 my) 0 (1000000)) = 0 then (M_mk 1 (M_pt c) (M_mn c) (M_ev c) (M_co c) (M_al c) (M_re c) (M_lo c) (M_rs c) (M_li c) (M_he c) (M_go c) (M_sp c) (M_ba c) (M_le c) (M_lf c) (M_mo c) (M_un c) (M_ch c) (M_lc c) (M_ac c) (M_bd c)) else (M_mk 0 (M_pt c) (M_mn c) (M_ev c) (M_co c) (M_al c) (M_re c) (M_lo c) (M_rs c) (M_li c) (M_he c) (M_go c) (M_sp c) (M_ba c) (M_le c) (M_lf c) (M_mo c) (M_un c) (M_ch c) (M_lc c) (M_ac c) (M_bd c))
theorem f0_X5_units_h {c : MR} {T : TR} {p mm my : Int32} {NP NE NM : Nat} (hri : RI c T NP NE NM) : (M_cd (f0_X5_units c T p mm my) ≤ 0 → (∃ a, a < NP ∧ p = nI a) ∧ ∃ k, k < 36 ∧ mm = nI k) ∧ M_nc (f0_X5_units c T p mm my) = M_nc c := by
  have key : ∀ a d : MR, M_cd a = 1 → M_nc a = M_nc c → (M_cd a ≤ 0 → (∃ a, a < NP ∧ p = nI a) ∧ ∃ k, k < 36 ∧ mm = nI k) ∧ M_nc a = M_nc c := fun a d h1 h2 => ⟨fun h => cd_no h h1, h2⟩
  unfold f0_X5_units
  refine zi_ite (P := fun (x : MR) => (M_cd x ≤ 0 → (∃ a, a < NP ∧ p = nI a) ∧ ∃ k, k < 36 ∧ mm = nI k) ∧ M_nc x = M_nc c) (fun _ => key _ c (M_cd_mk ..) rfl) (fun h1 => ?_)
  refine zi_ite (P := fun (x : MR) => (M_cd x ≤ 0 → (∃ a, a < NP ∧ p = nI a) ∧ ∃ k, k < 36 ∧ mm = nI k) ∧ M_nc x = M_nc c) (fun _ => key _ c (M_cd_mk ..) rfl) (fun h2 => ?_)
  repeat' (first | (with_reducible refine zi_ite (P := fun (x : MR) => (M_cd x ≤ 0 → (∃ a, a < NP ∧ p = nI a) ∧ ∃ k, k < 36 ∧ mm = nI k) ∧ M_nc x = M_nc c) (fun _ => ?_) (fun _ => ?_)) | exact key _ c (M_cd_mk ..) rfl | exact ⟨fun _ => ⟨isPart_in hri h1, isMonth_in h2⟩, rfl⟩)
set_option maxRecDepth 100000 in
set_option maxHeartbeats 2000000 in
theorem s0_X5_units {Z : pw_Z} {Q : State → Prop} {L : List Nat} {F : Nat → va_E} {m : Nat} {rf : Nat → Nat} {NP NE NM : Nat} {c : MR} {T : TR} {p : Int32} {mm : Int32} {my : Int32} (C : pw_C Z cX5_units 5 RX5 wsX5_units ⟨6, 0, 0, 140⟩ (some .int)) (hri : RI c T NP NE NM) (k : PW Z (mX (zG Z) m rf (f0_X5_units c T p mm my) T) L F 0 0 Q 36 [(0, .ref m), (1, .int p), (2, .int mm), (3, .int my)] []) : PW Z (mX (zG Z) m rf c T) L F 0 0 Q 0 [(0, .ref m), (1, .int p), (2, .int mm), (3, .int my)] [] := by
  have i5_ : ∀ w ∈ wsX50, w ∈ wsX5_units := by decide +kernel
  have w0_ : Cond.fieldLink RX5 56 "AgedAssetsModel" "code" "I" ∈ wsX5_units := by decide +kernel
  have w1_ : Cond.constantLong RX5 119 (1000000) ∈ wsX5_units := by decide +kernel
  refine pk_aload_n C 0 dX5_units_0 rfl rfl (pc2 := 1) rfl ?_
  refine pk_aload_n C 0 dX5_units_1 rfl rfl (pc2 := 2) rfl ?_
  refine pk_iload_n C 1 dX5_units_2 rfl rfl (pc2 := 3) rfl ?_
  refine pk_dV (cx := (mX (zG Z) m rf c T)) (wr := []) (X2 := (mX (zG Z) m rf c T)) (st := [.ref m]) (st2 := [.int (m_X5_isPart c T p), .ref m]) (As := [.int p]) C (c_X5_isPart (zl Z) (zG Z) L F m rf c T p) gX5_units_X5_isPart rfl rfl rfl 1 (by decide +kernel) ⟨Nat.le_of_ble_eq_true rfl, Nat.le_of_ble_eq_true rfl⟩ (pw_atX 0 rfl) rfl rfl rfl (Nat.le_of_ble_eq_true rfl) ⟨Nat.le_of_ble_eq_true rfl, Nat.le_of_ble_eq_true rfl⟩ [0, 1, 2, 3, 4, 5, 6, 7, 8, 9, 10, 11, 12, 13, 14, 15] [] [0, 1, 2, 3, 4, 5, 6, 7, 8, 9, 10, 11, 12, 13, 14, 15] rfl rfl rfl rfl (by decide) rfl rfl dX5_units_3 (pc2 := 6) rfl rfl ?_
  refine pk_topi (fun n1_ en1_ => ?_)
  refine pk_if_eq (tgt := 32) C dX5_units_6 (by decide) (pc2 := 9) rfl (fun h1_ => ?_) (fun h1_ => ?_)
  ·
    refine pk_iconst (v := 1) C dX5_units_32 (by decide) (pc2 := 33) rfl ?_
    refine pk_putX (X' := ((m, kM rf 1 (M_pt c) (M_mn c) (M_ev c) (M_co c) (M_al c) (M_re c) (M_lo c) (M_rs c) (M_li c) (M_he c) (M_go c) (M_sp c) (M_ba c) (M_le c) (M_lf c) (M_mo c) (M_un c) (M_ch c) (M_lc c) (M_ac c) (M_bd c)) :: mT (zG Z) rf T)) C i5_ tyX5_ok nmX5 0 rfl (ci := 5) rfl 0 (by decide) w0_ rfl rfl rfl rfl rfl (Nat.le_of_ble_eq_true rfl) rfl dX5_units_33 (pc2 := 36) rfl ?_
    refine pw_conv (X' := (mX (zG Z) m rf (M_mk 1 (M_pt c) (M_mn c) (M_ev c) (M_co c) (M_al c) (M_re c) (M_lo c) (M_rs c) (M_li c) (M_he c) (M_go c) (M_sp c) (M_ba c) (M_le c) (M_lf c) (M_mo c) (M_un c) (M_ch c) (M_lc c) (M_ac c) (M_bd c)) T)) mX_mk ?_
    refine pw_lv [0, 1, 2, 3] (lv' := [(0, .ref m), (1, .int p), (2, .int mm), (3, .int my)]) rfl ?_
    subst en1_
    have k9 := k
    unfold f0_X5_units at k9
    try rw [if_pos h1_] at k9
    exact k9
  ·
    refine pk_iload_n C 2 dX5_units_9 rfl rfl (pc2 := 10) rfl ?_
    refine pk_dS (cx := []) (wr := (mX (zG Z) m rf c T)) (X2 := (mX (zG Z) m rf c T)) (st := [.ref m]) (st2 := [.int (m_X5_isMonth mm), .ref m]) (As := [.int mm]) C (c_X5_isMonth (zl Z) (zG Z) L F mm) gX5_units_X5_isMonth rfl rfl rfl 1 (by decide +kernel) ⟨Nat.le_of_ble_eq_true rfl, Nat.le_of_ble_eq_true rfl⟩ rfl rfl (Nat.le_of_ble_eq_true rfl) ⟨Nat.le_of_ble_eq_true rfl, Nat.le_of_ble_eq_true rfl⟩ [] [0, 1, 2, 3, 4, 5, 6, 7, 8, 9, 10, 11, 12, 13, 14, 15] [0, 1, 2, 3, 4, 5, 6, 7, 8, 9, 10, 11, 12, 13, 14, 15] rfl rfl rfl rfl (by decide) rfl rfl dX5_units_10 (pc2 := 13) rfl rfl ?_
    refine pk_topi (fun n2_ en2_ => ?_)
    refine pk_if_eq (tgt := 32) C dX5_units_13 (by decide) (pc2 := 16) rfl (fun h2_ => ?_) (fun h2_ => ?_)
    ·
      refine pk_iconst (v := 1) C dX5_units_32 (by decide) (pc2 := 33) rfl ?_
      refine pk_putX (X' := ((m, kM rf 1 (M_pt c) (M_mn c) (M_ev c) (M_co c) (M_al c) (M_re c) (M_lo c) (M_rs c) (M_li c) (M_he c) (M_go c) (M_sp c) (M_ba c) (M_le c) (M_lf c) (M_mo c) (M_un c) (M_ch c) (M_lc c) (M_ac c) (M_bd c)) :: mT (zG Z) rf T)) C i5_ tyX5_ok nmX5 0 rfl (ci := 5) rfl 0 (by decide) w0_ rfl rfl rfl rfl rfl (Nat.le_of_ble_eq_true rfl) rfl dX5_units_33 (pc2 := 36) rfl ?_
      refine pw_conv (X' := (mX (zG Z) m rf (M_mk 1 (M_pt c) (M_mn c) (M_ev c) (M_co c) (M_al c) (M_re c) (M_lo c) (M_rs c) (M_li c) (M_he c) (M_go c) (M_sp c) (M_ba c) (M_le c) (M_lf c) (M_mo c) (M_un c) (M_ch c) (M_lc c) (M_ac c) (M_bd c)) T)) mX_mk ?_
      refine pw_lv [0, 1, 2, 3] (lv' := [(0, .ref m), (1, .int p), (2, .int mm), (3, .int my)]) rfl ?_
      subst en1_ en2_
      have k9 := k
      unfold f0_X5_units at k9
      try rw [if_neg h1_] at k9
      try rw [if_pos h2_] at k9
      exact k9
    ·
      refine pk_iload_n C 3 dX5_units_16 rfl rfl (pc2 := 17) rfl ?_
      refine pk_i2l C dX5_units_17 (pc2 := 18) rfl ?_
      refine pk_lconst (v := 0) C dX5_units_18 (by decide) (pc2 := 19) rfl ?_
      refine pk_ldc2 C w1_ dX5_units_19 (pc2 := 22) rfl ?_
      refine pk_dS (cx := []) (wr := (mX (zG Z) m rf c T)) (X2 := (mX (zG Z) m rf c T)) (st := [.ref m]) (st2 := [.int (m_X5_isIn (Int32.toInt64 my) 0 (1000000)), .ref m]) (As := [.long (Int32.toInt64 my), .long 0, .long (1000000)]) C (c_X5_isIn (zl Z) (zG Z) L F (Int32.toInt64 my) 0 (1000000)) gX5_units_X5_isIn rfl rfl rfl 3 (by decide +kernel) ⟨Nat.le_of_ble_eq_true rfl, Nat.le_of_ble_eq_true rfl⟩ rfl rfl (Nat.le_of_ble_eq_true rfl) ⟨Nat.le_of_ble_eq_true rfl, Nat.le_of_ble_eq_true rfl⟩ [] [0, 1, 2, 3, 4, 5, 6, 7, 8, 9, 10, 11, 12, 13, 14, 15] [0, 1, 2, 3, 4, 5, 6, 7, 8, 9, 10, 11, 12, 13, 14, 15] rfl rfl rfl rfl (by decide) rfl rfl dX5_units_22 (pc2 := 25) rfl rfl ?_
      refine pk_topi (fun n3_ en3_ => ?_)
      refine pk_if_eq (tgt := 32) C dX5_units_25 (by decide) (pc2 := 28) rfl (fun h3_ => ?_) (fun h3_ => ?_)
      ·
        refine pk_iconst (v := 1) C dX5_units_32 (by decide) (pc2 := 33) rfl ?_
        refine pk_putX (X' := ((m, kM rf 1 (M_pt c) (M_mn c) (M_ev c) (M_co c) (M_al c) (M_re c) (M_lo c) (M_rs c) (M_li c) (M_he c) (M_go c) (M_sp c) (M_ba c) (M_le c) (M_lf c) (M_mo c) (M_un c) (M_ch c) (M_lc c) (M_ac c) (M_bd c)) :: mT (zG Z) rf T)) C i5_ tyX5_ok nmX5 0 rfl (ci := 5) rfl 0 (by decide) w0_ rfl rfl rfl rfl rfl (Nat.le_of_ble_eq_true rfl) rfl dX5_units_33 (pc2 := 36) rfl ?_
        refine pw_conv (X' := (mX (zG Z) m rf (M_mk 1 (M_pt c) (M_mn c) (M_ev c) (M_co c) (M_al c) (M_re c) (M_lo c) (M_rs c) (M_li c) (M_he c) (M_go c) (M_sp c) (M_ba c) (M_le c) (M_lf c) (M_mo c) (M_un c) (M_ch c) (M_lc c) (M_ac c) (M_bd c)) T)) mX_mk ?_
        refine pw_lv [0, 1, 2, 3] (lv' := [(0, .ref m), (1, .int p), (2, .int mm), (3, .int my)]) rfl ?_
        subst en1_ en2_ en3_
        have k9 := k
        unfold f0_X5_units at k9
        try rw [if_neg h1_] at k9
        try rw [if_neg h2_] at k9
        try rw [if_pos h3_] at k9
        exact k9
      ·
        refine pk_iconst (v := 0) C dX5_units_28 (by decide) (pc2 := 29) rfl ?_
        refine pk_goto (tgt := 33) C dX5_units_29 (by decide) ?_
        refine pk_putX (X' := ((m, kM rf 0 (M_pt c) (M_mn c) (M_ev c) (M_co c) (M_al c) (M_re c) (M_lo c) (M_rs c) (M_li c) (M_he c) (M_go c) (M_sp c) (M_ba c) (M_le c) (M_lf c) (M_mo c) (M_un c) (M_ch c) (M_lc c) (M_ac c) (M_bd c)) :: mT (zG Z) rf T)) C i5_ tyX5_ok nmX5 0 rfl (ci := 5) rfl 0 (by decide) w0_ rfl rfl rfl rfl rfl (Nat.le_of_ble_eq_true rfl) rfl dX5_units_33 (pc2 := 36) rfl ?_
        refine pw_conv (X' := (mX (zG Z) m rf (M_mk 0 (M_pt c) (M_mn c) (M_ev c) (M_co c) (M_al c) (M_re c) (M_lo c) (M_rs c) (M_li c) (M_he c) (M_go c) (M_sp c) (M_ba c) (M_le c) (M_lf c) (M_mo c) (M_un c) (M_ch c) (M_lc c) (M_ac c) (M_bd c)) T)) mX_mk ?_
        refine pw_lv [0, 1, 2, 3] (lv' := [(0, .ref m), (1, .int p), (2, .int mm), (3, .int my)]) rfl ?_
        subst en1_ en2_ en3_
        have k9 := k
        unfold f0_X5_units at k9
        try rw [if_neg h1_] at k9
        try rw [if_neg h2_] at k9
        try rw [if_neg h3_] at k9
        exact k9
def m_X5_units_1 (c : MR) (T : TR) (p : Int32) (mm : Int32) (my : Int32) (c1 : MR) : Int32 × MR × TR :=
  if (M_cd c1) ≤ 0 then if ((m_X5_reckon c1 (T_s_us T (upd (T_us T) (Int32.toNatClampNeg ((36 * p) + mm)) my)) p 35).1) = 0 then (0, (M_mk 2 (M_pt ((m_X5_reckon c1 (T_s_us T (upd (T_us T) (Int32.toNatClampNeg ((36 * p) + mm)) my)) p 35).2.1)) (M_mn ((m_X5_reckon c1 (T_s_us T (upd (T_us T) (Int32.toNatClampNeg ((36 * p) + mm)) my)) p 35).2.1)) (M_ev ((m_X5_reckon c1 (T_s_us T (upd (T_us T) (Int32.toNatClampNeg ((36 * p) + mm)) my)) p 35).2.1)) (M_co ((m_X5_reckon c1 (T_s_us T (upd (T_us T) (Int32.toNatClampNeg ((36 * p) + mm)) my)) p 35).2.1)) (M_al ((m_X5_reckon c1 (T_s_us T (upd (T_us T) (Int32.toNatClampNeg ((36 * p) + mm)) my)) p 35).2.1)) (M_re ((m_X5_reckon c1 (T_s_us T (upd (T_us T) (Int32.toNatClampNeg ((36 * p) + mm)) my)) p 35).2.1)) (M_lo ((m_X5_reckon c1 (T_s_us T (upd (T_us T) (Int32.toNatClampNeg ((36 * p) + mm)) my)) p 35).2.1)) (M_rs ((m_X5_reckon c1 (T_s_us T (upd (T_us T) (Int32.toNatClampNeg ((36 * p) + mm)) my)) p 35).2.1)) (M_li ((m_X5_reckon c1 (T_s_us T (upd (T_us T) (Int32.toNatClampNeg ((36 * p) + mm)) my)) p 35).2.1)) (M_he ((m_X5_reckon c1 (T_s_us T (upd (T_us T) (Int32.toNatClampNeg ((36 * p) + mm)) my)) p 35).2.1)) (M_go ((m_X5_reckon c1 (T_s_us T (upd (T_us T) (Int32.toNatClampNeg ((36 * p) + mm)) my)) p 35).2.1)) (M_sp ((m_X5_reckon c1 (T_s_us T (upd (T_us T) (Int32.toNatClampNeg ((36 * p) + mm)) my)) p 35).2.1)) (M_ba ((m_X5_reckon c1 (T_s_us T (upd (T_us T) (Int32.toNatClampNeg ((36 * p) + mm)) my)) p 35).2.1)) (M_le ((m_X5_reckon c1 (T_s_us T (upd (T_us T) (Int32.toNatClampNeg ((36 * p) + mm)) my)) p 35).2.1)) (M_lf ((m_X5_reckon c1 (T_s_us T (upd (T_us T) (Int32.toNatClampNeg ((36 * p) + mm)) my)) p 35).2.1)) (M_mo ((m_X5_reckon c1 (T_s_us T (upd (T_us T) (Int32.toNatClampNeg ((36 * p) + mm)) my)) p 35).2.1)) (M_un ((m_X5_reckon c1 (T_s_us T (upd (T_us T) (Int32.toNatClampNeg ((36 * p) + mm)) my)) p 35).2.1)) (M_ch ((m_X5_reckon c1 (T_s_us T (upd (T_us T) (Int32.toNatClampNeg ((36 * p) + mm)) my)) p 35).2.1)) (M_lc ((m_X5_reckon c1 (T_s_us T (upd (T_us T) (Int32.toNatClampNeg ((36 * p) + mm)) my)) p 35).2.1)) (M_ac ((m_X5_reckon c1 (T_s_us T (upd (T_us T) (Int32.toNatClampNeg ((36 * p) + mm)) my)) p 35).2.1)) (M_bd ((m_X5_reckon c1 (T_s_us T (upd (T_us T) (Int32.toNatClampNeg ((36 * p) + mm)) my)) p 35).2.1))), (T_s_us ((m_X5_reckon c1 (T_s_us T (upd (T_us T) (Int32.toNatClampNeg ((36 * p) + mm)) my)) p 35).2.2) (upd (T_us ((m_X5_reckon c1 (T_s_us T (upd (T_us T) (Int32.toNatClampNeg ((36 * p) + mm)) my)) p 35).2.2)) (Int32.toNatClampNeg ((36 * p) + mm)) ((T_us T) (Int32.toNatClampNeg ((36 * p) + mm)))))) else (((T_us T) (Int32.toNatClampNeg ((36 * p) + mm))), ((m_X5_reckon c1 (T_s_us T (upd (T_us T) (Int32.toNatClampNeg ((36 * p) + mm)) my)) p 35).2.1), ((m_X5_reckon c1 (T_s_us T (upd (T_us T) (Int32.toNatClampNeg ((36 * p) + mm)) my)) p 35).2.2)) else (0, c1, T)
def m_X5_units_0 (c : MR) (T : TR) (p : Int32) (mm : Int32) (my : Int32) : Int32 × MR × TR := m_X5_units_1 c T p mm my (f0_X5_units c T p mm my)
def m_X5_units (c : MR) (T : TR) (p : Int32) (mm : Int32) (my : Int32) : Int32 × MR × TR := m_X5_units_0 c T p mm my
set_option maxRecDepth 100000 in
set_option maxHeartbeats 2000000 in
theorem t1_X5_units {Z : pw_Z} {Q : State → Prop} {L : List Nat} {F : Nat → va_E} {m : Nat} {rf : Nat → Nat} {NP NE NM : Nat} {c : MR} {T : TR} {p : Int32} {mm : Int32} {my : Int32} {c1 : MR} (C : pw_C Z cX5_units 5 RX5 wsX5_units ⟨6, 0, 0, 140⟩ (some .int)) {X9 : va_W} {R : Int32 × MR × TR} (hE : pw_End Z Q X9 L F (po_d (some (.int (R.1))) (mX (zG Z) m rf (R.2.1) (R.2.2)) L F) 0 0) (hri : RI c T NP NE NM) (hcd : M_cd c1 ≤ 0 → (∃ a, a < NP ∧ p = nI a) ∧ ∃ k, k < 36 ∧ mm = nI k) (hri1 : RI c1 T NP NE NM) (hR : m_X5_units_1 c T p mm my c1 = R) : PW Z (mX (zG Z) m rf c1 T) L F 0 0 Q 36 [(0, .ref m), (1, .int p), (2, .int mm), (3, .int my)] [] := by
  have i5_ : ∀ w ∈ wsX50, w ∈ wsX5_units := by decide +kernel
  have w0_ : Cond.fieldLink RX5 56 "AgedAssetsModel" "code" "I" ∈ wsX5_units := by decide +kernel
  have w1_ : Cond.fieldLink RX5 29 "AgedAssetsModel" "used" "[I" ∈ wsX5_units := by decide +kernel
  refine pk_aload_n C 0 dX5_units_36 rfl rfl (pc2 := 37) rfl ?_
  refine pk_get (v := .int (M_cd c1)) C i5_ (pw_atX 0 rfl) (ci := 5) rfl 0 (by decide) w0_ rfl rfl dX5_units_37 (pc2 := 40) rfl ?_
  refine pk_if_le (tgt := 45) C dX5_units_40 (by decide) (pc2 := 43) rfl (fun h1_ => ?_) (fun h1_ => ?_)
  ·
    obtain ⟨⟨a_, ha_, hpa_⟩, k_, hk_, hmk_⟩ := hcd h1_
    have hpm : vp_in ((36 * p) + mm) 216 := ix_pm hpa_ (Nat.lt_of_lt_of_le ha_ hri.1.1) hmk_ hk_
    refine pk_aload_n C 0 dX5_units_45 rfl rfl (pc2 := 46) rfl ?_
    refine pk_get (v := .ref (rf 6)) C i5_ (pw_atX 0 rfl) (ci := 5) rfl 8 (by decide) w1_ rfl rfl dX5_units_46 (pc2 := 49) rfl ?_
    refine pk_bipush (v := 36) C dX5_units_49 (by decide) (pc2 := 51) rfl ?_
    refine pk_iload_n C 1 dX5_units_51 rfl rfl (pc2 := 52) rfl ?_
    refine pk_imul C dX5_units_52 (pc2 := 53) rfl ?_
    refine pk_iload_n C 2 dX5_units_53 rfl rfl (pc2 := 54) rfl ?_
    refine pk_iadd C dX5_units_54 (pc2 := 55) rfl ?_
    refine pk_iald (v := ((T_us T) (Int32.toNatClampNeg ((36 * p) + mm)))) C (pw_atX 7 rfl) hpm rfl dX5_units_55 (pc2 := 56) rfl ?_
    refine pk_topi (fun n1_ en1_ => ?_)
    refine pk_istore (lv' := [(4, .int n1_), (0, .ref m), (1, .int p), (2, .int mm), (3, .int my)]) C dX5_units_56 (by decide) rfl (pc2 := 58) rfl ?_
    refine pk_aload_n C 1 dX5_units_58 rfl rfl (pc2 := 59) rfl ?_
    refine pk_get (v := .ref (rf 6)) C i5_ (pw_atX 0 rfl) (ci := 5) rfl 8 (by decide) w1_ rfl rfl dX5_units_59 (pc2 := 62) rfl ?_
    refine pk_bipush (v := 36) C dX5_units_62 (by decide) (pc2 := 64) rfl ?_
    refine pk_iload_n C 2 dX5_units_64 rfl rfl (pc2 := 65) rfl ?_
    refine pk_imul C dX5_units_65 (pc2 := 66) rfl ?_
    refine pk_iload_n C 3 dX5_units_66 rfl rfl (pc2 := 67) rfl ?_
    refine pk_iadd C dX5_units_67 (pc2 := 68) rfl ?_
    refine pk_iload_n C 4 dX5_units_68 rfl rfl (pc2 := 69) rfl ?_
    refine pk_iastX (X' := (mX (zG Z) m rf c1 (T_s_us T (upd (T_us T) (Int32.toNatClampNeg ((36 * p) + mm)) my)))) C 7 rfl hpm mT_s_us dX5_units_69 (pc2 := 70) rfl ?_
    generalize en2_ : (T_s_us T (upd (T_us T) (Int32.toNatClampNeg ((36 * p) + mm)) my)) = n2_
    refine pk_aload_n C 1 dX5_units_70 rfl rfl (pc2 := 71) rfl ?_
    refine pk_iload_n C 2 dX5_units_71 rfl rfl (pc2 := 72) rfl ?_
    refine pk_bipush (v := 35) C dX5_units_72 (by decide) (pc2 := 74) rfl ?_
    have hgo_ : GO (M_ev c1) n2_ p 35 := by subst en1_ en2_; exact GO_4 (by simp only [T_fi_s_us]) (by simp only [T_li_s_us]) (by simp only [T_ki_s_us]) (by simp only [T_nu_s_us]) (RI_go hri1 ha_ hpa_ (by decide))
    refine pk_dV (cx := (mX (zG Z) m rf c1 n2_)) (wr := []) (X2 := (mX (zG Z) m rf ((m_X5_reckon c1 n2_ p 35).2.1) ((m_X5_reckon c1 n2_ p 35).2.2))) (st := []) (st2 := [.int ((m_X5_reckon c1 n2_ p 35).1)]) (As := [.int p, .int 35]) C (c_X5_reckon (zl Z) (zG Z) L F m rf c1 n2_ p 35 hgo_ hgo_) gX5_units_X5_reckon rfl rfl rfl 2 (by decide +kernel) ⟨Nat.le_of_ble_eq_true rfl, Nat.le_of_ble_eq_true rfl⟩ (pw_atX 0 rfl) rfl rfl rfl (Nat.le_of_ble_eq_true rfl) ⟨Nat.le_of_ble_eq_true rfl, Nat.le_of_ble_eq_true rfl⟩ [0, 1, 2, 3, 4, 5, 6, 7, 8, 9, 10, 11, 12, 13, 14, 15] [] [0, 1, 2, 3, 4, 5, 6, 7, 8, 9, 10, 11, 12, 13, 14, 15] rfl rfl rfl rfl (by decide) rfl rfl dX5_units_74 (pc2 := 77) rfl rfl ?_
    generalize en3_ : ((m_X5_reckon c1 n2_ p 35).2.1) = n3_
    generalize en4_ : ((m_X5_reckon c1 n2_ p 35).2.2) = n4_
    refine pk_topi (fun n5_ en5_ => ?_)
    refine pk_if_ne (tgt := 100) C dX5_units_77 (by decide) (pc2 := 80) rfl (fun h2_ => ?_) (fun h2_ => ?_)
    ·
      refine pk_iload C 0 dX5_units_100 rfl (pc2 := 102) rfl ?_
      subst en1_ en2_ en3_ en4_ en5_
      unfold m_X5_units_1 at hR
      try rw [if_pos h1_] at hR
      try rw [if_neg h2_] at hR
      subst hR
      exact pr_int (ty := .int) C hE rfl rfl (po_d_rfl rfl rfl) dX5_units_102
    ·
      refine pk_aload_n C 1 dX5_units_80 rfl rfl (pc2 := 81) rfl ?_
      refine pk_get (v := .ref (rf 6)) C i5_ (pw_atX 0 rfl) (ci := 5) rfl 8 (by decide) w1_ rfl rfl dX5_units_81 (pc2 := 84) rfl ?_
      refine pk_bipush (v := 36) C dX5_units_84 (by decide) (pc2 := 86) rfl ?_
      refine pk_iload_n C 2 dX5_units_86 rfl rfl (pc2 := 87) rfl ?_
      refine pk_imul C dX5_units_87 (pc2 := 88) rfl ?_
      refine pk_iload_n C 3 dX5_units_88 rfl rfl (pc2 := 89) rfl ?_
      refine pk_iadd C dX5_units_89 (pc2 := 90) rfl ?_
      refine pk_iload C 0 dX5_units_90 rfl (pc2 := 92) rfl ?_
      refine pk_iastX (X' := (mX (zG Z) m rf n3_ (T_s_us n4_ (upd (T_us n4_) (Int32.toNatClampNeg ((36 * p) + mm)) n1_)))) C 7 rfl hpm mT_s_us dX5_units_92 (pc2 := 93) rfl ?_
      generalize en6_ : (T_s_us n4_ (upd (T_us n4_) (Int32.toNatClampNeg ((36 * p) + mm)) n1_)) = n6_
      refine pk_aload_n C 1 dX5_units_93 rfl rfl (pc2 := 94) rfl ?_
      refine pk_iconst (v := 2) C dX5_units_94 (by decide) (pc2 := 95) rfl ?_
      refine pk_putX (X' := ((m, kM rf 2 (M_pt n3_) (M_mn n3_) (M_ev n3_) (M_co n3_) (M_al n3_) (M_re n3_) (M_lo n3_) (M_rs n3_) (M_li n3_) (M_he n3_) (M_go n3_) (M_sp n3_) (M_ba n3_) (M_le n3_) (M_lf n3_) (M_mo n3_) (M_un n3_) (M_ch n3_) (M_lc n3_) (M_ac n3_) (M_bd n3_)) :: mT (zG Z) rf n6_)) C i5_ tyX5_ok nmX5 0 rfl (ci := 5) rfl 0 (by decide) w0_ rfl rfl rfl rfl rfl (Nat.le_of_ble_eq_true rfl) rfl dX5_units_95 (pc2 := 98) rfl ?_
      refine pk_iconst (v := 0) C dX5_units_98 (by decide) (pc2 := 99) rfl ?_
      refine pw_conv (X' := (mX (zG Z) m rf (M_mk 2 (M_pt n3_) (M_mn n3_) (M_ev n3_) (M_co n3_) (M_al n3_) (M_re n3_) (M_lo n3_) (M_rs n3_) (M_li n3_) (M_he n3_) (M_go n3_) (M_sp n3_) (M_ba n3_) (M_le n3_) (M_lf n3_) (M_mo n3_) (M_un n3_) (M_ch n3_) (M_lc n3_) (M_ac n3_) (M_bd n3_)) n6_)) mX_mk ?_
      subst en1_ en2_ en3_ en4_ en5_ en6_
      unfold m_X5_units_1 at hR
      try rw [if_pos h1_] at hR
      try rw [if_pos h2_] at hR
      subst hR
      exact pr_int (ty := .int) C hE rfl rfl (po_d_rfl rfl rfl) dX5_units_99
  ·
    refine pk_iconst (v := 0) C dX5_units_43 (by decide) (pc2 := 44) rfl ?_
    unfold m_X5_units_1 at hR
    try rw [if_neg h1_] at hR
    subst hR
    exact pr_int (ty := .int) C hE rfl rfl (po_d_rfl rfl rfl) dX5_units_44
set_option maxRecDepth 100000 in
set_option maxHeartbeats 2000000 in
theorem t0_X5_units {Z : pw_Z} {Q : State → Prop} {L : List Nat} {F : Nat → va_E} {m : Nat} {rf : Nat → Nat} {NP NE NM : Nat} {c : MR} {T : TR} {p : Int32} {mm : Int32} {my : Int32} (C : pw_C Z cX5_units 5 RX5 wsX5_units ⟨6, 0, 0, 140⟩ (some .int)) {X9 : va_W} {R : Int32 × MR × TR} (hE : pw_End Z Q X9 L F (po_d (some (.int (R.1))) (mX (zG Z) m rf (R.2.1) (R.2.2)) L F) 0 0) (hri : RI c T NP NE NM) (hR : m_X5_units_0 c T p mm my = R) : PW Z (mX (zG Z) m rf c T) L F 0 0 Q 0 [(0, .ref m), (1, .int p), (2, .int mm), (3, .int my)] [] := by
  refine s0_X5_units C hri ?_
  exact t1_X5_units C hE hri (f0_X5_units_h hri).1 (RI_nc hri (f0_X5_units_h hri).2) hR
set_option maxRecDepth 100000 in
set_option maxHeartbeats 2000000 in
theorem c_X5_units (l : Launch) (G : pw_G) (L : List Nat) (F : Nat → va_E) (m : Nat) (rf : Nat → Nat) (NP NE NM : Nat) (c : MR) (T : TR) (p : Int32) (mm : Int32) (my : Int32) (hri : RI c T NP NE NM) : PM l yX5_units wsX5_units ⟨6, 0, 0, 140⟩ G [.ref m, .int p, .int mm, .int my] (mX G m rf c T) L F 0 0 (po_d (some (.int ((m_X5_units c T p mm my).1))) (mX G m rf ((m_X5_units c T p mm my).2.1) ((m_X5_units c T p mm my).2.2)) L F) := by
  refine pm_entry (by decide) rfl rfl (Nat.le_of_ble_eq_true rfl) ?_
  intro Z Q C hl0 hG0 hnm hE
  subst hl0
  subst hG0
  exact t0_X5_units C hE hri rfl

def f0_X5_event (c : MR) (T : TR) (p : Int32) (mm : Int32) (ki : Int32) (v : Int64) (n : Int32) : Int32 :=
  if (m_X5_isPart c T p) = 0 then 0 else if (m_X5_isMonth mm) = 0 then 0 else if mm < ((T_fi T) (Int32.toNatClampNeg p)) then 0 else if (m_X5_isIn (Int32.toInt64 ki) 0 (7)) = 0 then 0 else 1
theorem f0_X5_event_h {c : MR} {T : TR} {p mm ki : Int32} {v : Int64} {n : Int32} {NP NE NM : Nat} (hri : RI c T NP NE NM) (h : ¬ f0_X5_event c T p mm ki v n = 0) : ∃ a, a < NP ∧ p = nI a := by
  unfold f0_X5_event at h
  by_cases h1 : (m_X5_isPart c T p) = 0
  · rw [if_pos h1] at h; exact absurd rfl h
  · exact isPart_in hri h1
set_option maxRecDepth 100000 in
set_option maxHeartbeats 2000000 in
theorem s0_X5_event {Z : pw_Z} {Q : State → Prop} {L : List Nat} {F : Nat → va_E} {m : Nat} {rf : Nat → Nat} {NP NE NM : Nat} {c : MR} {T : TR} {p : Int32} {mm : Int32} {ki : Int32} {v : Int64} {n : Int32} (C : pw_C Z cX5_event 8 RX5 wsX5_event ⟨6, 0, 0, 140⟩ (some .int)) (hri : RI c T NP NE NM) (k : PW Z (mX (zG Z) m rf c T) L F 0 0 Q 44 [(0, .ref m), (1, .int p), (2, .int mm), (3, .int ki), (4, .long v), (6, .int n), (7, .int (f0_X5_event c T p mm ki v n))] []) : PW Z (mX (zG Z) m rf c T) L F 0 0 Q 0 [(0, .ref m), (1, .int p), (2, .int mm), (3, .int ki), (4, .long v), (6, .int n)] [] := by
  have i5_ : ∀ w ∈ wsX50, w ∈ wsX5_event := by decide +kernel
  have w0_ : Cond.fieldLink RX5 16 "AgedAssetsModel" "firsts" "[I" ∈ wsX5_event := by decide +kernel
  have w1_ : Cond.constantLong RX5 208 (7) ∈ wsX5_event := by decide +kernel
  refine pk_aload_n C 0 dX5_event_0 rfl rfl (pc2 := 1) rfl ?_
  refine pk_iload_n C 1 dX5_event_1 rfl rfl (pc2 := 2) rfl ?_
  refine pk_dV (cx := (mX (zG Z) m rf c T)) (wr := []) (X2 := (mX (zG Z) m rf c T)) (st := []) (st2 := [.int (m_X5_isPart c T p)]) (As := [.int p]) C (c_X5_isPart (zl Z) (zG Z) L F m rf c T p) gX5_event_X5_isPart rfl rfl rfl 1 (by decide +kernel) ⟨Nat.le_of_ble_eq_true rfl, Nat.le_of_ble_eq_true rfl⟩ (pw_atX 0 rfl) rfl rfl rfl (Nat.le_of_ble_eq_true rfl) ⟨Nat.le_of_ble_eq_true rfl, Nat.le_of_ble_eq_true rfl⟩ [0, 1, 2, 3, 4, 5, 6, 7, 8, 9, 10, 11, 12, 13, 14, 15] [] [0, 1, 2, 3, 4, 5, 6, 7, 8, 9, 10, 11, 12, 13, 14, 15] rfl rfl rfl rfl (by decide) rfl rfl dX5_event_2 (pc2 := 5) rfl rfl ?_
  refine pk_topi (fun n1_ en1_ => ?_)
  refine pk_if_eq (tgt := 41) C dX5_event_5 (by decide) (pc2 := 8) rfl (fun h1_ => ?_) (fun h1_ => ?_)
  ·
    refine pk_iconst (v := 0) C dX5_event_41 (by decide) (pc2 := 42) rfl ?_
    refine pk_istore (lv' := [(7, .int 0), (0, .ref m), (1, .int p), (2, .int mm), (3, .int ki), (4, .long v), (6, .int n)]) C dX5_event_42 (by decide) rfl (pc2 := 44) rfl ?_
    refine pw_lv [1, 2, 3, 4, 5, 6, 0] (lv' := [(0, .ref m), (1, .int p), (2, .int mm), (3, .int ki), (4, .long v), (6, .int n), (7, .int 0)]) rfl ?_
    subst en1_
    have k9 := k
    unfold f0_X5_event at k9
    try rw [if_pos h1_] at k9
    exact k9
  ·
    refine pk_iload_n C 2 dX5_event_8 rfl rfl (pc2 := 9) rfl ?_
    refine pk_dS (cx := []) (wr := (mX (zG Z) m rf c T)) (X2 := (mX (zG Z) m rf c T)) (st := []) (st2 := [.int (m_X5_isMonth mm)]) (As := [.int mm]) C (c_X5_isMonth (zl Z) (zG Z) L F mm) gX5_event_X5_isMonth rfl rfl rfl 1 (by decide +kernel) ⟨Nat.le_of_ble_eq_true rfl, Nat.le_of_ble_eq_true rfl⟩ rfl rfl (Nat.le_of_ble_eq_true rfl) ⟨Nat.le_of_ble_eq_true rfl, Nat.le_of_ble_eq_true rfl⟩ [] [0, 1, 2, 3, 4, 5, 6, 7, 8, 9, 10, 11, 12, 13, 14, 15] [0, 1, 2, 3, 4, 5, 6, 7, 8, 9, 10, 11, 12, 13, 14, 15] rfl rfl rfl rfl (by decide) rfl rfl dX5_event_9 (pc2 := 12) rfl rfl ?_
    refine pk_topi (fun n2_ en2_ => ?_)
    refine pk_if_eq (tgt := 41) C dX5_event_12 (by decide) (pc2 := 15) rfl (fun h2_ => ?_) (fun h2_ => ?_)
    ·
      refine pk_iconst (v := 0) C dX5_event_41 (by decide) (pc2 := 42) rfl ?_
      refine pk_istore (lv' := [(7, .int 0), (0, .ref m), (1, .int p), (2, .int mm), (3, .int ki), (4, .long v), (6, .int n)]) C dX5_event_42 (by decide) rfl (pc2 := 44) rfl ?_
      refine pw_lv [1, 2, 3, 4, 5, 6, 0] (lv' := [(0, .ref m), (1, .int p), (2, .int mm), (3, .int ki), (4, .long v), (6, .int n), (7, .int 0)]) rfl ?_
      subst en1_ en2_
      have k9 := k
      unfold f0_X5_event at k9
      try rw [if_neg h1_] at k9
      try rw [if_pos h2_] at k9
      exact k9
    ·
      have hp6 : vp_in p 6 := by (obtain ⟨a_, ha_, hpa_⟩ := isPart_in hri (by rw [← en1_]; exact h1_); rw [hpa_]; exact vp_in_nI (Nat.lt_of_lt_of_le ha_ hri.1.1) (by decide))
      refine pk_iload_n C 2 dX5_event_15 rfl rfl (pc2 := 16) rfl ?_
      refine pk_aload_n C 0 dX5_event_16 rfl rfl (pc2 := 17) rfl ?_
      refine pk_get (v := .ref (rf 2)) C i5_ (pw_atX 0 rfl) (ci := 5) rfl 4 (by decide) w0_ rfl rfl dX5_event_17 (pc2 := 20) rfl ?_
      refine pk_iload_n C 1 dX5_event_20 rfl rfl (pc2 := 21) rfl ?_
      refine pk_iald (v := ((T_fi T) (Int32.toNatClampNeg p))) C (pw_atX 3 rfl) hp6 rfl dX5_event_21 (pc2 := 22) rfl ?_
      refine pk_icmp_lt (tgt := 41) C dX5_event_22 (by decide) (pc2 := 25) rfl (fun h3_ => ?_) (fun h3_ => ?_)
      ·
        refine pk_iconst (v := 0) C dX5_event_41 (by decide) (pc2 := 42) rfl ?_
        refine pk_istore (lv' := [(7, .int 0), (0, .ref m), (1, .int p), (2, .int mm), (3, .int ki), (4, .long v), (6, .int n)]) C dX5_event_42 (by decide) rfl (pc2 := 44) rfl ?_
        refine pw_lv [1, 2, 3, 4, 5, 6, 0] (lv' := [(0, .ref m), (1, .int p), (2, .int mm), (3, .int ki), (4, .long v), (6, .int n), (7, .int 0)]) rfl ?_
        subst en1_ en2_
        have k9 := k
        unfold f0_X5_event at k9
        try rw [if_neg h1_] at k9
        try rw [if_neg h2_] at k9
        try rw [if_pos h3_] at k9
        exact k9
      ·
        refine pk_iload_n C 3 dX5_event_25 rfl rfl (pc2 := 26) rfl ?_
        refine pk_i2l C dX5_event_26 (pc2 := 27) rfl ?_
        refine pk_lconst (v := 0) C dX5_event_27 (by decide) (pc2 := 28) rfl ?_
        refine pk_ldc2 C w1_ dX5_event_28 (pc2 := 31) rfl ?_
        refine pk_dS (cx := []) (wr := (mX (zG Z) m rf c T)) (X2 := (mX (zG Z) m rf c T)) (st := []) (st2 := [.int (m_X5_isIn (Int32.toInt64 ki) 0 (7))]) (As := [.long (Int32.toInt64 ki), .long 0, .long (7)]) C (c_X5_isIn (zl Z) (zG Z) L F (Int32.toInt64 ki) 0 (7)) gX5_event_X5_isIn rfl rfl rfl 3 (by decide +kernel) ⟨Nat.le_of_ble_eq_true rfl, Nat.le_of_ble_eq_true rfl⟩ rfl rfl (Nat.le_of_ble_eq_true rfl) ⟨Nat.le_of_ble_eq_true rfl, Nat.le_of_ble_eq_true rfl⟩ [] [0, 1, 2, 3, 4, 5, 6, 7, 8, 9, 10, 11, 12, 13, 14, 15] [0, 1, 2, 3, 4, 5, 6, 7, 8, 9, 10, 11, 12, 13, 14, 15] rfl rfl rfl rfl (by decide) rfl rfl dX5_event_31 (pc2 := 34) rfl rfl ?_
        refine pk_topi (fun n3_ en3_ => ?_)
        refine pk_if_eq (tgt := 41) C dX5_event_34 (by decide) (pc2 := 37) rfl (fun h4_ => ?_) (fun h4_ => ?_)
        ·
          refine pk_iconst (v := 0) C dX5_event_41 (by decide) (pc2 := 42) rfl ?_
          refine pk_istore (lv' := [(7, .int 0), (0, .ref m), (1, .int p), (2, .int mm), (3, .int ki), (4, .long v), (6, .int n)]) C dX5_event_42 (by decide) rfl (pc2 := 44) rfl ?_
          refine pw_lv [1, 2, 3, 4, 5, 6, 0] (lv' := [(0, .ref m), (1, .int p), (2, .int mm), (3, .int ki), (4, .long v), (6, .int n), (7, .int 0)]) rfl ?_
          subst en1_ en2_ en3_
          have k9 := k
          unfold f0_X5_event at k9
          try rw [if_neg h1_] at k9
          try rw [if_neg h2_] at k9
          try rw [if_neg h3_] at k9
          try rw [if_pos h4_] at k9
          exact k9
        ·
          refine pk_iconst (v := 1) C dX5_event_37 (by decide) (pc2 := 38) rfl ?_
          refine pk_goto (tgt := 42) C dX5_event_38 (by decide) ?_
          refine pk_istore (lv' := [(7, .int 1), (0, .ref m), (1, .int p), (2, .int mm), (3, .int ki), (4, .long v), (6, .int n)]) C dX5_event_42 (by decide) rfl (pc2 := 44) rfl ?_
          refine pw_lv [1, 2, 3, 4, 5, 6, 0] (lv' := [(0, .ref m), (1, .int p), (2, .int mm), (3, .int ki), (4, .long v), (6, .int n), (7, .int 1)]) rfl ?_
          subst en1_ en2_ en3_
          have k9 := k
          unfold f0_X5_event at k9
          try rw [if_neg h1_] at k9
          try rw [if_neg h2_] at k9
          try rw [if_neg h3_] at k9
          try rw [if_neg h4_] at k9
          exact k9
def f1_X5_event (c : MR) (T : TR) (p : Int32) (mm : Int32) (ki : Int32) (v : Int64) (n : Int32) (gd : Int32) : Int32 :=
  if gd = 0 then 0 else if ki ≤ 4 then if ki = 0 then if (m_X5_isIn v 1 (1000000000)) = 0 then 0 else 1 else if (m_X5_isIn v 0 (1000000000)) = 0 then 0 else 1 else if v = 0 then 1 else 0
theorem f1_X5_event_h {c : MR} {T : TR} {p mm ki : Int32} {v : Int64} {n gd : Int32} (h : ¬ f1_X5_event c T p mm ki v n gd = 0) : ¬ gd = 0 := by
  unfold f1_X5_event at h
  by_cases h1 : gd = 0
  · rw [if_pos h1] at h; exact absurd rfl h
  · exact h1
set_option maxRecDepth 100000 in
set_option maxHeartbeats 2000000 in
theorem s1_X5_event {Z : pw_Z} {Q : State → Prop} {L : List Nat} {F : Nat → va_E} {m : Nat} {rf : Nat → Nat} {NP NE NM : Nat} {c : MR} {T : TR} {p : Int32} {mm : Int32} {ki : Int32} {v : Int64} {n : Int32} {gd : Int32} (C : pw_C Z cX5_event 8 RX5 wsX5_event ⟨6, 0, 0, 140⟩ (some .int)) (hri : RI c T NP NE NM) (hg1 : ¬ gd = 0 → ∃ a, a < NP ∧ p = nI a) (k : PW Z (mX (zG Z) m rf c T) L F 0 0 Q 91 [(0, .ref m), (1, .int p), (2, .int mm), (3, .int ki), (4, .long v), (6, .int n), (7, .int (f1_X5_event c T p mm ki v n gd))] []) : PW Z (mX (zG Z) m rf c T) L F 0 0 Q 44 [(0, .ref m), (1, .int p), (2, .int mm), (3, .int ki), (4, .long v), (6, .int n), (7, .int gd)] [] := by
  have w0_ : Cond.constantLong RX5 188 (1000000000) ∈ wsX5_event := by decide +kernel
  refine pk_iload C 6 dX5_event_44 rfl (pc2 := 46) rfl ?_
  refine pk_if_eq (tgt := 88) C dX5_event_46 (by decide) (pc2 := 49) rfl (fun h1_ => ?_) (fun h1_ => ?_)
  ·
    refine pk_iconst (v := 0) C dX5_event_88 (by decide) (pc2 := 89) rfl ?_
    refine pk_istore (lv' := [(7, .int 0), (0, .ref m), (1, .int p), (2, .int mm), (3, .int ki), (4, .long v), (6, .int n)]) C dX5_event_89 (by decide) rfl (pc2 := 91) rfl ?_
    refine pw_lv [1, 2, 3, 4, 5, 6, 0] (lv' := [(0, .ref m), (1, .int p), (2, .int mm), (3, .int ki), (4, .long v), (6, .int n), (7, .int 0)]) rfl ?_
    have k9 := k
    unfold f1_X5_event at k9
    try rw [if_pos h1_] at k9
    exact k9
  ·
    refine pk_iload_n C 3 dX5_event_49 rfl rfl (pc2 := 50) rfl ?_
    refine pk_iconst (v := 4) C dX5_event_50 (by decide) (pc2 := 51) rfl ?_
    refine pk_icmp_le (tgt := 64) C dX5_event_51 (by decide) (pc2 := 54) rfl (fun h2_ => ?_) (fun h2_ => ?_)
    ·
      refine pk_lload C 4 dX5_event_64 rfl (pc2 := 66) rfl ?_
      refine pk_iload_n C 3 dX5_event_66 rfl rfl (pc2 := 67) rfl ?_
      refine pk_if_ne (tgt := 74) C dX5_event_67 (by decide) (pc2 := 70) rfl (fun h3_ => ?_) (fun h3_ => ?_)
      ·
        refine pk_lconst (v := 0) C dX5_event_74 (by decide) (pc2 := 75) rfl ?_
        refine pk_ldc2 C w0_ dX5_event_75 (pc2 := 78) rfl ?_
        refine pk_dS (cx := []) (wr := (mX (zG Z) m rf c T)) (X2 := (mX (zG Z) m rf c T)) (st := []) (st2 := [.int (m_X5_isIn v 0 (1000000000))]) (As := [.long v, .long 0, .long (1000000000)]) C (c_X5_isIn (zl Z) (zG Z) L F v 0 (1000000000)) gX5_event_X5_isIn rfl rfl rfl 3 (by decide +kernel) ⟨Nat.le_of_ble_eq_true rfl, Nat.le_of_ble_eq_true rfl⟩ rfl rfl (Nat.le_of_ble_eq_true rfl) ⟨Nat.le_of_ble_eq_true rfl, Nat.le_of_ble_eq_true rfl⟩ [] [0, 1, 2, 3, 4, 5, 6, 7, 8, 9, 10, 11, 12, 13, 14, 15] [0, 1, 2, 3, 4, 5, 6, 7, 8, 9, 10, 11, 12, 13, 14, 15] rfl rfl rfl rfl (by decide) rfl rfl dX5_event_78 (pc2 := 81) rfl rfl ?_
        refine pk_topi (fun n1_ en1_ => ?_)
        refine pk_if_eq (tgt := 88) C dX5_event_81 (by decide) (pc2 := 84) rfl (fun h4_ => ?_) (fun h4_ => ?_)
        ·
          refine pk_iconst (v := 0) C dX5_event_88 (by decide) (pc2 := 89) rfl ?_
          refine pk_istore (lv' := [(7, .int 0), (0, .ref m), (1, .int p), (2, .int mm), (3, .int ki), (4, .long v), (6, .int n)]) C dX5_event_89 (by decide) rfl (pc2 := 91) rfl ?_
          refine pw_lv [1, 2, 3, 4, 5, 6, 0] (lv' := [(0, .ref m), (1, .int p), (2, .int mm), (3, .int ki), (4, .long v), (6, .int n), (7, .int 0)]) rfl ?_
          subst en1_
          have k9 := k
          unfold f1_X5_event at k9
          try rw [if_neg h1_] at k9
          try rw [if_pos h2_] at k9
          try rw [if_neg h3_] at k9
          try rw [if_pos h4_] at k9
          exact k9
        ·
          refine pk_iconst (v := 1) C dX5_event_84 (by decide) (pc2 := 85) rfl ?_
          refine pk_goto (tgt := 89) C dX5_event_85 (by decide) ?_
          refine pk_istore (lv' := [(7, .int 1), (0, .ref m), (1, .int p), (2, .int mm), (3, .int ki), (4, .long v), (6, .int n)]) C dX5_event_89 (by decide) rfl (pc2 := 91) rfl ?_
          refine pw_lv [1, 2, 3, 4, 5, 6, 0] (lv' := [(0, .ref m), (1, .int p), (2, .int mm), (3, .int ki), (4, .long v), (6, .int n), (7, .int 1)]) rfl ?_
          subst en1_
          have k9 := k
          unfold f1_X5_event at k9
          try rw [if_neg h1_] at k9
          try rw [if_pos h2_] at k9
          try rw [if_neg h3_] at k9
          try rw [if_neg h4_] at k9
          exact k9
      ·
        refine pk_lconst (v := 1) C dX5_event_70 (by decide) (pc2 := 71) rfl ?_
        refine pk_goto (tgt := 75) C dX5_event_71 (by decide) ?_
        refine pk_ldc2 C w0_ dX5_event_75 (pc2 := 78) rfl ?_
        refine pk_dS (cx := []) (wr := (mX (zG Z) m rf c T)) (X2 := (mX (zG Z) m rf c T)) (st := []) (st2 := [.int (m_X5_isIn v 1 (1000000000))]) (As := [.long v, .long 1, .long (1000000000)]) C (c_X5_isIn (zl Z) (zG Z) L F v 1 (1000000000)) gX5_event_X5_isIn rfl rfl rfl 3 (by decide +kernel) ⟨Nat.le_of_ble_eq_true rfl, Nat.le_of_ble_eq_true rfl⟩ rfl rfl (Nat.le_of_ble_eq_true rfl) ⟨Nat.le_of_ble_eq_true rfl, Nat.le_of_ble_eq_true rfl⟩ [] [0, 1, 2, 3, 4, 5, 6, 7, 8, 9, 10, 11, 12, 13, 14, 15] [0, 1, 2, 3, 4, 5, 6, 7, 8, 9, 10, 11, 12, 13, 14, 15] rfl rfl rfl rfl (by decide) rfl rfl dX5_event_78 (pc2 := 81) rfl rfl ?_
        refine pk_topi (fun n2_ en2_ => ?_)
        refine pk_if_eq (tgt := 88) C dX5_event_81 (by decide) (pc2 := 84) rfl (fun h5_ => ?_) (fun h5_ => ?_)
        ·
          refine pk_iconst (v := 0) C dX5_event_88 (by decide) (pc2 := 89) rfl ?_
          refine pk_istore (lv' := [(7, .int 0), (0, .ref m), (1, .int p), (2, .int mm), (3, .int ki), (4, .long v), (6, .int n)]) C dX5_event_89 (by decide) rfl (pc2 := 91) rfl ?_
          refine pw_lv [1, 2, 3, 4, 5, 6, 0] (lv' := [(0, .ref m), (1, .int p), (2, .int mm), (3, .int ki), (4, .long v), (6, .int n), (7, .int 0)]) rfl ?_
          subst en2_
          have k9 := k
          unfold f1_X5_event at k9
          try rw [if_neg h1_] at k9
          try rw [if_pos h2_] at k9
          try rw [if_pos h3_] at k9
          try rw [if_pos h5_] at k9
          exact k9
        ·
          refine pk_iconst (v := 1) C dX5_event_84 (by decide) (pc2 := 85) rfl ?_
          refine pk_goto (tgt := 89) C dX5_event_85 (by decide) ?_
          refine pk_istore (lv' := [(7, .int 1), (0, .ref m), (1, .int p), (2, .int mm), (3, .int ki), (4, .long v), (6, .int n)]) C dX5_event_89 (by decide) rfl (pc2 := 91) rfl ?_
          refine pw_lv [1, 2, 3, 4, 5, 6, 0] (lv' := [(0, .ref m), (1, .int p), (2, .int mm), (3, .int ki), (4, .long v), (6, .int n), (7, .int 1)]) rfl ?_
          subst en2_
          have k9 := k
          unfold f1_X5_event at k9
          try rw [if_neg h1_] at k9
          try rw [if_pos h2_] at k9
          try rw [if_pos h3_] at k9
          try rw [if_neg h5_] at k9
          exact k9
    ·
      refine pk_lload C 4 dX5_event_54 rfl (pc2 := 56) rfl ?_
      refine pk_lconst (v := 0) C dX5_event_56 (by decide) (pc2 := 57) rfl ?_
      refine pk_lcmp_ne (tgt := 88) C dX5_event_57 dX5_event_58 (pc1 := 58) rfl (by decide) (pc2 := 61) rfl (fun h6_ => ?_) (fun h6_ => ?_)
      ·
        refine pk_iconst (v := 0) C dX5_event_88 (by decide) (pc2 := 89) rfl ?_
        refine pk_istore (lv' := [(7, .int 0), (0, .ref m), (1, .int p), (2, .int mm), (3, .int ki), (4, .long v), (6, .int n)]) C dX5_event_89 (by decide) rfl (pc2 := 91) rfl ?_
        refine pw_lv [1, 2, 3, 4, 5, 6, 0] (lv' := [(0, .ref m), (1, .int p), (2, .int mm), (3, .int ki), (4, .long v), (6, .int n), (7, .int 0)]) rfl ?_
        have k9 := k
        unfold f1_X5_event at k9
        try rw [if_neg h1_] at k9
        try rw [if_neg h2_] at k9
        try rw [if_neg h6_] at k9
        exact k9
      ·
        refine pk_goto (tgt := 84) C dX5_event_61 (by decide) ?_
        refine pk_iconst (v := 1) C dX5_event_84 (by decide) (pc2 := 85) rfl ?_
        refine pk_goto (tgt := 89) C dX5_event_85 (by decide) ?_
        refine pk_istore (lv' := [(7, .int 1), (0, .ref m), (1, .int p), (2, .int mm), (3, .int ki), (4, .long v), (6, .int n)]) C dX5_event_89 (by decide) rfl (pc2 := 91) rfl ?_
        refine pw_lv [1, 2, 3, 4, 5, 6, 0] (lv' := [(0, .ref m), (1, .int p), (2, .int mm), (3, .int ki), (4, .long v), (6, .int n), (7, .int 1)]) rfl ?_
        have k9 := k
        unfold f1_X5_event at k9
        try rw [if_neg h1_] at k9
        try rw [if_neg h2_] at k9
        try rw [if_pos h6_] at k9
        exact k9
def f2_X5_event (c : MR) (T : TR) (p : Int32) (mm : Int32) (ki : Int32) (v : Int64) (n : Int32) (gd : Int32) (gd2 : Int32) : Int32 :=
  if gd2 = 0 then 0 else if ki = 1 then if (m_X5_isIn (Int32.toInt64 n) 1 (36)) = 0 then 0 else 1 else if ki = 5 then if (m_X5_isIn (Int32.toInt64 n) 1 (1000000)) = 0 then 0 else 1 else if n = 0 then 1 else 0
theorem isIn_in {x lo hi : Int64} (h : ¬ m_X5_isIn x lo hi = 0) : lo ≤ x ∧ x ≤ hi := by
  unfold m_X5_isIn at h
  by_cases h1 : x < lo
  · rw [if_pos h1] at h; exact absurd rfl h
  · rw [if_neg h1] at h
    by_cases h2 : hi < x
    · rw [if_pos h2] at h; exact absurd rfl h
    · exact ⟨Int64.not_lt.mp h1, Int64.not_lt.mp h2⟩
theorem isIn_i {x : Int32} {lo hi : Int64} {a b : Int} (ha : lo.toInt = a) (hb : hi.toInt = b) (h : ¬ m_X5_isIn (Int32.toInt64 x) lo hi = 0) : a ≤ x.toInt ∧ x.toInt ≤ b := by
  obtain ⟨h1, h2⟩ := isIn_in h
  rw [Int64.le_iff_toInt_le, Int32.toInt_toInt64, ha] at h1
  rw [Int64.le_iff_toInt_le, Int32.toInt_toInt64, hb] at h2
  exact ⟨h1, h2⟩
theorem f2_X5_event_h {c : MR} {T : TR} {p mm ki : Int32} {v : Int64} {n gd gd2 : Int32} (h : ¬ f2_X5_event c T p mm ki v n gd gd2 = 0) : ¬ gd2 = 0 ∧ (ki = 1 → 1 ≤ n.toInt ∧ n.toInt ≤ 36) := by
  unfold f2_X5_event at h
  by_cases h1 : gd2 = 0
  · rw [if_pos h1] at h; exact absurd rfl h
  · rw [if_neg h1] at h
    refine ⟨h1, fun hk => ?_⟩
    rw [if_pos hk] at h
    by_cases h3 : m_X5_isIn (Int32.toInt64 n) 1 (36) = 0
    · rw [if_pos h3] at h; exact absurd rfl h
    · exact isIn_i rfl rfl h3
set_option maxRecDepth 100000 in
set_option maxHeartbeats 2000000 in
theorem s2_X5_event {Z : pw_Z} {Q : State → Prop} {L : List Nat} {F : Nat → va_E} {m : Nat} {rf : Nat → Nat} {NP NE NM : Nat} {c : MR} {T : TR} {p : Int32} {mm : Int32} {ki : Int32} {v : Int64} {n : Int32} {gd : Int32} {gd2 : Int32} (C : pw_C Z cX5_event 8 RX5 wsX5_event ⟨6, 0, 0, 140⟩ (some .int)) (hri : RI c T NP NE NM) (hg1 : ¬ gd = 0 → ∃ a, a < NP ∧ p = nI a) (hg2 : ¬ gd2 = 0 → ¬ gd = 0) (k : PW Z (mX (zG Z) m rf c T) L F 0 0 Q 150 [(0, .ref m), (1, .int p), (2, .int mm), (3, .int ki), (4, .long v), (6, .int n), (7, .int (f2_X5_event c T p mm ki v n gd gd2))] []) : PW Z (mX (zG Z) m rf c T) L F 0 0 Q 91 [(0, .ref m), (1, .int p), (2, .int mm), (3, .int ki), (4, .long v), (6, .int n), (7, .int gd2)] [] := by
  have w0_ : Cond.constantLong RX5 119 (1000000) ∈ wsX5_event := by decide +kernel
  have w1_ : Cond.constantLong RX5 198 (36) ∈ wsX5_event := by decide +kernel
  refine pk_iload C 6 dX5_event_91 rfl (pc2 := 93) rfl ?_
  refine pk_if_eq (tgt := 147) C dX5_event_93 (by decide) (pc2 := 96) rfl (fun h1_ => ?_) (fun h1_ => ?_)
  ·
    refine pk_iconst (v := 0) C dX5_event_147 (by decide) (pc2 := 148) rfl ?_
    refine pk_istore (lv' := [(7, .int 0), (0, .ref m), (1, .int p), (2, .int mm), (3, .int ki), (4, .long v), (6, .int n)]) C dX5_event_148 (by decide) rfl (pc2 := 150) rfl ?_
    refine pw_lv [1, 2, 3, 4, 5, 6, 0] (lv' := [(0, .ref m), (1, .int p), (2, .int mm), (3, .int ki), (4, .long v), (6, .int n), (7, .int 0)]) rfl ?_
    have k9 := k
    unfold f2_X5_event at k9
    try rw [if_pos h1_] at k9
    exact k9
  ·
    refine pk_iload_n C 3 dX5_event_96 rfl rfl (pc2 := 97) rfl ?_
    refine pk_iconst (v := 1) C dX5_event_97 (by decide) (pc2 := 98) rfl ?_
    refine pk_icmp_ne (tgt := 117) C dX5_event_98 (by decide) (pc2 := 101) rfl (fun h2_ => ?_) (fun h2_ => ?_)
    ·
      refine pk_iload_n C 3 dX5_event_117 rfl rfl (pc2 := 118) rfl ?_
      refine pk_iconst (v := 5) C dX5_event_118 (by decide) (pc2 := 119) rfl ?_
      refine pk_icmp_ne (tgt := 138) C dX5_event_119 (by decide) (pc2 := 122) rfl (fun h3_ => ?_) (fun h3_ => ?_)
      ·
        refine pk_iload C 5 dX5_event_138 rfl (pc2 := 140) rfl ?_
        refine pk_if_ne (tgt := 147) C dX5_event_140 (by decide) (pc2 := 143) rfl (fun h4_ => ?_) (fun h4_ => ?_)
        ·
          refine pk_iconst (v := 0) C dX5_event_147 (by decide) (pc2 := 148) rfl ?_
          refine pk_istore (lv' := [(7, .int 0), (0, .ref m), (1, .int p), (2, .int mm), (3, .int ki), (4, .long v), (6, .int n)]) C dX5_event_148 (by decide) rfl (pc2 := 150) rfl ?_
          refine pw_lv [1, 2, 3, 4, 5, 6, 0] (lv' := [(0, .ref m), (1, .int p), (2, .int mm), (3, .int ki), (4, .long v), (6, .int n), (7, .int 0)]) rfl ?_
          have k9 := k
          unfold f2_X5_event at k9
          try rw [if_neg h1_] at k9
          try rw [if_neg h2_] at k9
          try rw [if_neg h3_] at k9
          try rw [if_neg h4_] at k9
          exact k9
        ·
          refine pk_iconst (v := 1) C dX5_event_143 (by decide) (pc2 := 144) rfl ?_
          refine pk_goto (tgt := 148) C dX5_event_144 (by decide) ?_
          refine pk_istore (lv' := [(7, .int 1), (0, .ref m), (1, .int p), (2, .int mm), (3, .int ki), (4, .long v), (6, .int n)]) C dX5_event_148 (by decide) rfl (pc2 := 150) rfl ?_
          refine pw_lv [1, 2, 3, 4, 5, 6, 0] (lv' := [(0, .ref m), (1, .int p), (2, .int mm), (3, .int ki), (4, .long v), (6, .int n), (7, .int 1)]) rfl ?_
          have k9 := k
          unfold f2_X5_event at k9
          try rw [if_neg h1_] at k9
          try rw [if_neg h2_] at k9
          try rw [if_neg h3_] at k9
          try rw [if_pos h4_] at k9
          exact k9
      ·
        refine pk_iload C 5 dX5_event_122 rfl (pc2 := 124) rfl ?_
        refine pk_i2l C dX5_event_124 (pc2 := 125) rfl ?_
        refine pk_lconst (v := 1) C dX5_event_125 (by decide) (pc2 := 126) rfl ?_
        refine pk_ldc2 C w0_ dX5_event_126 (pc2 := 129) rfl ?_
        refine pk_dS (cx := []) (wr := (mX (zG Z) m rf c T)) (X2 := (mX (zG Z) m rf c T)) (st := []) (st2 := [.int (m_X5_isIn (Int32.toInt64 n) 1 (1000000))]) (As := [.long (Int32.toInt64 n), .long 1, .long (1000000)]) C (c_X5_isIn (zl Z) (zG Z) L F (Int32.toInt64 n) 1 (1000000)) gX5_event_X5_isIn rfl rfl rfl 3 (by decide +kernel) ⟨Nat.le_of_ble_eq_true rfl, Nat.le_of_ble_eq_true rfl⟩ rfl rfl (Nat.le_of_ble_eq_true rfl) ⟨Nat.le_of_ble_eq_true rfl, Nat.le_of_ble_eq_true rfl⟩ [] [0, 1, 2, 3, 4, 5, 6, 7, 8, 9, 10, 11, 12, 13, 14, 15] [0, 1, 2, 3, 4, 5, 6, 7, 8, 9, 10, 11, 12, 13, 14, 15] rfl rfl rfl rfl (by decide) rfl rfl dX5_event_129 (pc2 := 132) rfl rfl ?_
        refine pk_topi (fun n1_ en1_ => ?_)
        refine pk_if_eq (tgt := 147) C dX5_event_132 (by decide) (pc2 := 135) rfl (fun h5_ => ?_) (fun h5_ => ?_)
        ·
          refine pk_iconst (v := 0) C dX5_event_147 (by decide) (pc2 := 148) rfl ?_
          refine pk_istore (lv' := [(7, .int 0), (0, .ref m), (1, .int p), (2, .int mm), (3, .int ki), (4, .long v), (6, .int n)]) C dX5_event_148 (by decide) rfl (pc2 := 150) rfl ?_
          refine pw_lv [1, 2, 3, 4, 5, 6, 0] (lv' := [(0, .ref m), (1, .int p), (2, .int mm), (3, .int ki), (4, .long v), (6, .int n), (7, .int 0)]) rfl ?_
          subst en1_
          have k9 := k
          unfold f2_X5_event at k9
          try rw [if_neg h1_] at k9
          try rw [if_neg h2_] at k9
          try rw [if_pos h3_] at k9
          try rw [if_pos h5_] at k9
          exact k9
        ·
          refine pk_goto (tgt := 143) C dX5_event_135 (by decide) ?_
          refine pk_iconst (v := 1) C dX5_event_143 (by decide) (pc2 := 144) rfl ?_
          refine pk_goto (tgt := 148) C dX5_event_144 (by decide) ?_
          refine pk_istore (lv' := [(7, .int 1), (0, .ref m), (1, .int p), (2, .int mm), (3, .int ki), (4, .long v), (6, .int n)]) C dX5_event_148 (by decide) rfl (pc2 := 150) rfl ?_
          refine pw_lv [1, 2, 3, 4, 5, 6, 0] (lv' := [(0, .ref m), (1, .int p), (2, .int mm), (3, .int ki), (4, .long v), (6, .int n), (7, .int 1)]) rfl ?_
          subst en1_
          have k9 := k
          unfold f2_X5_event at k9
          try rw [if_neg h1_] at k9
          try rw [if_neg h2_] at k9
          try rw [if_pos h3_] at k9
          try rw [if_neg h5_] at k9
          exact k9
    ·
      refine pk_iload C 5 dX5_event_101 rfl (pc2 := 103) rfl ?_
      refine pk_i2l C dX5_event_103 (pc2 := 104) rfl ?_
      refine pk_lconst (v := 1) C dX5_event_104 (by decide) (pc2 := 105) rfl ?_
      refine pk_ldc2 C w1_ dX5_event_105 (pc2 := 108) rfl ?_
      refine pk_dS (cx := []) (wr := (mX (zG Z) m rf c T)) (X2 := (mX (zG Z) m rf c T)) (st := []) (st2 := [.int (m_X5_isIn (Int32.toInt64 n) 1 (36))]) (As := [.long (Int32.toInt64 n), .long 1, .long (36)]) C (c_X5_isIn (zl Z) (zG Z) L F (Int32.toInt64 n) 1 (36)) gX5_event_X5_isIn rfl rfl rfl 3 (by decide +kernel) ⟨Nat.le_of_ble_eq_true rfl, Nat.le_of_ble_eq_true rfl⟩ rfl rfl (Nat.le_of_ble_eq_true rfl) ⟨Nat.le_of_ble_eq_true rfl, Nat.le_of_ble_eq_true rfl⟩ [] [0, 1, 2, 3, 4, 5, 6, 7, 8, 9, 10, 11, 12, 13, 14, 15] [0, 1, 2, 3, 4, 5, 6, 7, 8, 9, 10, 11, 12, 13, 14, 15] rfl rfl rfl rfl (by decide) rfl rfl dX5_event_108 (pc2 := 111) rfl rfl ?_
      refine pk_topi (fun n2_ en2_ => ?_)
      refine pk_if_eq (tgt := 147) C dX5_event_111 (by decide) (pc2 := 114) rfl (fun h6_ => ?_) (fun h6_ => ?_)
      ·
        refine pk_iconst (v := 0) C dX5_event_147 (by decide) (pc2 := 148) rfl ?_
        refine pk_istore (lv' := [(7, .int 0), (0, .ref m), (1, .int p), (2, .int mm), (3, .int ki), (4, .long v), (6, .int n)]) C dX5_event_148 (by decide) rfl (pc2 := 150) rfl ?_
        refine pw_lv [1, 2, 3, 4, 5, 6, 0] (lv' := [(0, .ref m), (1, .int p), (2, .int mm), (3, .int ki), (4, .long v), (6, .int n), (7, .int 0)]) rfl ?_
        subst en2_
        have k9 := k
        unfold f2_X5_event at k9
        try rw [if_neg h1_] at k9
        try rw [if_pos h2_] at k9
        try rw [if_pos h6_] at k9
        exact k9
      ·
        refine pk_goto (tgt := 143) C dX5_event_114 (by decide) ?_
        refine pk_iconst (v := 1) C dX5_event_143 (by decide) (pc2 := 144) rfl ?_
        refine pk_goto (tgt := 148) C dX5_event_144 (by decide) ?_
        refine pk_istore (lv' := [(7, .int 1), (0, .ref m), (1, .int p), (2, .int mm), (3, .int ki), (4, .long v), (6, .int n)]) C dX5_event_148 (by decide) rfl (pc2 := 150) rfl ?_
        refine pw_lv [1, 2, 3, 4, 5, 6, 0] (lv' := [(0, .ref m), (1, .int p), (2, .int mm), (3, .int ki), (4, .long v), (6, .int n), (7, .int 1)]) rfl ?_
        subst en2_
        have k9 := k
        unfold f2_X5_event at k9
        try rw [if_neg h1_] at k9
        try rw [if_pos h2_] at k9
        try rw [if_neg h6_] at k9
        exact k9
def f3_X5_event (c : MR) (T : TR) (p : Int32) (mm : Int32) (ki : Int32) (v : Int64) (n : Int32) (gd : Int32) (gd2 : Int32) (gd3 : Int32) : MR :=
  if gd3 = 0 then (M_mk 1 (M_pt c) (M_mn c) (M_ev c) (M_co c) (M_al c) (M_re c) (M_lo c) (M_rs c) (M_li c) (M_he c) (M_go c) (M_sp c) (M_ba c) (M_le c) (M_lf c) (M_mo c) (M_un c) (M_ch c) (M_lc c) (M_ac c) (M_bd c)) else if 0 ≤ (m_X5_eventIn c T p mm) then (M_mk 2 (M_pt c) (M_mn c) (M_ev c) (M_co c) (M_al c) (M_re c) (M_lo c) (M_rs c) (M_li c) (M_he c) (M_go c) (M_sp c) (M_ba c) (M_le c) (M_lf c) (M_mo c) (M_un c) (M_ch c) (M_lc c) (M_ac c) (M_bd c)) else if (m_X5_countOf c T p) = 8 then (M_mk 2 (M_pt c) (M_mn c) (M_ev c) (M_co c) (M_al c) (M_re c) (M_lo c) (M_rs c) (M_li c) (M_he c) (M_go c) (M_sp c) (M_ba c) (M_le c) (M_lf c) (M_mo c) (M_un c) (M_ch c) (M_lc c) (M_ac c) (M_bd c)) else if (M_ev c) = 40 then (M_mk 2 (M_pt c) (M_mn c) (M_ev c) (M_co c) (M_al c) (M_re c) (M_lo c) (M_rs c) (M_li c) (M_he c) (M_go c) (M_sp c) (M_ba c) (M_le c) (M_lf c) (M_mo c) (M_un c) (M_ch c) (M_lc c) (M_ac c) (M_bd c)) else (M_mk 0 (M_pt c) (M_mn c) (M_ev c) (M_co c) (M_al c) (M_re c) (M_lo c) (M_rs c) (M_li c) (M_he c) (M_go c) (M_sp c) (M_ba c) (M_le c) (M_lf c) (M_mo c) (M_un c) (M_ch c) (M_lc c) (M_ac c) (M_bd c))
theorem f3_X5_event_h (c : MR) (T : TR) (p mm ki : Int32) (v : Int64) (n gd gd2 gd3 : Int32) : (M_cd (f3_X5_event c T p mm ki v n gd gd2 gd3) ≤ 0 → ¬ gd3 = 0 ∧ ¬ M_ev c = 40) ∧ M_nc (f3_X5_event c T p mm ki v n gd gd2 gd3) = M_nc c := by
  have no : ∀ {P : Prop} {x k : Int32}, k ≤ 0 → x = k → ¬ x ≤ 0 → P := fun h e z => absurd (by rw [e]; exact h) z
  unfold f3_X5_event
  refine zi_ite (P := fun (x : MR) => (M_cd x ≤ 0 → ¬ gd3 = 0 ∧ ¬ M_ev c = 40) ∧ M_nc x = M_nc c) (fun _ => ⟨fun h => absurd h (by rw [M_cd_mk]; decide), rfl⟩) (fun h1 => ?_)
  refine zi_ite (P := fun (x : MR) => (M_cd x ≤ 0 → ¬ gd3 = 0 ∧ ¬ M_ev c = 40) ∧ M_nc x = M_nc c) (fun _ => ⟨fun h => absurd h (by rw [M_cd_mk]; decide), rfl⟩) (fun _ => ?_)
  refine zi_ite (P := fun (x : MR) => (M_cd x ≤ 0 → ¬ gd3 = 0 ∧ ¬ M_ev c = 40) ∧ M_nc x = M_nc c) (fun _ => ⟨fun h => absurd h (by rw [M_cd_mk]; decide), rfl⟩) (fun _ => ?_)
  exact zi_ite (P := fun (x : MR) => (M_cd x ≤ 0 → ¬ gd3 = 0 ∧ ¬ M_ev c = 40) ∧ M_nc x = M_nc c) (fun _ => ⟨fun h => absurd h (by rw [M_cd_mk]; decide), rfl⟩) (fun h4 => ⟨fun _ => ⟨h1, h4⟩, rfl⟩)
theorem ev_lt {c : MR} {N : Nat} (hN : N ≤ 40) (hev : M_ev c = nI N) (h : ¬ M_ev c = 40) : N < 40 := by
  have h3 : ¬ N = 40 := fun e => h (by rw [hev, e]; rfl)
  omega
/-- one event more -/
theorem RI_goE {c : MR} {T : TR} {NP NE NM a : Nat} {p ki n un ev : Int32} (h : RI c T NP NE NM) (ha : a < NP) (hp : p = nI a) (hu : un.toInt ≤ 35) (hlt : NE < 40) (hk : ki = 1 → 1 ≤ n.toInt ∧ n.toInt ≤ 36) {T' : TR} (h1 : T_fi T' = T_fi T) (h2 : T_li T' = T_li T) (h3 : T_ki T' = upd (T_ki T) (Int32.toNatClampNeg (M_ev c)) ki) (h4 : T_nu T' = upd (T_nu T) (Int32.toNatClampNeg (M_ev c)) n) (hev : ev = M_ev c + 1) : GO ev T' p un := by
  have hg := RI_go h ha hp hu
  obtain ⟨g1, g2, N, a', fm, g3, g4, g5, g6, g7, g8, g9⟩ := hg
  have hNE : M_ev c = nI NE := h.2.1.2
  have hc : Int32.toNatClampNeg (M_ev c) = NE := by rw [hNE, nI_clamp (by omega)]
  refine ⟨g1, g2, NE + 1, a', fm, by omega, g4, g5, by rw [hev, hNE, nI_1], ⟨by rw [h2]; exact g7.1, fun j hj => ?_⟩, g8, by rw [h1]; exact g9⟩
  rw [h3, h4, hc]
  unfold upd
  by_cases e : j = NE
  · rw [if_pos e, if_pos e]; exact hk
  · rw [if_neg e, if_neg e]
    exact (h.2.2.2.2 j (by omega)).1
set_option maxRecDepth 100000 in
set_option maxHeartbeats 2000000 in
theorem s3_X5_event {Z : pw_Z} {Q : State → Prop} {L : List Nat} {F : Nat → va_E} {m : Nat} {rf : Nat → Nat} {NP NE NM : Nat} {c : MR} {T : TR} {p : Int32} {mm : Int32} {ki : Int32} {v : Int64} {n : Int32} {gd : Int32} {gd2 : Int32} {gd3 : Int32} (C : pw_C Z cX5_event 8 RX5 wsX5_event ⟨6, 0, 0, 140⟩ (some .int)) (hri : RI c T NP NE NM) (hg1 : ¬ gd = 0 → ∃ a, a < NP ∧ p = nI a) (hg2 : ¬ gd2 = 0 → ¬ gd = 0) (hg3 : ¬ gd3 = 0 → ¬ gd2 = 0 ∧ (ki = 1 → 1 ≤ n.toInt ∧ n.toInt ≤ 36)) (k : PW Z (mX (zG Z) m rf (f3_X5_event c T p mm ki v n gd gd2 gd3) T) L F 0 0 Q 196 [(0, .ref m), (1, .int p), (2, .int mm), (3, .int ki), (4, .long v), (6, .int n)] []) : PW Z (mX (zG Z) m rf c T) L F 0 0 Q 150 [(0, .ref m), (1, .int p), (2, .int mm), (3, .int ki), (4, .long v), (6, .int n), (7, .int gd3)] [] := by
  have i5_ : ∀ w ∈ wsX50, w ∈ wsX5_event := by decide +kernel
  have w0_ : Cond.fieldLink RX5 56 "AgedAssetsModel" "code" "I" ∈ wsX5_event := by decide +kernel
  have w1_ : Cond.fieldLink RX5 72 "AgedAssetsModel" "events" "I" ∈ wsX5_event := by decide +kernel
  refine pk_aload_n C 0 dX5_event_150 rfl rfl (pc2 := 151) rfl ?_
  refine pk_iload C 6 dX5_event_151 rfl (pc2 := 153) rfl ?_
  refine pk_if_ne (tgt := 160) C dX5_event_153 (by decide) (pc2 := 156) rfl (fun h1_ => ?_) (fun h1_ => ?_)
  ·
    refine pk_aload_n C 0 dX5_event_160 rfl rfl (pc2 := 161) rfl ?_
    refine pk_iload_n C 1 dX5_event_161 rfl rfl (pc2 := 162) rfl ?_
    refine pk_iload_n C 2 dX5_event_162 rfl rfl (pc2 := 163) rfl ?_
    refine pk_dV (cx := (mX (zG Z) m rf c T)) (wr := []) (X2 := (mX (zG Z) m rf c T)) (st := [.ref m]) (st2 := [.int (m_X5_eventIn c T p mm), .ref m]) (As := [.int p, .int mm]) C (c_X5_eventIn (zl Z) (zG Z) L F m rf c T p mm NE hri.2.1.1 hri.2.1.2) gX5_event_X5_eventIn rfl rfl rfl 2 (by decide +kernel) ⟨Nat.le_of_ble_eq_true rfl, Nat.le_of_ble_eq_true rfl⟩ (pw_atX 0 rfl) rfl rfl rfl (Nat.le_of_ble_eq_true rfl) ⟨Nat.le_of_ble_eq_true rfl, Nat.le_of_ble_eq_true rfl⟩ [0, 1, 2, 3, 4, 5, 6, 7, 8, 9, 10, 11, 12, 13, 14, 15] [] [0, 1, 2, 3, 4, 5, 6, 7, 8, 9, 10, 11, 12, 13, 14, 15] rfl rfl rfl rfl (by decide) rfl rfl dX5_event_163 (pc2 := 166) rfl rfl ?_
    refine pk_topi (fun n1_ en1_ => ?_)
    refine pk_if_ge (tgt := 188) C dX5_event_166 (by decide) (pc2 := 169) rfl (fun h2_ => ?_) (fun h2_ => ?_)
    ·
      refine pk_iconst (v := 2) C dX5_event_188 (by decide) (pc2 := 189) rfl ?_
      refine pk_goto (tgt := 193) C dX5_event_189 (by decide) ?_
      refine pk_putX (X' := ((m, kM rf 2 (M_pt c) (M_mn c) (M_ev c) (M_co c) (M_al c) (M_re c) (M_lo c) (M_rs c) (M_li c) (M_he c) (M_go c) (M_sp c) (M_ba c) (M_le c) (M_lf c) (M_mo c) (M_un c) (M_ch c) (M_lc c) (M_ac c) (M_bd c)) :: mT (zG Z) rf T)) C i5_ tyX5_ok nmX5 0 rfl (ci := 5) rfl 0 (by decide) w0_ rfl rfl rfl rfl rfl (Nat.le_of_ble_eq_true rfl) rfl dX5_event_193 (pc2 := 196) rfl ?_
      refine pw_conv (X' := (mX (zG Z) m rf (M_mk 2 (M_pt c) (M_mn c) (M_ev c) (M_co c) (M_al c) (M_re c) (M_lo c) (M_rs c) (M_li c) (M_he c) (M_go c) (M_sp c) (M_ba c) (M_le c) (M_lf c) (M_mo c) (M_un c) (M_ch c) (M_lc c) (M_ac c) (M_bd c)) T)) mX_mk ?_
      refine pw_lv [0, 1, 2, 3, 4, 5] (lv' := [(0, .ref m), (1, .int p), (2, .int mm), (3, .int ki), (4, .long v), (6, .int n)]) rfl ?_
      subst en1_
      have k9 := k
      unfold f3_X5_event at k9
      try rw [if_neg h1_] at k9
      try rw [if_pos h2_] at k9
      exact k9
    ·
      refine pk_aload_n C 0 dX5_event_169 rfl rfl (pc2 := 170) rfl ?_
      refine pk_iload_n C 1 dX5_event_170 rfl rfl (pc2 := 171) rfl ?_
      refine pk_dV (cx := (mX (zG Z) m rf c T)) (wr := []) (X2 := (mX (zG Z) m rf c T)) (st := [.ref m]) (st2 := [.int (m_X5_countOf c T p), .ref m]) (As := [.int p]) C (c_X5_countOf (zl Z) (zG Z) L F m rf c T p NE hri.2.1.1 hri.2.1.2) gX5_event_X5_countOf rfl rfl rfl 1 (by decide +kernel) ⟨Nat.le_of_ble_eq_true rfl, Nat.le_of_ble_eq_true rfl⟩ (pw_atX 0 rfl) rfl rfl rfl (Nat.le_of_ble_eq_true rfl) ⟨Nat.le_of_ble_eq_true rfl, Nat.le_of_ble_eq_true rfl⟩ [0, 1, 2, 3, 4, 5, 6, 7, 8, 9, 10, 11, 12, 13, 14, 15] [] [0, 1, 2, 3, 4, 5, 6, 7, 8, 9, 10, 11, 12, 13, 14, 15] rfl rfl rfl rfl (by decide) rfl rfl dX5_event_171 (pc2 := 174) rfl rfl ?_
      refine pk_topi (fun n2_ en2_ => ?_)
      refine pk_bipush (v := 8) C dX5_event_174 (by decide) (pc2 := 176) rfl ?_
      refine pk_icmp_eq (tgt := 188) C dX5_event_176 (by decide) (pc2 := 179) rfl (fun h3_ => ?_) (fun h3_ => ?_)
      ·
        refine pk_iconst (v := 2) C dX5_event_188 (by decide) (pc2 := 189) rfl ?_
        refine pk_goto (tgt := 193) C dX5_event_189 (by decide) ?_
        refine pk_putX (X' := ((m, kM rf 2 (M_pt c) (M_mn c) (M_ev c) (M_co c) (M_al c) (M_re c) (M_lo c) (M_rs c) (M_li c) (M_he c) (M_go c) (M_sp c) (M_ba c) (M_le c) (M_lf c) (M_mo c) (M_un c) (M_ch c) (M_lc c) (M_ac c) (M_bd c)) :: mT (zG Z) rf T)) C i5_ tyX5_ok nmX5 0 rfl (ci := 5) rfl 0 (by decide) w0_ rfl rfl rfl rfl rfl (Nat.le_of_ble_eq_true rfl) rfl dX5_event_193 (pc2 := 196) rfl ?_
        refine pw_conv (X' := (mX (zG Z) m rf (M_mk 2 (M_pt c) (M_mn c) (M_ev c) (M_co c) (M_al c) (M_re c) (M_lo c) (M_rs c) (M_li c) (M_he c) (M_go c) (M_sp c) (M_ba c) (M_le c) (M_lf c) (M_mo c) (M_un c) (M_ch c) (M_lc c) (M_ac c) (M_bd c)) T)) mX_mk ?_
        refine pw_lv [0, 1, 2, 3, 4, 5] (lv' := [(0, .ref m), (1, .int p), (2, .int mm), (3, .int ki), (4, .long v), (6, .int n)]) rfl ?_
        subst en1_ en2_
        have k9 := k
        unfold f3_X5_event at k9
        try rw [if_neg h1_] at k9
        try rw [if_neg h2_] at k9
        try rw [if_pos h3_] at k9
        exact k9
      ·
        refine pk_aload_n C 0 dX5_event_179 rfl rfl (pc2 := 180) rfl ?_
        refine pk_get (v := .int (M_ev c)) C i5_ (pw_atX 0 rfl) (ci := 5) rfl 11 (by decide) w1_ rfl rfl dX5_event_180 (pc2 := 183) rfl ?_
        refine pk_bipush (v := 40) C dX5_event_183 (by decide) (pc2 := 185) rfl ?_
        refine pk_icmp_ne (tgt := 192) C dX5_event_185 (by decide) (pc2 := 188) rfl (fun h4_ => ?_) (fun h4_ => ?_)
        ·
          refine pk_iconst (v := 0) C dX5_event_192 (by decide) (pc2 := 193) rfl ?_
          refine pk_putX (X' := ((m, kM rf 0 (M_pt c) (M_mn c) (M_ev c) (M_co c) (M_al c) (M_re c) (M_lo c) (M_rs c) (M_li c) (M_he c) (M_go c) (M_sp c) (M_ba c) (M_le c) (M_lf c) (M_mo c) (M_un c) (M_ch c) (M_lc c) (M_ac c) (M_bd c)) :: mT (zG Z) rf T)) C i5_ tyX5_ok nmX5 0 rfl (ci := 5) rfl 0 (by decide) w0_ rfl rfl rfl rfl rfl (Nat.le_of_ble_eq_true rfl) rfl dX5_event_193 (pc2 := 196) rfl ?_
          refine pw_conv (X' := (mX (zG Z) m rf (M_mk 0 (M_pt c) (M_mn c) (M_ev c) (M_co c) (M_al c) (M_re c) (M_lo c) (M_rs c) (M_li c) (M_he c) (M_go c) (M_sp c) (M_ba c) (M_le c) (M_lf c) (M_mo c) (M_un c) (M_ch c) (M_lc c) (M_ac c) (M_bd c)) T)) mX_mk ?_
          refine pw_lv [0, 1, 2, 3, 4, 5] (lv' := [(0, .ref m), (1, .int p), (2, .int mm), (3, .int ki), (4, .long v), (6, .int n)]) rfl ?_
          subst en1_ en2_
          have k9 := k
          unfold f3_X5_event at k9
          try rw [if_neg h1_] at k9
          try rw [if_neg h2_] at k9
          try rw [if_neg h3_] at k9
          try rw [if_neg h4_] at k9
          exact k9
        ·
          refine pk_iconst (v := 2) C dX5_event_188 (by decide) (pc2 := 189) rfl ?_
          refine pk_goto (tgt := 193) C dX5_event_189 (by decide) ?_
          refine pk_putX (X' := ((m, kM rf 2 (M_pt c) (M_mn c) (M_ev c) (M_co c) (M_al c) (M_re c) (M_lo c) (M_rs c) (M_li c) (M_he c) (M_go c) (M_sp c) (M_ba c) (M_le c) (M_lf c) (M_mo c) (M_un c) (M_ch c) (M_lc c) (M_ac c) (M_bd c)) :: mT (zG Z) rf T)) C i5_ tyX5_ok nmX5 0 rfl (ci := 5) rfl 0 (by decide) w0_ rfl rfl rfl rfl rfl (Nat.le_of_ble_eq_true rfl) rfl dX5_event_193 (pc2 := 196) rfl ?_
          refine pw_conv (X' := (mX (zG Z) m rf (M_mk 2 (M_pt c) (M_mn c) (M_ev c) (M_co c) (M_al c) (M_re c) (M_lo c) (M_rs c) (M_li c) (M_he c) (M_go c) (M_sp c) (M_ba c) (M_le c) (M_lf c) (M_mo c) (M_un c) (M_ch c) (M_lc c) (M_ac c) (M_bd c)) T)) mX_mk ?_
          refine pw_lv [0, 1, 2, 3, 4, 5] (lv' := [(0, .ref m), (1, .int p), (2, .int mm), (3, .int ki), (4, .long v), (6, .int n)]) rfl ?_
          subst en1_ en2_
          have k9 := k
          unfold f3_X5_event at k9
          try rw [if_neg h1_] at k9
          try rw [if_neg h2_] at k9
          try rw [if_neg h3_] at k9
          try rw [if_pos h4_] at k9
          exact k9
  ·
    refine pk_iconst (v := 1) C dX5_event_156 (by decide) (pc2 := 157) rfl ?_
    refine pk_goto (tgt := 193) C dX5_event_157 (by decide) ?_
    refine pk_putX (X' := ((m, kM rf 1 (M_pt c) (M_mn c) (M_ev c) (M_co c) (M_al c) (M_re c) (M_lo c) (M_rs c) (M_li c) (M_he c) (M_go c) (M_sp c) (M_ba c) (M_le c) (M_lf c) (M_mo c) (M_un c) (M_ch c) (M_lc c) (M_ac c) (M_bd c)) :: mT (zG Z) rf T)) C i5_ tyX5_ok nmX5 0 rfl (ci := 5) rfl 0 (by decide) w0_ rfl rfl rfl rfl rfl (Nat.le_of_ble_eq_true rfl) rfl dX5_event_193 (pc2 := 196) rfl ?_
    refine pw_conv (X' := (mX (zG Z) m rf (M_mk 1 (M_pt c) (M_mn c) (M_ev c) (M_co c) (M_al c) (M_re c) (M_lo c) (M_rs c) (M_li c) (M_he c) (M_go c) (M_sp c) (M_ba c) (M_le c) (M_lf c) (M_mo c) (M_un c) (M_ch c) (M_lc c) (M_ac c) (M_bd c)) T)) mX_mk ?_
    refine pw_lv [0, 1, 2, 3, 4, 5] (lv' := [(0, .ref m), (1, .int p), (2, .int mm), (3, .int ki), (4, .long v), (6, .int n)]) rfl ?_
    have k9 := k
    unfold f3_X5_event at k9
    try rw [if_pos h1_] at k9
    exact k9
def m_X5_event_5 (c : MR) (T : TR) (p : Int32) (mm : Int32) (ki : Int32) (v : Int64) (n : Int32) (gd : Int32) (gd2 : Int32) (gd3 : Int32) (c4 : MR) (c5 : MR) (T5 : TR) : Int32 × MR × TR :=
  if ((m_X5_reckon c5 T5 p 35).1) = 0 then (0, (M_mk 2 (M_pt ((m_X5_reckon c5 T5 p 35).2.1)) (M_mn ((m_X5_reckon c5 T5 p 35).2.1)) ((M_ev ((m_X5_reckon c5 T5 p 35).2.1)) - 1) (M_co ((m_X5_reckon c5 T5 p 35).2.1)) (M_al ((m_X5_reckon c5 T5 p 35).2.1)) (M_re ((m_X5_reckon c5 T5 p 35).2.1)) (M_lo ((m_X5_reckon c5 T5 p 35).2.1)) (M_rs ((m_X5_reckon c5 T5 p 35).2.1)) (M_li ((m_X5_reckon c5 T5 p 35).2.1)) (M_he ((m_X5_reckon c5 T5 p 35).2.1)) (M_go ((m_X5_reckon c5 T5 p 35).2.1)) (M_sp ((m_X5_reckon c5 T5 p 35).2.1)) (M_ba ((m_X5_reckon c5 T5 p 35).2.1)) (M_le ((m_X5_reckon c5 T5 p 35).2.1)) (M_lf ((m_X5_reckon c5 T5 p 35).2.1)) (M_mo ((m_X5_reckon c5 T5 p 35).2.1)) (M_un ((m_X5_reckon c5 T5 p 35).2.1)) (M_ch ((m_X5_reckon c5 T5 p 35).2.1)) (M_lc ((m_X5_reckon c5 T5 p 35).2.1)) (M_ac ((m_X5_reckon c5 T5 p 35).2.1)) (M_bd ((m_X5_reckon c5 T5 p 35).2.1))), ((m_X5_reckon c5 T5 p 35).2.2)) else (((M_ev ((m_X5_reckon c5 T5 p 35).2.1)) - 1), ((m_X5_reckon c5 T5 p 35).2.1), ((m_X5_reckon c5 T5 p 35).2.2))
def m_X5_event_4 (c : MR) (T : TR) (p : Int32) (mm : Int32) (ki : Int32) (v : Int64) (n : Int32) (gd : Int32) (gd2 : Int32) (gd3 : Int32) (c4 : MR) : Int32 × MR × TR :=
  if (M_cd c4) ≤ 0 then m_X5_event_5 c T p mm ki v n gd gd2 gd3 c4 (M_mk (M_cd c4) (M_pt c4) (M_mn c4) ((M_ev c4) + 1) (M_co c4) (M_al c4) (M_re c4) (M_lo c4) (M_rs c4) (M_li c4) (M_he c4) (M_go c4) (M_sp c4) (M_ba c4) (M_le c4) (M_lf c4) (M_mo c4) (M_un c4) (M_ch c4) (M_lc c4) (M_ac c4) (M_bd c4)) (T_s_nu (T_s_am (T_s_ki (T_s_wh (T_s_of T (upd (T_of T) (Int32.toNatClampNeg (M_ev c4)) (p + 1))) (upd (T_wh (T_s_of T (upd (T_of T) (Int32.toNatClampNeg (M_ev c4)) (p + 1)))) (Int32.toNatClampNeg (M_ev c4)) mm)) (upd (T_ki (T_s_wh (T_s_of T (upd (T_of T) (Int32.toNatClampNeg (M_ev c4)) (p + 1))) (upd (T_wh (T_s_of T (upd (T_of T) (Int32.toNatClampNeg (M_ev c4)) (p + 1)))) (Int32.toNatClampNeg (M_ev c4)) mm))) (Int32.toNatClampNeg (M_ev c4)) ki)) (vp_updL (T_am (T_s_ki (T_s_wh (T_s_of T (upd (T_of T) (Int32.toNatClampNeg (M_ev c4)) (p + 1))) (upd (T_wh (T_s_of T (upd (T_of T) (Int32.toNatClampNeg (M_ev c4)) (p + 1)))) (Int32.toNatClampNeg (M_ev c4)) mm)) (upd (T_ki (T_s_wh (T_s_of T (upd (T_of T) (Int32.toNatClampNeg (M_ev c4)) (p + 1))) (upd (T_wh (T_s_of T (upd (T_of T) (Int32.toNatClampNeg (M_ev c4)) (p + 1)))) (Int32.toNatClampNeg (M_ev c4)) mm))) (Int32.toNatClampNeg (M_ev c4)) ki))) (Int32.toNatClampNeg (M_ev c4)) v)) (upd (T_nu (T_s_am (T_s_ki (T_s_wh (T_s_of T (upd (T_of T) (Int32.toNatClampNeg (M_ev c4)) (p + 1))) (upd (T_wh (T_s_of T (upd (T_of T) (Int32.toNatClampNeg (M_ev c4)) (p + 1)))) (Int32.toNatClampNeg (M_ev c4)) mm)) (upd (T_ki (T_s_wh (T_s_of T (upd (T_of T) (Int32.toNatClampNeg (M_ev c4)) (p + 1))) (upd (T_wh (T_s_of T (upd (T_of T) (Int32.toNatClampNeg (M_ev c4)) (p + 1)))) (Int32.toNatClampNeg (M_ev c4)) mm))) (Int32.toNatClampNeg (M_ev c4)) ki)) (vp_updL (T_am (T_s_ki (T_s_wh (T_s_of T (upd (T_of T) (Int32.toNatClampNeg (M_ev c4)) (p + 1))) (upd (T_wh (T_s_of T (upd (T_of T) (Int32.toNatClampNeg (M_ev c4)) (p + 1)))) (Int32.toNatClampNeg (M_ev c4)) mm)) (upd (T_ki (T_s_wh (T_s_of T (upd (T_of T) (Int32.toNatClampNeg (M_ev c4)) (p + 1))) (upd (T_wh (T_s_of T (upd (T_of T) (Int32.toNatClampNeg (M_ev c4)) (p + 1)))) (Int32.toNatClampNeg (M_ev c4)) mm))) (Int32.toNatClampNeg (M_ev c4)) ki))) (Int32.toNatClampNeg (M_ev c4)) v))) (Int32.toNatClampNeg (M_ev c4)) n)) else (0, c4, T)
def m_X5_event_3 (c : MR) (T : TR) (p : Int32) (mm : Int32) (ki : Int32) (v : Int64) (n : Int32) (gd : Int32) (gd2 : Int32) (gd3 : Int32) : Int32 × MR × TR := m_X5_event_4 c T p mm ki v n gd gd2 gd3 (f3_X5_event c T p mm ki v n gd gd2 gd3)
def m_X5_event_2 (c : MR) (T : TR) (p : Int32) (mm : Int32) (ki : Int32) (v : Int64) (n : Int32) (gd : Int32) (gd2 : Int32) : Int32 × MR × TR := m_X5_event_3 c T p mm ki v n gd gd2 (f2_X5_event c T p mm ki v n gd gd2)
def m_X5_event_1 (c : MR) (T : TR) (p : Int32) (mm : Int32) (ki : Int32) (v : Int64) (n : Int32) (gd : Int32) : Int32 × MR × TR := m_X5_event_2 c T p mm ki v n gd (f1_X5_event c T p mm ki v n gd)
def m_X5_event_0 (c : MR) (T : TR) (p : Int32) (mm : Int32) (ki : Int32) (v : Int64) (n : Int32) : Int32 × MR × TR := m_X5_event_1 c T p mm ki v n (f0_X5_event c T p mm ki v n)
def m_X5_event (c : MR) (T : TR) (p : Int32) (mm : Int32) (ki : Int32) (v : Int64) (n : Int32) : Int32 × MR × TR := m_X5_event_0 c T p mm ki v n
set_option maxRecDepth 100000 in
set_option maxHeartbeats 2000000 in
theorem t5_X5_event {Z : pw_Z} {Q : State → Prop} {L : List Nat} {F : Nat → va_E} {m : Nat} {rf : Nat → Nat} {NP NE NM : Nat} {c : MR} {T : TR} {p : Int32} {mm : Int32} {ki : Int32} {v : Int64} {n : Int32} {gd : Int32} {gd2 : Int32} {gd3 : Int32} {c4 : MR} {c5 : MR} {T5 : TR} (C : pw_C Z cX5_event 8 RX5 wsX5_event ⟨6, 0, 0, 140⟩ (some .int)) {X9 : va_W} {R : Int32 × MR × TR} (hE : pw_End Z Q X9 L F (po_d (some (.int (R.1))) (mX (zG Z) m rf (R.2.1) (R.2.2)) L F) 0 0) (hri : RI c T NP NE NM) (hg1 : ¬ gd = 0 → ∃ a, a < NP ∧ p = nI a) (hg2 : ¬ gd2 = 0 → ¬ gd = 0) (hg3 : ¬ gd3 = 0 → ¬ gd2 = 0 ∧ (ki = 1 → 1 ≤ n.toInt ∧ n.toInt ≤ 36)) (hcd : M_cd c4 ≤ 0 → (∃ a, a < NP ∧ p = nI a) ∧ (ki = 1 → 1 ≤ n.toInt ∧ n.toInt ≤ 36) ∧ ¬ M_ev c = 40) (hri1 : RI c4 T NP NE NM) (hgo_ : GO (M_ev c5) T5 p 35) (hR : m_X5_event_5 c T p mm ki v n gd gd2 gd3 c4 c5 T5 = R) : PW Z (mX (zG Z) m rf c5 T5) L F 0 0 Q 269 [(0, .ref m), (1, .int p)] [] := by
  have i5_ : ∀ w ∈ wsX50, w ∈ wsX5_event := by decide +kernel
  have w0_ : Cond.fieldLink RX5 72 "AgedAssetsModel" "events" "I" ∈ wsX5_event := by decide +kernel
  have w1_ : Cond.fieldLink RX5 56 "AgedAssetsModel" "code" "I" ∈ wsX5_event := by decide +kernel
  refine pk_aload_n C 0 dX5_event_269 rfl rfl (pc2 := 270) rfl ?_
  refine pk_iload_n C 1 dX5_event_270 rfl rfl (pc2 := 271) rfl ?_
  refine pk_bipush (v := 35) C dX5_event_271 (by decide) (pc2 := 273) rfl ?_
  refine pk_dV (cx := (mX (zG Z) m rf c5 T5)) (wr := []) (X2 := (mX (zG Z) m rf ((m_X5_reckon c5 T5 p 35).2.1) ((m_X5_reckon c5 T5 p 35).2.2))) (st := []) (st2 := [.int ((m_X5_reckon c5 T5 p 35).1)]) (As := [.int p, .int 35]) C (c_X5_reckon (zl Z) (zG Z) L F m rf c5 T5 p 35 hgo_ hgo_) gX5_event_X5_reckon rfl rfl rfl 2 (by decide +kernel) ⟨Nat.le_of_ble_eq_true rfl, Nat.le_of_ble_eq_true rfl⟩ (pw_atX 0 rfl) rfl rfl rfl (Nat.le_of_ble_eq_true rfl) ⟨Nat.le_of_ble_eq_true rfl, Nat.le_of_ble_eq_true rfl⟩ [0, 1, 2, 3, 4, 5, 6, 7, 8, 9, 10, 11, 12, 13, 14, 15] [] [0, 1, 2, 3, 4, 5, 6, 7, 8, 9, 10, 11, 12, 13, 14, 15] rfl rfl rfl rfl (by decide) rfl rfl dX5_event_273 (pc2 := 276) rfl rfl ?_
  generalize en1_ : ((m_X5_reckon c5 T5 p 35).2.1) = n1_
  generalize en2_ : ((m_X5_reckon c5 T5 p 35).2.2) = n2_
  refine pk_topi (fun n3_ en3_ => ?_)
  refine pk_if_ne (tgt := 296) C dX5_event_276 (by decide) (pc2 := 279) rfl (fun h1_ => ?_) (fun h1_ => ?_)
  ·
    refine pk_aload_n C 0 dX5_event_296 rfl rfl (pc2 := 297) rfl ?_
    refine pk_get (v := .int (M_ev n1_)) C i5_ (pw_atX 0 rfl) (ci := 5) rfl 11 (by decide) w0_ rfl rfl dX5_event_297 (pc2 := 300) rfl ?_
    refine pk_iconst (v := 1) C dX5_event_300 (by decide) (pc2 := 301) rfl ?_
    refine pk_isub C dX5_event_301 (pc2 := 302) rfl ?_
    subst en1_ en2_ en3_
    unfold m_X5_event_5 at hR
    try rw [if_neg h1_] at hR
    subst hR
    exact pr_int (ty := .int) C hE rfl rfl (po_d_rfl rfl rfl) dX5_event_302
  ·
    refine pk_aload_n C 0 dX5_event_279 rfl rfl (pc2 := 280) rfl ?_
    refine pk_aload_n C 0 dX5_event_280 rfl rfl (pc2 := 281) rfl ?_
    refine pk_get (v := .int (M_ev n1_)) C i5_ (pw_atX 0 rfl) (ci := 5) rfl 11 (by decide) w0_ rfl rfl dX5_event_281 (pc2 := 284) rfl ?_
    refine pk_iconst (v := 1) C dX5_event_284 (by decide) (pc2 := 285) rfl ?_
    refine pk_isub C dX5_event_285 (pc2 := 286) rfl ?_
    refine pk_topi (fun n4_ en4_ => ?_)
    refine pk_putX (X' := ((m, kM rf (M_cd n1_) (M_pt n1_) (M_mn n1_) n4_ (M_co n1_) (M_al n1_) (M_re n1_) (M_lo n1_) (M_rs n1_) (M_li n1_) (M_he n1_) (M_go n1_) (M_sp n1_) (M_ba n1_) (M_le n1_) (M_lf n1_) (M_mo n1_) (M_un n1_) (M_ch n1_) (M_lc n1_) (M_ac n1_) (M_bd n1_)) :: mT (zG Z) rf n2_)) C i5_ tyX5_ok nmX5 0 rfl (ci := 5) rfl 11 (by decide) w0_ rfl rfl rfl rfl rfl (Nat.le_of_ble_eq_true rfl) rfl dX5_event_286 (pc2 := 289) rfl ?_
    refine pk_aload_n C 0 dX5_event_289 rfl rfl (pc2 := 290) rfl ?_
    refine pk_iconst (v := 2) C dX5_event_290 (by decide) (pc2 := 291) rfl ?_
    refine pk_putX (X' := ((m, kM rf 2 (M_pt n1_) (M_mn n1_) n4_ (M_co n1_) (M_al n1_) (M_re n1_) (M_lo n1_) (M_rs n1_) (M_li n1_) (M_he n1_) (M_go n1_) (M_sp n1_) (M_ba n1_) (M_le n1_) (M_lf n1_) (M_mo n1_) (M_un n1_) (M_ch n1_) (M_lc n1_) (M_ac n1_) (M_bd n1_)) :: mT (zG Z) rf n2_)) C i5_ tyX5_ok nmX5 0 rfl (ci := 5) rfl 0 (by decide) w1_ rfl rfl rfl rfl rfl (Nat.le_of_ble_eq_true rfl) rfl dX5_event_291 (pc2 := 294) rfl ?_
    refine pk_iconst (v := 0) C dX5_event_294 (by decide) (pc2 := 295) rfl ?_
    refine pw_conv (X' := (mX (zG Z) m rf (M_mk 2 (M_pt n1_) (M_mn n1_) n4_ (M_co n1_) (M_al n1_) (M_re n1_) (M_lo n1_) (M_rs n1_) (M_li n1_) (M_he n1_) (M_go n1_) (M_sp n1_) (M_ba n1_) (M_le n1_) (M_lf n1_) (M_mo n1_) (M_un n1_) (M_ch n1_) (M_lc n1_) (M_ac n1_) (M_bd n1_)) n2_)) mX_mk ?_
    subst en1_ en2_ en3_ en4_
    unfold m_X5_event_5 at hR
    try rw [if_pos h1_] at hR
    subst hR
    exact pr_int (ty := .int) C hE rfl rfl (po_d_rfl rfl rfl) dX5_event_295
set_option maxRecDepth 100000 in
set_option maxHeartbeats 2000000 in
theorem t4_X5_event {Z : pw_Z} {Q : State → Prop} {L : List Nat} {F : Nat → va_E} {m : Nat} {rf : Nat → Nat} {NP NE NM : Nat} {c : MR} {T : TR} {p : Int32} {mm : Int32} {ki : Int32} {v : Int64} {n : Int32} {gd : Int32} {gd2 : Int32} {gd3 : Int32} {c4 : MR} (C : pw_C Z cX5_event 8 RX5 wsX5_event ⟨6, 0, 0, 140⟩ (some .int)) {X9 : va_W} {R : Int32 × MR × TR} (hE : pw_End Z Q X9 L F (po_d (some (.int (R.1))) (mX (zG Z) m rf (R.2.1) (R.2.2)) L F) 0 0) (hri : RI c T NP NE NM) (hg1 : ¬ gd = 0 → ∃ a, a < NP ∧ p = nI a) (hg2 : ¬ gd2 = 0 → ¬ gd = 0) (hg3 : ¬ gd3 = 0 → ¬ gd2 = 0 ∧ (ki = 1 → 1 ≤ n.toInt ∧ n.toInt ≤ 36)) (hcd : M_cd c4 ≤ 0 → (∃ a, a < NP ∧ p = nI a) ∧ (ki = 1 → 1 ≤ n.toInt ∧ n.toInt ≤ 36) ∧ ¬ M_ev c = 40) (hri1 : RI c4 T NP NE NM) (hR : m_X5_event_4 c T p mm ki v n gd gd2 gd3 c4 = R) : PW Z (mX (zG Z) m rf c4 T) L F 0 0 Q 196 [(0, .ref m), (1, .int p), (2, .int mm), (3, .int ki), (4, .long v), (6, .int n)] [] := by
  have i5_ : ∀ w ∈ wsX50, w ∈ wsX5_event := by decide +kernel
  have w0_ : Cond.fieldLink RX5 56 "AgedAssetsModel" "code" "I" ∈ wsX5_event := by decide +kernel
  have w1_ : Cond.fieldLink RX5 35 "AgedAssetsModel" "of" "[I" ∈ wsX5_event := by decide +kernel
  have w2_ : Cond.fieldLink RX5 72 "AgedAssetsModel" "events" "I" ∈ wsX5_event := by decide +kernel
  have w3_ : Cond.fieldLink RX5 38 "AgedAssetsModel" "when" "[I" ∈ wsX5_event := by decide +kernel
  have w4_ : Cond.fieldLink RX5 41 "AgedAssetsModel" "kinds" "[I" ∈ wsX5_event := by decide +kernel
  have w5_ : Cond.fieldLink RX5 44 "AgedAssetsModel" "amounts" "[J" ∈ wsX5_event := by decide +kernel
  have w6_ : Cond.fieldLink RX5 47 "AgedAssetsModel" "numbers" "[I" ∈ wsX5_event := by decide +kernel
  refine pk_aload_n C 0 dX5_event_196 rfl rfl (pc2 := 197) rfl ?_
  refine pk_get (v := .int (M_cd c4)) C i5_ (pw_atX 0 rfl) (ci := 5) rfl 0 (by decide) w0_ rfl rfl dX5_event_197 (pc2 := 200) rfl ?_
  refine pk_if_le (tgt := 205) C dX5_event_200 (by decide) (pc2 := 203) rfl (fun h1_ => ?_) (fun h1_ => ?_)
  ·
    obtain ⟨⟨a_, ha_, hpa_⟩, hk_, hne_⟩ := hcd h1_
    have hev40 : vp_in (M_ev c4) 40 := by rw [hri1.2.1.2]; exact vp_in_nI (ev_lt hri.2.1.1 hri.2.1.2 hne_) (by decide)
    refine pk_aload_n C 0 dX5_event_205 rfl rfl (pc2 := 206) rfl ?_
    refine pk_get (v := .ref (rf 8)) C i5_ (pw_atX 0 rfl) (ci := 5) rfl 12 (by decide) w1_ rfl rfl dX5_event_206 (pc2 := 209) rfl ?_
    refine pk_aload_n C 0 dX5_event_209 rfl rfl (pc2 := 210) rfl ?_
    refine pk_get (v := .int (M_ev c4)) C i5_ (pw_atX 0 rfl) (ci := 5) rfl 11 (by decide) w2_ rfl rfl dX5_event_210 (pc2 := 213) rfl ?_
    refine pk_iload_n C 1 dX5_event_213 rfl rfl (pc2 := 214) rfl ?_
    refine pk_iconst (v := 1) C dX5_event_214 (by decide) (pc2 := 215) rfl ?_
    refine pk_iadd C dX5_event_215 (pc2 := 216) rfl ?_
    refine pk_topi (fun n1_ en1_ => ?_)
    refine pk_iastX (X' := (mX (zG Z) m rf c4 (T_s_of T (upd (T_of T) (Int32.toNatClampNeg (M_ev c4)) n1_)))) C 9 rfl hev40 mT_s_of dX5_event_216 (pc2 := 217) rfl ?_
    generalize en2_ : (T_s_of T (upd (T_of T) (Int32.toNatClampNeg (M_ev c4)) n1_)) = n2_
    refine pk_aload_n C 0 dX5_event_217 rfl rfl (pc2 := 218) rfl ?_
    refine pk_get (v := .ref (rf 9)) C i5_ (pw_atX 0 rfl) (ci := 5) rfl 13 (by decide) w3_ rfl rfl dX5_event_218 (pc2 := 221) rfl ?_
    refine pk_aload_n C 0 dX5_event_221 rfl rfl (pc2 := 222) rfl ?_
    refine pk_get (v := .int (M_ev c4)) C i5_ (pw_atX 0 rfl) (ci := 5) rfl 11 (by decide) w2_ rfl rfl dX5_event_222 (pc2 := 225) rfl ?_
    refine pk_iload_n C 2 dX5_event_225 rfl rfl (pc2 := 226) rfl ?_
    refine pk_iastX (X' := (mX (zG Z) m rf c4 (T_s_wh n2_ (upd (T_wh n2_) (Int32.toNatClampNeg (M_ev c4)) mm)))) C 10 rfl hev40 mT_s_wh dX5_event_226 (pc2 := 227) rfl ?_
    generalize en3_ : (T_s_wh n2_ (upd (T_wh n2_) (Int32.toNatClampNeg (M_ev c4)) mm)) = n3_
    refine pk_aload_n C 0 dX5_event_227 rfl rfl (pc2 := 228) rfl ?_
    refine pk_get (v := .ref (rf 10)) C i5_ (pw_atX 0 rfl) (ci := 5) rfl 14 (by decide) w4_ rfl rfl dX5_event_228 (pc2 := 231) rfl ?_
    refine pk_aload_n C 0 dX5_event_231 rfl rfl (pc2 := 232) rfl ?_
    refine pk_get (v := .int (M_ev c4)) C i5_ (pw_atX 0 rfl) (ci := 5) rfl 11 (by decide) w2_ rfl rfl dX5_event_232 (pc2 := 235) rfl ?_
    refine pk_iload_n C 3 dX5_event_235 rfl rfl (pc2 := 236) rfl ?_
    refine pk_iastX (X' := (mX (zG Z) m rf c4 (T_s_ki n3_ (upd (T_ki n3_) (Int32.toNatClampNeg (M_ev c4)) ki)))) C 11 rfl hev40 mT_s_ki dX5_event_236 (pc2 := 237) rfl ?_
    generalize en4_ : (T_s_ki n3_ (upd (T_ki n3_) (Int32.toNatClampNeg (M_ev c4)) ki)) = n4_
    refine pk_aload_n C 0 dX5_event_237 rfl rfl (pc2 := 238) rfl ?_
    refine pk_get (v := .ref (rf 11)) C i5_ (pw_atX 0 rfl) (ci := 5) rfl 15 (by decide) w5_ rfl rfl dX5_event_238 (pc2 := 241) rfl ?_
    refine pk_aload_n C 0 dX5_event_241 rfl rfl (pc2 := 242) rfl ?_
    refine pk_get (v := .int (M_ev c4)) C i5_ (pw_atX 0 rfl) (ci := 5) rfl 11 (by decide) w2_ rfl rfl dX5_event_242 (pc2 := 245) rfl ?_
    refine pk_lload C 4 dX5_event_245 rfl (pc2 := 247) rfl ?_
    refine pk_lastX (X' := (mX (zG Z) m rf c4 (T_s_am n4_ (vp_updL (T_am n4_) (Int32.toNatClampNeg (M_ev c4)) v)))) C 12 rfl hev40 mT_s_am dX5_event_247 (pc2 := 248) rfl ?_
    generalize en5_ : (T_s_am n4_ (vp_updL (T_am n4_) (Int32.toNatClampNeg (M_ev c4)) v)) = n5_
    refine pk_aload_n C 0 dX5_event_248 rfl rfl (pc2 := 249) rfl ?_
    refine pk_get (v := .ref (rf 12)) C i5_ (pw_atX 0 rfl) (ci := 5) rfl 16 (by decide) w6_ rfl rfl dX5_event_249 (pc2 := 252) rfl ?_
    refine pk_aload_n C 0 dX5_event_252 rfl rfl (pc2 := 253) rfl ?_
    refine pk_get (v := .int (M_ev c4)) C i5_ (pw_atX 0 rfl) (ci := 5) rfl 11 (by decide) w2_ rfl rfl dX5_event_253 (pc2 := 256) rfl ?_
    refine pk_iload C 5 dX5_event_256 rfl (pc2 := 258) rfl ?_
    refine pk_iastX (X' := (mX (zG Z) m rf c4 (T_s_nu n5_ (upd (T_nu n5_) (Int32.toNatClampNeg (M_ev c4)) n)))) C 13 rfl hev40 mT_s_nu dX5_event_258 (pc2 := 259) rfl ?_
    generalize en6_ : (T_s_nu n5_ (upd (T_nu n5_) (Int32.toNatClampNeg (M_ev c4)) n)) = n6_
    refine pk_aload_n C 0 dX5_event_259 rfl rfl (pc2 := 260) rfl ?_
    refine pk_aload_n C 0 dX5_event_260 rfl rfl (pc2 := 261) rfl ?_
    refine pk_get (v := .int (M_ev c4)) C i5_ (pw_atX 0 rfl) (ci := 5) rfl 11 (by decide) w2_ rfl rfl dX5_event_261 (pc2 := 264) rfl ?_
    refine pk_iconst (v := 1) C dX5_event_264 (by decide) (pc2 := 265) rfl ?_
    refine pk_iadd C dX5_event_265 (pc2 := 266) rfl ?_
    refine pk_topi (fun n7_ en7_ => ?_)
    refine pk_putX (X' := ((m, kM rf (M_cd c4) (M_pt c4) (M_mn c4) n7_ (M_co c4) (M_al c4) (M_re c4) (M_lo c4) (M_rs c4) (M_li c4) (M_he c4) (M_go c4) (M_sp c4) (M_ba c4) (M_le c4) (M_lf c4) (M_mo c4) (M_un c4) (M_ch c4) (M_lc c4) (M_ac c4) (M_bd c4)) :: mT (zG Z) rf n6_)) C i5_ tyX5_ok nmX5 0 rfl (ci := 5) rfl 11 (by decide) w2_ rfl rfl rfl rfl rfl (Nat.le_of_ble_eq_true rfl) rfl dX5_event_266 (pc2 := 269) rfl ?_
    refine pw_conv (X' := (mX (zG Z) m rf (M_mk (M_cd c4) (M_pt c4) (M_mn c4) n7_ (M_co c4) (M_al c4) (M_re c4) (M_lo c4) (M_rs c4) (M_li c4) (M_he c4) (M_go c4) (M_sp c4) (M_ba c4) (M_le c4) (M_lf c4) (M_mo c4) (M_un c4) (M_ch c4) (M_lc c4) (M_ac c4) (M_bd c4)) n6_)) mX_mk ?_
    refine pw_lv [0, 1] (lv' := [(0, .ref m), (1, .int p)]) rfl ?_
    have hgo_ : GO (M_ev (M_mk (M_cd c4) (M_pt c4) (M_mn c4) n7_ (M_co c4) (M_al c4) (M_re c4) (M_lo c4) (M_rs c4) (M_li c4) (M_he c4) (M_go c4) (M_sp c4) (M_ba c4) (M_le c4) (M_lf c4) (M_mo c4) (M_un c4) (M_ch c4) (M_lc c4) (M_ac c4) (M_bd c4))) n6_ p 35 := by subst en1_ en2_ en3_ en4_ en5_ en6_ en7_; rw [M_ev_mk]; exact RI_goE hri1 ha_ hpa_ (by decide) (ev_lt hri.2.1.1 hri.2.1.2 hne_) hk_ (by simp only [T_fi_s_of, T_fi_s_wh, T_fi_s_ki, T_fi_s_am, T_fi_s_nu]) (by simp only [T_li_s_of, T_li_s_wh, T_li_s_ki, T_li_s_am, T_li_s_nu]) (by simp only [T_ki_s_of, T_ki_s_wh, T_ki_s_ki, T_ki_s_am, T_ki_s_nu]) (by simp only [T_nu_s_of, T_nu_s_wh, T_nu_s_ki, T_nu_s_am, T_nu_s_nu]) rfl
    subst en1_ en2_ en3_ en4_ en5_ en6_ en7_
    unfold m_X5_event_4 at hR
    try rw [if_pos h1_] at hR
    exact t5_X5_event C hE hri hg1 hg2 hg3 hcd hri1 hgo_ hR
  ·
    refine pk_iconst (v := 0) C dX5_event_203 (by decide) (pc2 := 204) rfl ?_
    unfold m_X5_event_4 at hR
    try rw [if_neg h1_] at hR
    subst hR
    exact pr_int (ty := .int) C hE rfl rfl (po_d_rfl rfl rfl) dX5_event_204
set_option maxRecDepth 100000 in
set_option maxHeartbeats 2000000 in
theorem t3_X5_event {Z : pw_Z} {Q : State → Prop} {L : List Nat} {F : Nat → va_E} {m : Nat} {rf : Nat → Nat} {NP NE NM : Nat} {c : MR} {T : TR} {p : Int32} {mm : Int32} {ki : Int32} {v : Int64} {n : Int32} {gd : Int32} {gd2 : Int32} {gd3 : Int32} (C : pw_C Z cX5_event 8 RX5 wsX5_event ⟨6, 0, 0, 140⟩ (some .int)) {X9 : va_W} {R : Int32 × MR × TR} (hE : pw_End Z Q X9 L F (po_d (some (.int (R.1))) (mX (zG Z) m rf (R.2.1) (R.2.2)) L F) 0 0) (hri : RI c T NP NE NM) (hg1 : ¬ gd = 0 → ∃ a, a < NP ∧ p = nI a) (hg2 : ¬ gd2 = 0 → ¬ gd = 0) (hg3 : ¬ gd3 = 0 → ¬ gd2 = 0 ∧ (ki = 1 → 1 ≤ n.toInt ∧ n.toInt ≤ 36)) (hR : m_X5_event_3 c T p mm ki v n gd gd2 gd3 = R) : PW Z (mX (zG Z) m rf c T) L F 0 0 Q 150 [(0, .ref m), (1, .int p), (2, .int mm), (3, .int ki), (4, .long v), (6, .int n), (7, .int gd3)] [] := by
  refine s3_X5_event C hri hg1 hg2 hg3 ?_
  exact t4_X5_event C hE hri hg1 hg2 hg3 (fun h => ⟨hg1 (hg2 (hg3 ((f3_X5_event_h ..).1 h).1).1), (hg3 ((f3_X5_event_h ..).1 h).1).2, ((f3_X5_event_h ..).1 h).2⟩) (RI_nc hri (f3_X5_event_h ..).2) hR
set_option maxRecDepth 100000 in
set_option maxHeartbeats 2000000 in
theorem t2_X5_event {Z : pw_Z} {Q : State → Prop} {L : List Nat} {F : Nat → va_E} {m : Nat} {rf : Nat → Nat} {NP NE NM : Nat} {c : MR} {T : TR} {p : Int32} {mm : Int32} {ki : Int32} {v : Int64} {n : Int32} {gd : Int32} {gd2 : Int32} (C : pw_C Z cX5_event 8 RX5 wsX5_event ⟨6, 0, 0, 140⟩ (some .int)) {X9 : va_W} {R : Int32 × MR × TR} (hE : pw_End Z Q X9 L F (po_d (some (.int (R.1))) (mX (zG Z) m rf (R.2.1) (R.2.2)) L F) 0 0) (hri : RI c T NP NE NM) (hg1 : ¬ gd = 0 → ∃ a, a < NP ∧ p = nI a) (hg2 : ¬ gd2 = 0 → ¬ gd = 0) (hR : m_X5_event_2 c T p mm ki v n gd gd2 = R) : PW Z (mX (zG Z) m rf c T) L F 0 0 Q 91 [(0, .ref m), (1, .int p), (2, .int mm), (3, .int ki), (4, .long v), (6, .int n), (7, .int gd2)] [] := by
  refine s2_X5_event C hri hg1 hg2 ?_
  exact t3_X5_event C hE hri hg1 hg2 f2_X5_event_h hR
set_option maxRecDepth 100000 in
set_option maxHeartbeats 2000000 in
theorem t1_X5_event {Z : pw_Z} {Q : State → Prop} {L : List Nat} {F : Nat → va_E} {m : Nat} {rf : Nat → Nat} {NP NE NM : Nat} {c : MR} {T : TR} {p : Int32} {mm : Int32} {ki : Int32} {v : Int64} {n : Int32} {gd : Int32} (C : pw_C Z cX5_event 8 RX5 wsX5_event ⟨6, 0, 0, 140⟩ (some .int)) {X9 : va_W} {R : Int32 × MR × TR} (hE : pw_End Z Q X9 L F (po_d (some (.int (R.1))) (mX (zG Z) m rf (R.2.1) (R.2.2)) L F) 0 0) (hri : RI c T NP NE NM) (hg1 : ¬ gd = 0 → ∃ a, a < NP ∧ p = nI a) (hR : m_X5_event_1 c T p mm ki v n gd = R) : PW Z (mX (zG Z) m rf c T) L F 0 0 Q 44 [(0, .ref m), (1, .int p), (2, .int mm), (3, .int ki), (4, .long v), (6, .int n), (7, .int gd)] [] := by
  refine s1_X5_event C hri hg1 ?_
  exact t2_X5_event C hE hri hg1 f1_X5_event_h hR
set_option maxRecDepth 100000 in
set_option maxHeartbeats 2000000 in
theorem t0_X5_event {Z : pw_Z} {Q : State → Prop} {L : List Nat} {F : Nat → va_E} {m : Nat} {rf : Nat → Nat} {NP NE NM : Nat} {c : MR} {T : TR} {p : Int32} {mm : Int32} {ki : Int32} {v : Int64} {n : Int32} (C : pw_C Z cX5_event 8 RX5 wsX5_event ⟨6, 0, 0, 140⟩ (some .int)) {X9 : va_W} {R : Int32 × MR × TR} (hE : pw_End Z Q X9 L F (po_d (some (.int (R.1))) (mX (zG Z) m rf (R.2.1) (R.2.2)) L F) 0 0) (hri : RI c T NP NE NM) (hR : m_X5_event_0 c T p mm ki v n = R) : PW Z (mX (zG Z) m rf c T) L F 0 0 Q 0 [(0, .ref m), (1, .int p), (2, .int mm), (3, .int ki), (4, .long v), (6, .int n)] [] := by
  refine s0_X5_event C hri ?_
  exact t1_X5_event C hE hri (f0_X5_event_h hri) hR
set_option maxRecDepth 100000 in
set_option maxHeartbeats 2000000 in
theorem c_X5_event (l : Launch) (G : pw_G) (L : List Nat) (F : Nat → va_E) (m : Nat) (rf : Nat → Nat) (NP NE NM : Nat) (c : MR) (T : TR) (p : Int32) (mm : Int32) (ki : Int32) (v : Int64) (n : Int32) (hri : RI c T NP NE NM) : PM l yX5_event wsX5_event ⟨6, 0, 0, 140⟩ G [.ref m, .int p, .int mm, .int ki, .long v, .int n] (mX G m rf c T) L F 0 0 (po_d (some (.int ((m_X5_event c T p mm ki v n).1))) (mX G m rf ((m_X5_event c T p mm ki v n).2.1) ((m_X5_event c T p mm ki v n).2.2)) L F) := by
  refine pm_entry (by decide) rfl rfl (Nat.le_of_ble_eq_true rfl) ?_
  intro Z Q C hl0 hG0 hnm hE
  subst hl0
  subst hG0
  exact t0_X5_event C hE hri rfl

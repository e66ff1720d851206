def f0_X5_part (c : MR) (T : TR) (co : Int64) (rs : Int64) (mm : Int32) (li : Int32) (me : Int32) (ra : Int32) : Int32 :=
  if (m_X5_isIn co 1 (1000000000)) = 0 then 0 else if (m_X5_isIn rs 0 co) = 0 then 0 else if (m_X5_isMonth mm) = 0 then 0 else if (m_X5_isIn (Int32.toInt64 li) 1 (36)) = 0 then 0 else if (m_X5_isIn (Int32.toInt64 me) 0 (3)) = 0 then 0 else if me = 1 then if (m_X5_isIn (Int32.toInt64 ra) 1 (1000000)) = 0 then 0 else 1 else if me = 3 then if (m_X5_isIn (Int32.toInt64 ra) 1 (1000000)) = 0 then 0 else 1 else if ra = 0 then 1 else 0
set_option maxRecDepth 100000 in
set_option maxHeartbeats 2000000 in
theorem s0_X5_part {Z : pw_Z} {Q : State → Prop} {L : List Nat} {F : Nat → va_E} {m : Nat} {rf : Nat → Nat} {NP : Nat} {c : MR} {T : TR} {co : Int64} {rs : Int64} {mm : Int32} {li : Int32} {me : Int32} {ra : Int32} (C : pw_C Z cX5_part 10 RX5 wsX5_part ⟨1, 0, 0, 25⟩ (some .int)) (hNP : NP ≤ 6 ∧ M_pt c = nI NP) (k : PW Z (mX (zG Z) m rf c T) L F 0 0 Q 106 [(0, .ref m), (1, .long co), (3, .long rs), (5, .int mm), (6, .int li), (7, .int me), (8, .int ra), (9, .int (f0_X5_part c T co rs mm li me ra))] []) : PW Z (mX (zG Z) m rf c T) L F 0 0 Q 0 [(0, .ref m), (1, .long co), (3, .long rs), (5, .int mm), (6, .int li), (7, .int me), (8, .int ra)] [] := by
  have w0_ : Cond.constantLong RX5 188 (1000000000) ∈ wsX5_part := by decide +kernel
  have w1_ : Cond.constantLong RX5 198 (36) ∈ wsX5_part := by decide +kernel
  have w2_ : Cond.constantLong RX5 200 (3) ∈ wsX5_part := by decide +kernel
  have w3_ : Cond.constantLong RX5 119 (1000000) ∈ wsX5_part := by decide +kernel
  refine pk_lload_n C 1 dX5_part_0 rfl rfl (pc2 := 1) rfl ?_
  refine pk_lconst (v := 1) C dX5_part_1 (by decide) (pc2 := 2) rfl ?_
  refine pk_ldc2 C w0_ dX5_part_2 (pc2 := 5) rfl ?_
  refine pk_dS (cx := []) (wr := (mX (zG Z) m rf c T)) (X2 := (mX (zG Z) m rf c T)) (st := []) (st2 := [.int (m_X5_isIn co 1 (1000000000))]) (As := [.long co, .long 1, .long (1000000000)]) C (c_X5_isIn (zl Z) (zG Z) L F co 1 (1000000000)) gX5_part_X5_isIn rfl rfl rfl 3 (by decide +kernel) ⟨Nat.le_of_ble_eq_true rfl, Nat.le_of_ble_eq_true rfl⟩ rfl rfl (Nat.le_of_ble_eq_true rfl) ⟨Nat.le_of_ble_eq_true rfl, Nat.le_of_ble_eq_true rfl⟩ [] [0, 1, 2, 3, 4, 5, 6, 7, 8, 9, 10, 11, 12, 13, 14, 15] [0, 1, 2, 3, 4, 5, 6, 7, 8, 9, 10, 11, 12, 13, 14, 15] rfl rfl rfl rfl (by decide) rfl rfl dX5_part_5 (pc2 := 8) rfl rfl ?_
  refine pk_topi (fun n1_ en1_ => ?_)
  refine pk_if_eq (tgt := 58) C dX5_part_8 (by decide) (pc2 := 11) rfl (fun h1_ => ?_) (fun h1_ => ?_)
  ·
    refine pk_iconst (v := 0) C dX5_part_58 (by decide) (pc2 := 59) rfl ?_
    refine pk_istore (lv' := [(9, .int 0), (0, .ref m), (1, .long co), (3, .long rs), (5, .int mm), (6, .int li), (7, .int me), (8, .int ra)]) C dX5_part_59 (by decide) rfl (pc2 := 61) rfl ?_
    refine pk_iload C 0 dX5_part_61 rfl (pc2 := 63) rfl ?_
    refine pk_if_eq (tgt := 103) C dX5_part_63 (by decide) (pc2 := 66) rfl (fun h2_ => ?_) (fun h2_ => ?_)
    rotate_left
    · exact absurd (by decide) h2_
    refine pk_iconst (v := 0) C dX5_part_103 (by decide) (pc2 := 104) rfl ?_
    refine pk_istore (lv' := [(9, .int 0), (0, .ref m), (1, .long co), (3, .long rs), (5, .int mm), (6, .int li), (7, .int me), (8, .int ra)]) C dX5_part_104 (by decide) rfl (pc2 := 106) rfl ?_
    refine pw_lv [1, 2, 3, 4, 5, 6, 7, 0] (lv' := [(0, .ref m), (1, .long co), (3, .long rs), (5, .int mm), (6, .int li), (7, .int me), (8, .int ra), (9, .int 0)]) rfl ?_
    subst en1_
    have k9 := k
    unfold f0_X5_part at k9
    try rw [if_pos h1_] at k9
    exact k9
  ·
    refine pk_lload_n C 2 dX5_part_11 rfl rfl (pc2 := 12) rfl ?_
    refine pk_lconst (v := 0) C dX5_part_12 (by decide) (pc2 := 13) rfl ?_
    refine pk_lload_n C 1 dX5_part_13 rfl rfl (pc2 := 14) rfl ?_
    refine pk_dS (cx := []) (wr := (mX (zG Z) m rf c T)) (X2 := (mX (zG Z) m rf c T)) (st := []) (st2 := [.int (m_X5_isIn rs 0 co)]) (As := [.long rs, .long 0, .long co]) C (c_X5_isIn (zl Z) (zG Z) L F rs 0 co) gX5_part_X5_isIn rfl rfl rfl 3 (by decide +kernel) ⟨Nat.le_of_ble_eq_true rfl, Nat.le_of_ble_eq_true rfl⟩ rfl rfl (Nat.le_of_ble_eq_true rfl) ⟨Nat.le_of_ble_eq_true rfl, Nat.le_of_ble_eq_true rfl⟩ [] [0, 1, 2, 3, 4, 5, 6, 7, 8, 9, 10, 11, 12, 13, 14, 15] [0, 1, 2, 3, 4, 5, 6, 7, 8, 9, 10, 11, 12, 13, 14, 15] rfl rfl rfl rfl (by decide) rfl rfl dX5_part_14 (pc2 := 17) rfl rfl ?_
    refine pk_topi (fun n2_ en2_ => ?_)
    refine pk_if_eq (tgt := 58) C dX5_part_17 (by decide) (pc2 := 20) rfl (fun h3_ => ?_) (fun h3_ => ?_)
    ·
      refine pk_iconst (v := 0) C dX5_part_58 (by decide) (pc2 := 59) rfl ?_
      refine pk_istore (lv' := [(9, .int 0), (0, .ref m), (1, .long co), (3, .long rs), (5, .int mm), (6, .int li), (7, .int me), (8, .int ra)]) C dX5_part_59 (by decide) rfl (pc2 := 61) rfl ?_
      refine pk_iload C 0 dX5_part_61 rfl (pc2 := 63) rfl ?_
      refine pk_if_eq (tgt := 103) C dX5_part_63 (by decide) (pc2 := 66) rfl (fun h4_ => ?_) (fun h4_ => ?_)
      rotate_left
      · exact absurd (by decide) h4_
      refine pk_iconst (v := 0) C dX5_part_103 (by decide) (pc2 := 104) rfl ?_
      refine pk_istore (lv' := [(9, .int 0), (0, .ref m), (1, .long co), (3, .long rs), (5, .int mm), (6, .int li), (7, .int me), (8, .int ra)]) C dX5_part_104 (by decide) rfl (pc2 := 106) rfl ?_
      refine pw_lv [1, 2, 3, 4, 5, 6, 7, 0] (lv' := [(0, .ref m), (1, .long co), (3, .long rs), (5, .int mm), (6, .int li), (7, .int me), (8, .int ra), (9, .int 0)]) rfl ?_
      subst en1_ en2_
      have k9 := k
      unfold f0_X5_part at k9
      try rw [if_neg h1_] at k9
      try rw [if_pos h3_] at k9
      exact k9
    ·
      refine pk_iload C 3 dX5_part_20 rfl (pc2 := 22) rfl ?_
      refine pk_dS (cx := []) (wr := (mX (zG Z) m rf c T)) (X2 := (mX (zG Z) m rf c T)) (st := []) (st2 := [.int (m_X5_isMonth mm)]) (As := [.int mm]) C (c_X5_isMonth (zl Z) (zG Z) L F mm) gX5_part_X5_isMonth rfl rfl rfl 1 (by decide +kernel) ⟨Nat.le_of_ble_eq_true rfl, Nat.le_of_ble_eq_true rfl⟩ rfl rfl (Nat.le_of_ble_eq_true rfl) ⟨Nat.le_of_ble_eq_true rfl, Nat.le_of_ble_eq_true rfl⟩ [] [0, 1, 2, 3, 4, 5, 6, 7, 8, 9, 10, 11, 12, 13, 14, 15] [0, 1, 2, 3, 4, 5, 6, 7, 8, 9, 10, 11, 12, 13, 14, 15] rfl rfl rfl rfl (by decide) rfl rfl dX5_part_22 (pc2 := 25) rfl rfl ?_
      refine pk_topi (fun n3_ en3_ => ?_)
      refine pk_if_eq (tgt := 58) C dX5_part_25 (by decide) (pc2 := 28) rfl (fun h5_ => ?_) (fun h5_ => ?_)
      ·
        refine pk_iconst (v := 0) C dX5_part_58 (by decide) (pc2 := 59) rfl ?_
        refine pk_istore (lv' := [(9, .int 0), (0, .ref m), (1, .long co), (3, .long rs), (5, .int mm), (6, .int li), (7, .int me), (8, .int ra)]) C dX5_part_59 (by decide) rfl (pc2 := 61) rfl ?_
        refine pk_iload C 0 dX5_part_61 rfl (pc2 := 63) rfl ?_
        refine pk_if_eq (tgt := 103) C dX5_part_63 (by decide) (pc2 := 66) rfl (fun h6_ => ?_) (fun h6_ => ?_)
        rotate_left
        · exact absurd (by decide) h6_
        refine pk_iconst (v := 0) C dX5_part_103 (by decide) (pc2 := 104) rfl ?_
        refine pk_istore (lv' := [(9, .int 0), (0, .ref m), (1, .long co), (3, .long rs), (5, .int mm), (6, .int li), (7, .int me), (8, .int ra)]) C dX5_part_104 (by decide) rfl (pc2 := 106) rfl ?_
        refine pw_lv [1, 2, 3, 4, 5, 6, 7, 0] (lv' := [(0, .ref m), (1, .long co), (3, .long rs), (5, .int mm), (6, .int li), (7, .int me), (8, .int ra), (9, .int 0)]) rfl ?_
        subst en1_ en2_ en3_
        have k9 := k
        unfold f0_X5_part at k9
        try rw [if_neg h1_] at k9
        try rw [if_neg h3_] at k9
        try rw [if_pos h5_] at k9
        exact k9
      ·
        refine pk_iload C 4 dX5_part_28 rfl (pc2 := 30) rfl ?_
        refine pk_i2l C dX5_part_30 (pc2 := 31) rfl ?_
        refine pk_lconst (v := 1) C dX5_part_31 (by decide) (pc2 := 32) rfl ?_
        refine pk_ldc2 C w1_ dX5_part_32 (pc2 := 35) rfl ?_
        refine pk_dS (cx := []) (wr := (mX (zG Z) m rf c T)) (X2 := (mX (zG Z) m rf c T)) (st := []) (st2 := [.int (m_X5_isIn (Int32.toInt64 li) 1 (36))]) (As := [.long (Int32.toInt64 li), .long 1, .long (36)]) C (c_X5_isIn (zl Z) (zG Z) L F (Int32.toInt64 li) 1 (36)) gX5_part_X5_isIn rfl rfl rfl 3 (by decide +kernel) ⟨Nat.le_of_ble_eq_true rfl, Nat.le_of_ble_eq_true rfl⟩ rfl rfl (Nat.le_of_ble_eq_true rfl) ⟨Nat.le_of_ble_eq_true rfl, Nat.le_of_ble_eq_true rfl⟩ [] [0, 1, 2, 3, 4, 5, 6, 7, 8, 9, 10, 11, 12, 13, 14, 15] [0, 1, 2, 3, 4, 5, 6, 7, 8, 9, 10, 11, 12, 13, 14, 15] rfl rfl rfl rfl (by decide) rfl rfl dX5_part_35 (pc2 := 38) rfl rfl ?_
        refine pk_topi (fun n4_ en4_ => ?_)
        refine pk_if_eq (tgt := 58) C dX5_part_38 (by decide) (pc2 := 41) rfl (fun h7_ => ?_) (fun h7_ => ?_)
        ·
          refine pk_iconst (v := 0) C dX5_part_58 (by decide) (pc2 := 59) rfl ?_
          refine pk_istore (lv' := [(9, .int 0), (0, .ref m), (1, .long co), (3, .long rs), (5, .int mm), (6, .int li), (7, .int me), (8, .int ra)]) C dX5_part_59 (by decide) rfl (pc2 := 61) rfl ?_
          refine pk_iload C 0 dX5_part_61 rfl (pc2 := 63) rfl ?_
          refine pk_if_eq (tgt := 103) C dX5_part_63 (by decide) (pc2 := 66) rfl (fun h8_ => ?_) (fun h8_ => ?_)
          rotate_left
          · exact absurd (by decide) h8_
          refine pk_iconst (v := 0) C dX5_part_103 (by decide) (pc2 := 104) rfl ?_
          refine pk_istore (lv' := [(9, .int 0), (0, .ref m), (1, .long co), (3, .long rs), (5, .int mm), (6, .int li), (7, .int me), (8, .int ra)]) C dX5_part_104 (by decide) rfl (pc2 := 106) rfl ?_
          refine pw_lv [1, 2, 3, 4, 5, 6, 7, 0] (lv' := [(0, .ref m), (1, .long co), (3, .long rs), (5, .int mm), (6, .int li), (7, .int me), (8, .int ra), (9, .int 0)]) rfl ?_
          subst en1_ en2_ en3_ en4_
          have k9 := k
          unfold f0_X5_part at k9
          try rw [if_neg h1_] at k9
          try rw [if_neg h3_] at k9
          try rw [if_neg h5_] at k9
          try rw [if_pos h7_] at k9
          exact k9
        ·
          refine pk_iload C 5 dX5_part_41 rfl (pc2 := 43) rfl ?_
          refine pk_i2l C dX5_part_43 (pc2 := 44) rfl ?_
          refine pk_lconst (v := 0) C dX5_part_44 (by decide) (pc2 := 45) rfl ?_
          refine pk_ldc2 C w2_ dX5_part_45 (pc2 := 48) rfl ?_
          refine pk_dS (cx := []) (wr := (mX (zG Z) m rf c T)) (X2 := (mX (zG Z) m rf c T)) (st := []) (st2 := [.int (m_X5_isIn (Int32.toInt64 me) 0 (3))]) (As := [.long (Int32.toInt64 me), .long 0, .long (3)]) C (c_X5_isIn (zl Z) (zG Z) L F (Int32.toInt64 me) 0 (3)) gX5_part_X5_isIn rfl rfl rfl 3 (by decide +kernel) ⟨Nat.le_of_ble_eq_true rfl, Nat.le_of_ble_eq_true rfl⟩ rfl rfl (Nat.le_of_ble_eq_true rfl) ⟨Nat.le_of_ble_eq_true rfl, Nat.le_of_ble_eq_true rfl⟩ [] [0, 1, 2, 3, 4, 5, 6, 7, 8, 9, 10, 11, 12, 13, 14, 15] [0, 1, 2, 3, 4, 5, 6, 7, 8, 9, 10, 11, 12, 13, 14, 15] rfl rfl rfl rfl (by decide) rfl rfl dX5_part_48 (pc2 := 51) rfl rfl ?_
          refine pk_topi (fun n5_ en5_ => ?_)
          refine pk_if_eq (tgt := 58) C dX5_part_51 (by decide) (pc2 := 54) rfl (fun h9_ => ?_) (fun h9_ => ?_)
          ·
            refine pk_iconst (v := 0) C dX5_part_58 (by decide) (pc2 := 59) rfl ?_
            refine pk_istore (lv' := [(9, .int 0), (0, .ref m), (1, .long co), (3, .long rs), (5, .int mm), (6, .int li), (7, .int me), (8, .int ra)]) C dX5_part_59 (by decide) rfl (pc2 := 61) rfl ?_
            refine pk_iload C 0 dX5_part_61 rfl (pc2 := 63) rfl ?_
            refine pk_if_eq (tgt := 103) C dX5_part_63 (by decide) (pc2 := 66) rfl (fun h10_ => ?_) (fun h10_ => ?_)
            rotate_left
            · exact absurd (by decide) h10_
            refine pk_iconst (v := 0) C dX5_part_103 (by decide) (pc2 := 104) rfl ?_
            refine pk_istore (lv' := [(9, .int 0), (0, .ref m), (1, .long co), (3, .long rs), (5, .int mm), (6, .int li), (7, .int me), (8, .int ra)]) C dX5_part_104 (by decide) rfl (pc2 := 106) rfl ?_
            refine pw_lv [1, 2, 3, 4, 5, 6, 7, 0] (lv' := [(0, .ref m), (1, .long co), (3, .long rs), (5, .int mm), (6, .int li), (7, .int me), (8, .int ra), (9, .int 0)]) rfl ?_
            subst en1_ en2_ en3_ en4_ en5_
            have k9 := k
            unfold f0_X5_part at k9
            try rw [if_neg h1_] at k9
            try rw [if_neg h3_] at k9
            try rw [if_neg h5_] at k9
            try rw [if_neg h7_] at k9
            try rw [if_pos h9_] at k9
            exact k9
          ·
            refine pk_iconst (v := 1) C dX5_part_54 (by decide) (pc2 := 55) rfl ?_
            refine pk_goto (tgt := 59) C dX5_part_55 (by decide) ?_
            refine pk_istore (lv' := [(9, .int 1), (0, .ref m), (1, .long co), (3, .long rs), (5, .int mm), (6, .int li), (7, .int me), (8, .int ra)]) C dX5_part_59 (by decide) rfl (pc2 := 61) rfl ?_
            refine pk_iload C 0 dX5_part_61 rfl (pc2 := 63) rfl ?_
            refine pk_if_eq (tgt := 103) C dX5_part_63 (by decide) (pc2 := 66) rfl (fun h11_ => ?_) (fun h11_ => ?_)
            · exact absurd h11_ (by decide)
            refine pk_iload C 6 dX5_part_66 rfl (pc2 := 68) rfl ?_
            refine pk_iconst (v := 1) C dX5_part_68 (by decide) (pc2 := 69) rfl ?_
            refine pk_icmp_eq (tgt := 78) C dX5_part_69 (by decide) (pc2 := 72) rfl (fun h12_ => ?_) (fun h12_ => ?_)
            ·
              refine pk_iload C 7 dX5_part_78 rfl (pc2 := 80) rfl ?_
              refine pk_i2l C dX5_part_80 (pc2 := 81) rfl ?_
              refine pk_lconst (v := 1) C dX5_part_81 (by decide) (pc2 := 82) rfl ?_
              refine pk_ldc2 C w3_ dX5_part_82 (pc2 := 85) rfl ?_
              refine pk_dS (cx := []) (wr := (mX (zG Z) m rf c T)) (X2 := (mX (zG Z) m rf c T)) (st := []) (st2 := [.int (m_X5_isIn (Int32.toInt64 ra) 1 (1000000))]) (As := [.long (Int32.toInt64 ra), .long 1, .long (1000000)]) C (c_X5_isIn (zl Z) (zG Z) L F (Int32.toInt64 ra) 1 (1000000)) gX5_part_X5_isIn rfl rfl rfl 3 (by decide +kernel) ⟨Nat.le_of_ble_eq_true rfl, Nat.le_of_ble_eq_true rfl⟩ rfl rfl (Nat.le_of_ble_eq_true rfl) ⟨Nat.le_of_ble_eq_true rfl, Nat.le_of_ble_eq_true rfl⟩ [] [0, 1, 2, 3, 4, 5, 6, 7, 8, 9, 10, 11, 12, 13, 14, 15] [0, 1, 2, 3, 4, 5, 6, 7, 8, 9, 10, 11, 12, 13, 14, 15] rfl rfl rfl rfl (by decide) rfl rfl dX5_part_85 (pc2 := 88) rfl rfl ?_
              refine pk_topi (fun n6_ en6_ => ?_)
              refine pk_if_eq (tgt := 103) C dX5_part_88 (by decide) (pc2 := 91) rfl (fun h13_ => ?_) (fun h13_ => ?_)
              ·
                refine pk_iconst (v := 0) C dX5_part_103 (by decide) (pc2 := 104) rfl ?_
                refine pk_istore (lv' := [(9, .int 0), (0, .ref m), (1, .long co), (3, .long rs), (5, .int mm), (6, .int li), (7, .int me), (8, .int ra)]) C dX5_part_104 (by decide) rfl (pc2 := 106) rfl ?_
                refine pw_lv [1, 2, 3, 4, 5, 6, 7, 0] (lv' := [(0, .ref m), (1, .long co), (3, .long rs), (5, .int mm), (6, .int li), (7, .int me), (8, .int ra), (9, .int 0)]) rfl ?_
                subst en1_ en2_ en3_ en4_ en5_ en6_
                have k9 := k
                unfold f0_X5_part at k9
                try rw [if_neg h1_] at k9
                try rw [if_neg h3_] at k9
                try rw [if_neg h5_] at k9
                try rw [if_neg h7_] at k9
                try rw [if_neg h9_] at k9
                try rw [if_pos h12_] at k9
                try rw [if_pos h13_] at k9
                exact k9
              ·
                refine pk_goto (tgt := 99) C dX5_part_91 (by decide) ?_
                refine pk_iconst (v := 1) C dX5_part_99 (by decide) (pc2 := 100) rfl ?_
                refine pk_goto (tgt := 104) C dX5_part_100 (by decide) ?_
                refine pk_istore (lv' := [(9, .int 1), (0, .ref m), (1, .long co), (3, .long rs), (5, .int mm), (6, .int li), (7, .int me), (8, .int ra)]) C dX5_part_104 (by decide) rfl (pc2 := 106) rfl ?_
                refine pw_lv [1, 2, 3, 4, 5, 6, 7, 0] (lv' := [(0, .ref m), (1, .long co), (3, .long rs), (5, .int mm), (6, .int li), (7, .int me), (8, .int ra), (9, .int 1)]) rfl ?_
                subst en1_ en2_ en3_ en4_ en5_ en6_
                have k9 := k
                unfold f0_X5_part at k9
                try rw [if_neg h1_] at k9
                try rw [if_neg h3_] at k9
                try rw [if_neg h5_] at k9
                try rw [if_neg h7_] at k9
                try rw [if_neg h9_] at k9
                try rw [if_pos h12_] at k9
                try rw [if_neg h13_] at k9
                exact k9
            ·
              refine pk_iload C 6 dX5_part_72 rfl (pc2 := 74) rfl ?_
              refine pk_iconst (v := 3) C dX5_part_74 (by decide) (pc2 := 75) rfl ?_
              refine pk_icmp_ne (tgt := 94) C dX5_part_75 (by decide) (pc2 := 78) rfl (fun h14_ => ?_) (fun h14_ => ?_)
              ·
                refine pk_iload C 7 dX5_part_94 rfl (pc2 := 96) rfl ?_
                refine pk_if_ne (tgt := 103) C dX5_part_96 (by decide) (pc2 := 99) rfl (fun h15_ => ?_) (fun h15_ => ?_)
                ·
                  refine pk_iconst (v := 0) C dX5_part_103 (by decide) (pc2 := 104) rfl ?_
                  refine pk_istore (lv' := [(9, .int 0), (0, .ref m), (1, .long co), (3, .long rs), (5, .int mm), (6, .int li), (7, .int me), (8, .int ra)]) C dX5_part_104 (by decide) rfl (pc2 := 106) rfl ?_
                  refine pw_lv [1, 2, 3, 4, 5, 6, 7, 0] (lv' := [(0, .ref m), (1, .long co), (3, .long rs), (5, .int mm), (6, .int li), (7, .int me), (8, .int ra), (9, .int 0)]) rfl ?_
                  subst en1_ en2_ en3_ en4_ en5_
                  have k9 := k
                  unfold f0_X5_part at k9
                  try rw [if_neg h1_] at k9
                  try rw [if_neg h3_] at k9
                  try rw [if_neg h5_] at k9
                  try rw [if_neg h7_] at k9
                  try rw [if_neg h9_] at k9
                  try rw [if_neg h12_] at k9
                  try rw [if_neg h14_] at k9
                  try rw [if_neg h15_] at k9
                  exact k9
                ·
                  refine pk_iconst (v := 1) C dX5_part_99 (by decide) (pc2 := 100) rfl ?_
                  refine pk_goto (tgt := 104) C dX5_part_100 (by decide) ?_
                  refine pk_istore (lv' := [(9, .int 1), (0, .ref m), (1, .long co), (3, .long rs), (5, .int mm), (6, .int li), (7, .int me), (8, .int ra)]) C dX5_part_104 (by decide) rfl (pc2 := 106) rfl ?_
                  refine pw_lv [1, 2, 3, 4, 5, 6, 7, 0] (lv' := [(0, .ref m), (1, .long co), (3, .long rs), (5, .int mm), (6, .int li), (7, .int me), (8, .int ra), (9, .int 1)]) rfl ?_
                  subst en1_ en2_ en3_ en4_ en5_
                  have k9 := k
                  unfold f0_X5_part at k9
                  try rw [if_neg h1_] at k9
                  try rw [if_neg h3_] at k9
                  try rw [if_neg h5_] at k9
                  try rw [if_neg h7_] at k9
                  try rw [if_neg h9_] at k9
                  try rw [if_neg h12_] at k9
                  try rw [if_neg h14_] at k9
                  try rw [if_pos h15_] at k9
                  exact k9
              ·
                refine pk_iload C 7 dX5_part_78 rfl (pc2 := 80) rfl ?_
                refine pk_i2l C dX5_part_80 (pc2 := 81) rfl ?_
                refine pk_lconst (v := 1) C dX5_part_81 (by decide) (pc2 := 82) rfl ?_
                refine pk_ldc2 C w3_ dX5_part_82 (pc2 := 85) rfl ?_
                refine pk_dS (cx := []) (wr := (mX (zG Z) m rf c T)) (X2 := (mX (zG Z) m rf c T)) (st := []) (st2 := [.int (m_X5_isIn (Int32.toInt64 ra) 1 (1000000))]) (As := [.long (Int32.toInt64 ra), .long 1, .long (1000000)]) C (c_X5_isIn (zl Z) (zG Z) L F (Int32.toInt64 ra) 1 (1000000)) gX5_part_X5_isIn rfl rfl rfl 3 (by decide +kernel) ⟨Nat.le_of_ble_eq_true rfl, Nat.le_of_ble_eq_true rfl⟩ rfl rfl (Nat.le_of_ble_eq_true rfl) ⟨Nat.le_of_ble_eq_true rfl, Nat.le_of_ble_eq_true rfl⟩ [] [0, 1, 2, 3, 4, 5, 6, 7, 8, 9, 10, 11, 12, 13, 14, 15] [0, 1, 2, 3, 4, 5, 6, 7, 8, 9, 10, 11, 12, 13, 14, 15] rfl rfl rfl rfl (by decide) rfl rfl dX5_part_85 (pc2 := 88) rfl rfl ?_
                refine pk_topi (fun n7_ en7_ => ?_)
                refine pk_if_eq (tgt := 103) C dX5_part_88 (by decide) (pc2 := 91) rfl (fun h16_ => ?_) (fun h16_ => ?_)
                ·
                  refine pk_iconst (v := 0) C dX5_part_103 (by decide) (pc2 := 104) rfl ?_
                  refine pk_istore (lv' := [(9, .int 0), (0, .ref m), (1, .long co), (3, .long rs), (5, .int mm), (6, .int li), (7, .int me), (8, .int ra)]) C dX5_part_104 (by decide) rfl (pc2 := 106) rfl ?_
                  refine pw_lv [1, 2, 3, 4, 5, 6, 7, 0] (lv' := [(0, .ref m), (1, .long co), (3, .long rs), (5, .int mm), (6, .int li), (7, .int me), (8, .int ra), (9, .int 0)]) rfl ?_
                  subst en1_ en2_ en3_ en4_ en5_ en7_
                  have k9 := k
                  unfold f0_X5_part at k9
                  try rw [if_neg h1_] at k9
                  try rw [if_neg h3_] at k9
                  try rw [if_neg h5_] at k9
                  try rw [if_neg h7_] at k9
                  try rw [if_neg h9_] at k9
                  try rw [if_neg h12_] at k9
                  try rw [if_pos h14_] at k9
                  try rw [if_pos h16_] at k9
                  exact k9
                ·
                  refine pk_goto (tgt := 99) C dX5_part_91 (by decide) ?_
                  refine pk_iconst (v := 1) C dX5_part_99 (by decide) (pc2 := 100) rfl ?_
                  refine pk_goto (tgt := 104) C dX5_part_100 (by decide) ?_
                  refine pk_istore (lv' := [(9, .int 1), (0, .ref m), (1, .long co), (3, .long rs), (5, .int mm), (6, .int li), (7, .int me), (8, .int ra)]) C dX5_part_104 (by decide) rfl (pc2 := 106) rfl ?_
                  refine pw_lv [1, 2, 3, 4, 5, 6, 7, 0] (lv' := [(0, .ref m), (1, .long co), (3, .long rs), (5, .int mm), (6, .int li), (7, .int me), (8, .int ra), (9, .int 1)]) rfl ?_
                  subst en1_ en2_ en3_ en4_ en5_ en7_
                  have k9 := k
                  unfold f0_X5_part at k9
                  try rw [if_neg h1_] at k9
                  try rw [if_neg h3_] at k9
                  try rw [if_neg h5_] at k9
                  try rw [if_neg h7_] at k9
                  try rw [if_neg h9_] at k9
                  try rw [if_neg h12_] at k9
                  try rw [if_pos h14_] at k9
                  try rw [if_neg h16_] at k9
                  exact k9
def f1_X5_part (c : MR) (T : TR) (co : Int64) (rs : Int64) (mm : Int32) (li : Int32) (me : Int32) (ra : Int32) (gd : Int32) : MR :=
  if gd = 0 then (M_mk 1 (M_pt c) (M_mn c) (M_ev c) (M_co c) (M_al c) (M_re c) (M_lo c) (M_rs c) (M_li c) (M_he c) (M_go c) (M_sp c) (M_ba c) (M_le c) (M_lf c) (M_mo c) (M_un c) (M_ch c) (M_lc c) (M_ac c) (M_bd c)) else if (M_pt c) = 6 then (M_mk 2 (M_pt c) (M_mn c) (M_ev c) (M_co c) (M_al c) (M_re c) (M_lo c) (M_rs c) (M_li c) (M_he c) (M_go c) (M_sp c) (M_ba c) (M_le c) (M_lf c) (M_mo c) (M_un c) (M_ch c) (M_lc c) (M_ac c) (M_bd c)) else (M_mk 0 (M_pt c) (M_mn c) (M_ev c) (M_co c) (M_al c) (M_re c) (M_lo c) (M_rs c) (M_li c) (M_he c) (M_go c) (M_sp c) (M_ba c) (M_le c) (M_lf c) (M_mo c) (M_un c) (M_ch c) (M_lc c) (M_ac c) (M_bd c))
theorem f1_X5_part_h {c : MR} {T : TR} {co rs : Int64} {mm li me ra gd : Int32} {NP : Nat} (hNP : NP ≤ 6 ∧ M_pt c = nI NP) : M_cd (f1_X5_part c T co rs mm li me ra gd) ≤ 0 → vp_in (M_pt (f1_X5_part c T co rs mm li me ra gd)) 6 := by
  unfold f1_X5_part
  refine zi_ite (P := fun (x : MR) => M_cd x ≤ 0 → vp_in (M_pt x) 6) (fun _ h => absurd h (by rw [M_cd_mk]; decide)) (fun _ => ?_)
  refine zi_ite (P := fun (x : MR) => M_cd x ≤ 0 → vp_in (M_pt x) 6) (fun _ h => absurd h (by rw [M_cd_mk]; decide)) (fun h2 h => ?_)
  have h3 : ¬ NP = 6 := fun e => h2 (by rw [hNP.2, e]; rfl)
  rw [M_pt_mk, hNP.2]
  exact vp_in_nI (by omega) (by decide)
set_option maxRecDepth 100000 in
set_option maxHeartbeats 2000000 in
theorem s1_X5_part {Z : pw_Z} {Q : State → Prop} {L : List Nat} {F : Nat → va_E} {m : Nat} {rf : Nat → Nat} {NP : Nat} {c : MR} {T : TR} {co : Int64} {rs : Int64} {mm : Int32} {li : Int32} {me : Int32} {ra : Int32} {gd : Int32} (C : pw_C Z cX5_part 10 RX5 wsX5_part ⟨1, 0, 0, 25⟩ (some .int)) (hNP : NP ≤ 6 ∧ M_pt c = nI NP) (k : PW Z (mX (zG Z) m rf (f1_X5_part c T co rs mm li me ra gd) T) L F 0 0 Q 133 [(0, .ref m), (1, .long co), (3, .long rs), (5, .int mm), (6, .int li), (7, .int me), (8, .int ra)] []) : PW Z (mX (zG Z) m rf c T) L F 0 0 Q 106 [(0, .ref m), (1, .long co), (3, .long rs), (5, .int mm), (6, .int li), (7, .int me), (8, .int ra), (9, .int gd)] [] := by
  have i5_ : ∀ w ∈ wsX50, w ∈ wsX5_part := by decide +kernel
  have w0_ : Cond.fieldLink RX5 62 "AgedAssetsModel" "parts" "I" ∈ wsX5_part := by decide +kernel
  have w1_ : Cond.fieldLink RX5 56 "AgedAssetsModel" "code" "I" ∈ wsX5_part := by decide +kernel
  refine pk_aload_n C 0 dX5_part_106 rfl rfl (pc2 := 107) rfl ?_
  refine pk_iload C 7 dX5_part_107 rfl (pc2 := 109) rfl ?_
  refine pk_if_ne (tgt := 116) C dX5_part_109 (by decide) (pc2 := 112) rfl (fun h1_ => ?_) (fun h1_ => ?_)
  ·
    refine pk_aload_n C 0 dX5_part_116 rfl rfl (pc2 := 117) rfl ?_
    refine pk_get (v := .int (M_pt c)) C i5_ (pw_atX 0 rfl) (ci := 5) rfl 1 (by decide) w0_ rfl rfl dX5_part_117 (pc2 := 120) rfl ?_
    refine pk_bipush (v := 6) C dX5_part_120 (by decide) (pc2 := 122) rfl ?_
    refine pk_icmp_ne (tgt := 129) C dX5_part_122 (by decide) (pc2 := 125) rfl (fun h2_ => ?_) (fun h2_ => ?_)
    ·
      refine pk_iconst (v := 0) C dX5_part_129 (by decide) (pc2 := 130) rfl ?_
      refine pk_putX (X' := ((m, kM rf 0 (M_pt c) (M_mn c) (M_ev c) (M_co c) (M_al c) (M_re c) (M_lo c) (M_rs c) (M_li c) (M_he c) (M_go c) (M_sp c) (M_ba c) (M_le c) (M_lf c) (M_mo c) (M_un c) (M_ch c) (M_lc c) (M_ac c) (M_bd c)) :: mT (zG Z) rf T)) C i5_ tyX5_ok nmX5 0 rfl (ci := 5) rfl 0 (by decide) w1_ rfl rfl rfl rfl rfl (Nat.le_of_ble_eq_true rfl) rfl dX5_part_130 (pc2 := 133) rfl ?_
      refine pw_conv (X' := (mX (zG Z) m rf (M_mk 0 (M_pt c) (M_mn c) (M_ev c) (M_co c) (M_al c) (M_re c) (M_lo c) (M_rs c) (M_li c) (M_he c) (M_go c) (M_sp c) (M_ba c) (M_le c) (M_lf c) (M_mo c) (M_un c) (M_ch c) (M_lc c) (M_ac c) (M_bd c)) T)) mX_mk ?_
      refine pw_lv [0, 1, 2, 3, 4, 5, 6] (lv' := [(0, .ref m), (1, .long co), (3, .long rs), (5, .int mm), (6, .int li), (7, .int me), (8, .int ra)]) rfl ?_
      have k9 := k
      unfold f1_X5_part at k9
      try rw [if_neg h1_] at k9
      try rw [if_neg h2_] at k9
      exact k9
    ·
      refine pk_iconst (v := 2) C dX5_part_125 (by decide) (pc2 := 126) rfl ?_
      refine pk_goto (tgt := 130) C dX5_part_126 (by decide) ?_
      refine pk_putX (X' := ((m, kM rf 2 (M_pt c) (M_mn c) (M_ev c) (M_co c) (M_al c) (M_re c) (M_lo c) (M_rs c) (M_li c) (M_he c) (M_go c) (M_sp c) (M_ba c) (M_le c) (M_lf c) (M_mo c) (M_un c) (M_ch c) (M_lc c) (M_ac c) (M_bd c)) :: mT (zG Z) rf T)) C i5_ tyX5_ok nmX5 0 rfl (ci := 5) rfl 0 (by decide) w1_ rfl rfl rfl rfl rfl (Nat.le_of_ble_eq_true rfl) rfl dX5_part_130 (pc2 := 133) rfl ?_
      refine pw_conv (X' := (mX (zG Z) m rf (M_mk 2 (M_pt c) (M_mn c) (M_ev c) (M_co c) (M_al c) (M_re c) (M_lo c) (M_rs c) (M_li c) (M_he c) (M_go c) (M_sp c) (M_ba c) (M_le c) (M_lf c) (M_mo c) (M_un c) (M_ch c) (M_lc c) (M_ac c) (M_bd c)) T)) mX_mk ?_
      refine pw_lv [0, 1, 2, 3, 4, 5, 6] (lv' := [(0, .ref m), (1, .long co), (3, .long rs), (5, .int mm), (6, .int li), (7, .int me), (8, .int ra)]) rfl ?_
      have k9 := k
      unfold f1_X5_part at k9
      try rw [if_neg h1_] at k9
      try rw [if_pos h2_] at k9
      exact k9
  ·
    refine pk_iconst (v := 1) C dX5_part_112 (by decide) (pc2 := 113) rfl ?_
    refine pk_goto (tgt := 130) C dX5_part_113 (by decide) ?_
    refine pk_putX (X' := ((m, kM rf 1 (M_pt c) (M_mn c) (M_ev c) (M_co c) (M_al c) (M_re c) (M_lo c) (M_rs c) (M_li c) (M_he c) (M_go c) (M_sp c) (M_ba c) (M_le c) (M_lf c) (M_mo c) (M_un c) (M_ch c) (M_lc c) (M_ac c) (M_bd c)) :: mT (zG Z) rf T)) C i5_ tyX5_ok nmX5 0 rfl (ci := 5) rfl 0 (by decide) w1_ rfl rfl rfl rfl rfl (Nat.le_of_ble_eq_true rfl) rfl dX5_part_130 (pc2 := 133) rfl ?_
    refine pw_conv (X' := (mX (zG Z) m rf (M_mk 1 (M_pt c) (M_mn c) (M_ev c) (M_co c) (M_al c) (M_re c) (M_lo c) (M_rs c) (M_li c) (M_he c) (M_go c) (M_sp c) (M_ba c) (M_le c) (M_lf c) (M_mo c) (M_un c) (M_ch c) (M_lc c) (M_ac c) (M_bd c)) T)) mX_mk ?_
    refine pw_lv [0, 1, 2, 3, 4, 5, 6] (lv' := [(0, .ref m), (1, .long co), (3, .long rs), (5, .int mm), (6, .int li), (7, .int me), (8, .int ra)]) rfl ?_
    have k9 := k
    unfold f1_X5_part at k9
    try rw [if_pos h1_] at k9
    exact k9
def m_X5_part_2 (c : MR) (T : TR) (co : Int64) (rs : Int64) (mm : Int32) (li : Int32) (me : Int32) (ra : Int32) (gd : Int32) (c2 : MR) : Int32 × MR × TR :=
  if (M_cd c2) ≤ 0 then ((((M_pt c2) + 1) - 1), (M_mk (M_cd c2) ((M_pt c2) + 1) (M_mn c2) (M_ev c2) (M_co c2) (M_al c2) (M_re c2) (M_lo c2) (M_rs c2) (M_li c2) (M_he c2) (M_go c2) (M_sp c2) (M_ba c2) (M_le c2) (M_lf c2) (M_mo c2) (M_un c2) (M_ch c2) (M_lc c2) (M_ac c2) (M_bd c2)), (T_s_ra (T_s_me (T_s_li (T_s_fi (T_s_rs (T_s_cs T (vp_updL (T_cs T) (Int32.toNatClampNeg (M_pt c2)) co)) (vp_updL (T_rs (T_s_cs T (vp_updL (T_cs T) (Int32.toNatClampNeg (M_pt c2)) co))) (Int32.toNatClampNeg (M_pt c2)) rs)) (upd (T_fi (T_s_rs (T_s_cs T (vp_updL (T_cs T) (Int32.toNatClampNeg (M_pt c2)) co)) (vp_updL (T_rs (T_s_cs T (vp_updL (T_cs T) (Int32.toNatClampNeg (M_pt c2)) co))) (Int32.toNatClampNeg (M_pt c2)) rs))) (Int32.toNatClampNeg (M_pt c2)) mm)) (upd (T_li (T_s_fi (T_s_rs (T_s_cs T (vp_updL (T_cs T) (Int32.toNatClampNeg (M_pt c2)) co)) (vp_updL (T_rs (T_s_cs T (vp_updL (T_cs T) (Int32.toNatClampNeg (M_pt c2)) co))) (Int32.toNatClampNeg (M_pt c2)) rs)) (upd (T_fi (T_s_rs (T_s_cs T (vp_updL (T_cs T) (Int32.toNatClampNeg (M_pt c2)) co)) (vp_updL (T_rs (T_s_cs T (vp_updL (T_cs T) (Int32.toNatClampNeg (M_pt c2)) co))) (Int32.toNatClampNeg (M_pt c2)) rs))) (Int32.toNatClampNeg (M_pt c2)) mm))) (Int32.toNatClampNeg (M_pt c2)) li)) (upd (T_me (T_s_li (T_s_fi (T_s_rs (T_s_cs T (vp_updL (T_cs T) (Int32.toNatClampNeg (M_pt c2)) co)) (vp_updL (T_rs (T_s_cs T (vp_updL (T_cs T) (Int32.toNatClampNeg (M_pt c2)) co))) (Int32.toNatClampNeg (M_pt c2)) rs)) (upd (T_fi (T_s_rs (T_s_cs T (vp_updL (T_cs T) (Int32.toNatClampNeg (M_pt c2)) co)) (vp_updL (T_rs (T_s_cs T (vp_updL (T_cs T) (Int32.toNatClampNeg (M_pt c2)) co))) (Int32.toNatClampNeg (M_pt c2)) rs))) (Int32.toNatClampNeg (M_pt c2)) mm)) (upd (T_li (T_s_fi (T_s_rs (T_s_cs T (vp_updL (T_cs T) (Int32.toNatClampNeg (M_pt c2)) co)) (vp_updL (T_rs (T_s_cs T (vp_updL (T_cs T) (Int32.toNatClampNeg (M_pt c2)) co))) (Int32.toNatClampNeg (M_pt c2)) rs)) (upd (T_fi (T_s_rs (T_s_cs T (vp_updL (T_cs T) (Int32.toNatClampNeg (M_pt c2)) co)) (vp_updL (T_rs (T_s_cs T (vp_updL (T_cs T) (Int32.toNatClampNeg (M_pt c2)) co))) (Int32.toNatClampNeg (M_pt c2)) rs))) (Int32.toNatClampNeg (M_pt c2)) mm))) (Int32.toNatClampNeg (M_pt c2)) li))) (Int32.toNatClampNeg (M_pt c2)) me)) (upd (T_ra (T_s_me (T_s_li (T_s_fi (T_s_rs (T_s_cs T (vp_updL (T_cs T) (Int32.toNatClampNeg (M_pt c2)) co)) (vp_updL (T_rs (T_s_cs T (vp_updL (T_cs T) (Int32.toNatClampNeg (M_pt c2)) co))) (Int32.toNatClampNeg (M_pt c2)) rs)) (upd (T_fi (T_s_rs (T_s_cs T (vp_updL (T_cs T) (Int32.toNatClampNeg (M_pt c2)) co)) (vp_updL (T_rs (T_s_cs T (vp_updL (T_cs T) (Int32.toNatClampNeg (M_pt c2)) co))) (Int32.toNatClampNeg (M_pt c2)) rs))) (Int32.toNatClampNeg (M_pt c2)) mm)) (upd (T_li (T_s_fi (T_s_rs (T_s_cs T (vp_updL (T_cs T) (Int32.toNatClampNeg (M_pt c2)) co)) (vp_updL (T_rs (T_s_cs T (vp_updL (T_cs T) (Int32.toNatClampNeg (M_pt c2)) co))) (Int32.toNatClampNeg (M_pt c2)) rs)) (upd (T_fi (T_s_rs (T_s_cs T (vp_updL (T_cs T) (Int32.toNatClampNeg (M_pt c2)) co)) (vp_updL (T_rs (T_s_cs T (vp_updL (T_cs T) (Int32.toNatClampNeg (M_pt c2)) co))) (Int32.toNatClampNeg (M_pt c2)) rs))) (Int32.toNatClampNeg (M_pt c2)) mm))) (Int32.toNatClampNeg (M_pt c2)) li)) (upd (T_me (T_s_li (T_s_fi (T_s_rs (T_s_cs T (vp_updL (T_cs T) (Int32.toNatClampNeg (M_pt c2)) co)) (vp_updL (T_rs (T_s_cs T (vp_updL (T_cs T) (Int32.toNatClampNeg (M_pt c2)) co))) (Int32.toNatClampNeg (M_pt c2)) rs)) (upd (T_fi (T_s_rs (T_s_cs T (vp_updL (T_cs T) (Int32.toNatClampNeg (M_pt c2)) co)) (vp_updL (T_rs (T_s_cs T (vp_updL (T_cs T) (Int32.toNatClampNeg (M_pt c2)) co))) (Int32.toNatClampNeg (M_pt c2)) rs))) (Int32.toNatClampNeg (M_pt c2)) mm)) (upd (T_li (T_s_fi (T_s_rs (T_s_cs T (vp_updL (T_cs T) (Int32.toNatClampNeg (M_pt c2)) co)) (vp_updL (T_rs (T_s_cs T (vp_updL (T_cs T) (Int32.toNatClampNeg (M_pt c2)) co))) (Int32.toNatClampNeg (M_pt c2)) rs)) (upd (T_fi (T_s_rs (T_s_cs T (vp_updL (T_cs T) (Int32.toNatClampNeg (M_pt c2)) co)) (vp_updL (T_rs (T_s_cs T (vp_updL (T_cs T) (Int32.toNatClampNeg (M_pt c2)) co))) (Int32.toNatClampNeg (M_pt c2)) rs))) (Int32.toNatClampNeg (M_pt c2)) mm))) (Int32.toNatClampNeg (M_pt c2)) li))) (Int32.toNatClampNeg (M_pt c2)) me))) (Int32.toNatClampNeg (M_pt c2)) ra))) else (0, c2, T)
def m_X5_part_1 (c : MR) (T : TR) (co : Int64) (rs : Int64) (mm : Int32) (li : Int32) (me : Int32) (ra : Int32) (gd : Int32) : Int32 × MR × TR := m_X5_part_2 c T co rs mm li me ra gd (f1_X5_part c T co rs mm li me ra gd)
def m_X5_part_0 (c : MR) (T : TR) (co : Int64) (rs : Int64) (mm : Int32) (li : Int32) (me : Int32) (ra : Int32) : Int32 × MR × TR := m_X5_part_1 c T co rs mm li me ra (f0_X5_part c T co rs mm li me ra)
def m_X5_part (c : MR) (T : TR) (co : Int64) (rs : Int64) (mm : Int32) (li : Int32) (me : Int32) (ra : Int32) : Int32 × MR × TR := m_X5_part_0 c T co rs mm li me ra
set_option maxRecDepth 100000 in
set_option maxHeartbeats 2000000 in
theorem t2_X5_part {Z : pw_Z} {Q : State → Prop} {L : List Nat} {F : Nat → va_E} {m : Nat} {rf : Nat → Nat} {NP : Nat} {c : MR} {T : TR} {co : Int64} {rs : Int64} {mm : Int32} {li : Int32} {me : Int32} {ra : Int32} {gd : Int32} {c2 : MR} (C : pw_C Z cX5_part 10 RX5 wsX5_part ⟨1, 0, 0, 25⟩ (some .int)) {X9 : va_W} {R : Int32 × MR × TR} (hE : pw_End Z Q X9 L F (po_d (some (.int (R.1))) (mX (zG Z) m rf (R.2.1) (R.2.2)) L F) 0 0) (hNP : NP ≤ 6 ∧ M_pt c = nI NP) (hcd : M_cd c2 ≤ 0 → vp_in (M_pt c2) 6) (hR : m_X5_part_2 c T co rs mm li me ra gd c2 = R) : PW Z (mX (zG Z) m rf c2 T) L F 0 0 Q 133 [(0, .ref m), (1, .long co), (3, .long rs), (5, .int mm), (6, .int li), (7, .int me), (8, .int ra)] [] := by
  have i5_ : ∀ w ∈ wsX50, w ∈ wsX5_part := by decide +kernel
  have w0_ : Cond.fieldLink RX5 56 "AgedAssetsModel" "code" "I" ∈ wsX5_part := by decide +kernel
  have w1_ : Cond.fieldLink RX5 7 "AgedAssetsModel" "costs" "[J" ∈ wsX5_part := by decide +kernel
  have w2_ : Cond.fieldLink RX5 62 "AgedAssetsModel" "parts" "I" ∈ wsX5_part := by decide +kernel
  have w3_ : Cond.fieldLink RX5 13 "AgedAssetsModel" "residuals" "[J" ∈ wsX5_part := by decide +kernel
  have w4_ : Cond.fieldLink RX5 16 "AgedAssetsModel" "firsts" "[I" ∈ wsX5_part := by decide +kernel
  have w5_ : Cond.fieldLink RX5 20 "AgedAssetsModel" "lives" "[I" ∈ wsX5_part := by decide +kernel
  have w6_ : Cond.fieldLink RX5 23 "AgedAssetsModel" "methods" "[I" ∈ wsX5_part := by decide +kernel
  have w7_ : Cond.fieldLink RX5 26 "AgedAssetsModel" "rates" "[I" ∈ wsX5_part := by decide +kernel
  refine pk_aload_n C 0 dX5_part_133 rfl rfl (pc2 := 134) rfl ?_
  refine pk_get (v := .int (M_cd c2)) C i5_ (pw_atX 0 rfl) (ci := 5) rfl 0 (by decide) w0_ rfl rfl dX5_part_134 (pc2 := 137) rfl ?_
  refine pk_if_le (tgt := 142) C dX5_part_137 (by decide) (pc2 := 140) rfl (fun h1_ => ?_) (fun h1_ => ?_)
  ·
    have hpt6 := hcd h1_
    refine pk_aload_n C 0 dX5_part_142 rfl rfl (pc2 := 143) rfl ?_
    refine pk_get (v := .ref (rf 0)) C i5_ (pw_atX 0 rfl) (ci := 5) rfl 2 (by decide) w1_ rfl rfl dX5_part_143 (pc2 := 146) rfl ?_
    refine pk_aload_n C 0 dX5_part_146 rfl rfl (pc2 := 147) rfl ?_
    refine pk_get (v := .int (M_pt c2)) C i5_ (pw_atX 0 rfl) (ci := 5) rfl 1 (by decide) w2_ rfl rfl dX5_part_147 (pc2 := 150) rfl ?_
    refine pk_lload_n C 1 dX5_part_150 rfl rfl (pc2 := 151) rfl ?_
    refine pk_lastX (X' := (mX (zG Z) m rf c2 (T_s_cs T (vp_updL (T_cs T) (Int32.toNatClampNeg (M_pt c2)) co)))) C 1 rfl hpt6 mT_s_cs dX5_part_151 (pc2 := 152) rfl ?_
    generalize en1_ : (T_s_cs T (vp_updL (T_cs T) (Int32.toNatClampNeg (M_pt c2)) co)) = n1_
    refine pk_aload_n C 0 dX5_part_152 rfl rfl (pc2 := 153) rfl ?_
    refine pk_get (v := .ref (rf 1)) C i5_ (pw_atX 0 rfl) (ci := 5) rfl 3 (by decide) w3_ rfl rfl dX5_part_153 (pc2 := 156) rfl ?_
    refine pk_aload_n C 0 dX5_part_156 rfl rfl (pc2 := 157) rfl ?_
    refine pk_get (v := .int (M_pt c2)) C i5_ (pw_atX 0 rfl) (ci := 5) rfl 1 (by decide) w2_ rfl rfl dX5_part_157 (pc2 := 160) rfl ?_
    refine pk_lload_n C 2 dX5_part_160 rfl rfl (pc2 := 161) rfl ?_
    refine pk_lastX (X' := (mX (zG Z) m rf c2 (T_s_rs n1_ (vp_updL (T_rs n1_) (Int32.toNatClampNeg (M_pt c2)) rs)))) C 2 rfl hpt6 mT_s_rs dX5_part_161 (pc2 := 162) rfl ?_
    generalize en2_ : (T_s_rs n1_ (vp_updL (T_rs n1_) (Int32.toNatClampNeg (M_pt c2)) rs)) = n2_
    refine pk_aload_n C 0 dX5_part_162 rfl rfl (pc2 := 163) rfl ?_
    refine pk_get (v := .ref (rf 2)) C i5_ (pw_atX 0 rfl) (ci := 5) rfl 4 (by decide) w4_ rfl rfl dX5_part_163 (pc2 := 166) rfl ?_
    refine pk_aload_n C 0 dX5_part_166 rfl rfl (pc2 := 167) rfl ?_
    refine pk_get (v := .int (M_pt c2)) C i5_ (pw_atX 0 rfl) (ci := 5) rfl 1 (by decide) w2_ rfl rfl dX5_part_167 (pc2 := 170) rfl ?_
    refine pk_iload C 3 dX5_part_170 rfl (pc2 := 172) rfl ?_
    refine pk_iastX (X' := (mX (zG Z) m rf c2 (T_s_fi n2_ (upd (T_fi n2_) (Int32.toNatClampNeg (M_pt c2)) mm)))) C 3 rfl hpt6 mT_s_fi dX5_part_172 (pc2 := 173) rfl ?_
    generalize en3_ : (T_s_fi n2_ (upd (T_fi n2_) (Int32.toNatClampNeg (M_pt c2)) mm)) = n3_
    refine pk_aload_n C 0 dX5_part_173 rfl rfl (pc2 := 174) rfl ?_
    refine pk_get (v := .ref (rf 3)) C i5_ (pw_atX 0 rfl) (ci := 5) rfl 5 (by decide) w5_ rfl rfl dX5_part_174 (pc2 := 177) rfl ?_
    refine pk_aload_n C 0 dX5_part_177 rfl rfl (pc2 := 178) rfl ?_
    refine pk_get (v := .int (M_pt c2)) C i5_ (pw_atX 0 rfl) (ci := 5) rfl 1 (by decide) w2_ rfl rfl dX5_part_178 (pc2 := 181) rfl ?_
    refine pk_iload C 4 dX5_part_181 rfl (pc2 := 183) rfl ?_
    refine pk_iastX (X' := (mX (zG Z) m rf c2 (T_s_li n3_ (upd (T_li n3_) (Int32.toNatClampNeg (M_pt c2)) li)))) C 4 rfl hpt6 mT_s_li dX5_part_183 (pc2 := 184) rfl ?_
    generalize en4_ : (T_s_li n3_ (upd (T_li n3_) (Int32.toNatClampNeg (M_pt c2)) li)) = n4_
    refine pk_aload_n C 0 dX5_part_184 rfl rfl (pc2 := 185) rfl ?_
    refine pk_get (v := .ref (rf 4)) C i5_ (pw_atX 0 rfl) (ci := 5) rfl 6 (by decide) w6_ rfl rfl dX5_part_185 (pc2 := 188) rfl ?_
    refine pk_aload_n C 0 dX5_part_188 rfl rfl (pc2 := 189) rfl ?_
    refine pk_get (v := .int (M_pt c2)) C i5_ (pw_atX 0 rfl) (ci := 5) rfl 1 (by decide) w2_ rfl rfl dX5_part_189 (pc2 := 192) rfl ?_
    refine pk_iload C 5 dX5_part_192 rfl (pc2 := 194) rfl ?_
    refine pk_iastX (X' := (mX (zG Z) m rf c2 (T_s_me n4_ (upd (T_me n4_) (Int32.toNatClampNeg (M_pt c2)) me)))) C 5 rfl hpt6 mT_s_me dX5_part_194 (pc2 := 195) rfl ?_
    generalize en5_ : (T_s_me n4_ (upd (T_me n4_) (Int32.toNatClampNeg (M_pt c2)) me)) = n5_
    refine pk_aload_n C 0 dX5_part_195 rfl rfl (pc2 := 196) rfl ?_
    refine pk_get (v := .ref (rf 5)) C i5_ (pw_atX 0 rfl) (ci := 5) rfl 7 (by decide) w7_ rfl rfl dX5_part_196 (pc2 := 199) rfl ?_
    refine pk_aload_n C 0 dX5_part_199 rfl rfl (pc2 := 200) rfl ?_
    refine pk_get (v := .int (M_pt c2)) C i5_ (pw_atX 0 rfl) (ci := 5) rfl 1 (by decide) w2_ rfl rfl dX5_part_200 (pc2 := 203) rfl ?_
    refine pk_iload C 6 dX5_part_203 rfl (pc2 := 205) rfl ?_
    refine pk_iastX (X' := (mX (zG Z) m rf c2 (T_s_ra n5_ (upd (T_ra n5_) (Int32.toNatClampNeg (M_pt c2)) ra)))) C 6 rfl hpt6 mT_s_ra dX5_part_205 (pc2 := 206) rfl ?_
    generalize en6_ : (T_s_ra n5_ (upd (T_ra n5_) (Int32.toNatClampNeg (M_pt c2)) ra)) = n6_
    refine pk_aload_n C 0 dX5_part_206 rfl rfl (pc2 := 207) rfl ?_
    refine pk_aload_n C 0 dX5_part_207 rfl rfl (pc2 := 208) rfl ?_
    refine pk_get (v := .int (M_pt c2)) C i5_ (pw_atX 0 rfl) (ci := 5) rfl 1 (by decide) w2_ rfl rfl dX5_part_208 (pc2 := 211) rfl ?_
    refine pk_iconst (v := 1) C dX5_part_211 (by decide) (pc2 := 212) rfl ?_
    refine pk_iadd C dX5_part_212 (pc2 := 213) rfl ?_
    refine pk_topi (fun n7_ en7_ => ?_)
    refine pk_putX (X' := ((m, kM rf (M_cd c2) n7_ (M_mn c2) (M_ev c2) (M_co c2) (M_al c2) (M_re c2) (M_lo c2) (M_rs c2) (M_li c2) (M_he c2) (M_go c2) (M_sp c2) (M_ba c2) (M_le c2) (M_lf c2) (M_mo c2) (M_un c2) (M_ch c2) (M_lc c2) (M_ac c2) (M_bd c2)) :: mT (zG Z) rf n6_)) C i5_ tyX5_ok nmX5 0 rfl (ci := 5) rfl 1 (by decide) w2_ rfl rfl rfl rfl rfl (Nat.le_of_ble_eq_true rfl) rfl dX5_part_213 (pc2 := 216) rfl ?_
    refine pk_aload_n C 0 dX5_part_216 rfl rfl (pc2 := 217) rfl ?_
    refine pk_get (v := .int n7_) C i5_ (pw_atX 0 rfl) (ci := 5) rfl 1 (by decide) w2_ rfl rfl dX5_part_217 (pc2 := 220) rfl ?_
    refine pk_iconst (v := 1) C dX5_part_220 (by decide) (pc2 := 221) rfl ?_
    refine pk_isub C dX5_part_221 (pc2 := 222) rfl ?_
    refine pw_conv (X' := (mX (zG Z) m rf (M_mk (M_cd c2) n7_ (M_mn c2) (M_ev c2) (M_co c2) (M_al c2) (M_re c2) (M_lo c2) (M_rs c2) (M_li c2) (M_he c2) (M_go c2) (M_sp c2) (M_ba c2) (M_le c2) (M_lf c2) (M_mo c2) (M_un c2) (M_ch c2) (M_lc c2) (M_ac c2) (M_bd c2)) n6_)) mX_mk ?_
    subst en1_ en2_ en3_ en4_ en5_ en6_ en7_
    unfold m_X5_part_2 at hR
    try rw [if_pos h1_] at hR
    subst hR
    exact pr_int (ty := .int) C hE rfl rfl (po_d_rfl rfl rfl) dX5_part_222
  ·
    refine pk_iconst (v := 0) C dX5_part_140 (by decide) (pc2 := 141) rfl ?_
    unfold m_X5_part_2 at hR
    try rw [if_neg h1_] at hR
    subst hR
    exact pr_int (ty := .int) C hE rfl rfl (po_d_rfl rfl rfl) dX5_part_141
set_option maxRecDepth 100000 in
set_option maxHeartbeats 2000000 in
theorem t1_X5_part {Z : pw_Z} {Q : State → Prop} {L : List Nat} {F : Nat → va_E} {m : Nat} {rf : Nat → Nat} {NP : Nat} {c : MR} {T : TR} {co : Int64} {rs : Int64} {mm : Int32} {li : Int32} {me : Int32} {ra : Int32} {gd : Int32} (C : pw_C Z cX5_part 10 RX5 wsX5_part ⟨1, 0, 0, 25⟩ (some .int)) {X9 : va_W} {R : Int32 × MR × TR} (hE : pw_End Z Q X9 L F (po_d (some (.int (R.1))) (mX (zG Z) m rf (R.2.1) (R.2.2)) L F) 0 0) (hNP : NP ≤ 6 ∧ M_pt c = nI NP) (hR : m_X5_part_1 c T co rs mm li me ra gd = R) : PW Z (mX (zG Z) m rf c T) L F 0 0 Q 106 [(0, .ref m), (1, .long co), (3, .long rs), (5, .int mm), (6, .int li), (7, .int me), (8, .int ra), (9, .int gd)] [] := by
  refine s1_X5_part C hNP ?_
  exact t2_X5_part C hE hNP (f1_X5_part_h hNP) hR
set_option maxRecDepth 100000 in
set_option maxHeartbeats 2000000 in
theorem t0_X5_part {Z : pw_Z} {Q : State → Prop} {L : List Nat} {F : Nat → va_E} {m : Nat} {rf : Nat → Nat} {NP : Nat} {c : MR} {T : TR} {co : Int64} {rs : Int64} {mm : Int32} {li : Int32} {me : Int32} {ra : Int32} (C : pw_C Z cX5_part 10 RX5 wsX5_part ⟨1, 0, 0, 25⟩ (some .int)) {X9 : va_W} {R : Int32 × MR × TR} (hE : pw_End Z Q X9 L F (po_d (some (.int (R.1))) (mX (zG Z) m rf (R.2.1) (R.2.2)) L F) 0 0) (hNP : NP ≤ 6 ∧ M_pt c = nI NP) (hR : m_X5_part_0 c T co rs mm li me ra = R) : PW Z (mX (zG Z) m rf c T) L F 0 0 Q 0 [(0, .ref m), (1, .long co), (3, .long rs), (5, .int mm), (6, .int li), (7, .int me), (8, .int ra)] [] := by
  refine s0_X5_part C hNP ?_
  exact t1_X5_part C hE hNP  hR
set_option maxRecDepth 100000 in
set_option maxHeartbeats 2000000 in
theorem c_X5_part (l : Launch) (G : pw_G) (L : List Nat) (F : Nat → va_E) (m : Nat) (rf : Nat → Nat) (NP : Nat) (c : MR) (T : TR) (co : Int64) (rs : Int64) (mm : Int32) (li : Int32) (me : Int32) (ra : Int32) (hNP : NP ≤ 6 ∧ M_pt c = nI NP) : PM l yX5_part wsX5_part ⟨1, 0, 0, 25⟩ G [.ref m, .long co, .long rs, .int mm, .int li, .int me, .int ra] (mX G m rf c T) L F 0 0 (po_d (some (.int ((m_X5_part c T co rs mm li me ra).1))) (mX G m rf ((m_X5_part c T co rs mm li me ra).2.1) ((m_X5_part c T co rs mm li me ra).2.2)) L F) := by
  refine pm_entry (by decide) rfl rfl (Nat.le_of_ble_eq_true rfl) ?_
  intro Z Q C hl0 hG0 hnm hE
  subst hl0
  subst hG0
  exact t0_X5_part C hE hNP rfl

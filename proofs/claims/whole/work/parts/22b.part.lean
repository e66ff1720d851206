set_option maxRecDepth 100000 in
set_option maxHeartbeats 2000000 in
theorem t1_X4_part {Z : pw_Z} {Q : State → Prop} {L : List Nat} {F : Nat → va_E} {x : Nat} {rf : Nat → Nat} {ar : AR} {pr : (Nat → Option Nat)} {er : (Nat → Option Nat)} {cf : CR} {tf : SR} {cb : CR} {tb : SR} {co rs : Int64} {mm li me ra : Int32} (C : pw_C Z cX4_part 11 RX4 wsX4_part ⟨6, 4, 119, 90⟩ (some .int)) (hX : pw_CX Z) {X9 : va_W} {L9 : List Nat} {F9 : Nat → va_E} {o : pw_OX} (hE : pw_EndX Z Q X9 L9 F9 o 4 119) (ho : ∀ r X' L' F', (fun r X' L' F' => ∃ b u w q : Nat, b ∉ L ∧ pnP (zG Z) (L ++ [b]) L' (va_up F b (.inr (2, [.long 0, .long 0, .int 0, .int 0, .int 0, .int 0, .null, .null, .null, .int 0, .long 0]))) F' b u w q (P_mk co rs mm li me ra 0 0) ∧ X' = aX (zG Z) x rf (A_mk ((A_pc ar) + 1) (A_ec ar) (A_mc ar)) (va_up pr (Int32.toNatClampNeg (A_pc ar)) (some b)) er cf tf cb tb ∧ r = .inl (some (.int ((A_pc ar) + 1 - 1)))) r X' L' F' → o r X' L' F') (hp6 : vp_in (A_pc ar) 6) : PW Z (aX (zG Z) x rf ar pr er cf tf cb tb) L F 0 0 Q 104 [(0, .ref x), (1, .long co), (3, .long rs), (5, .int mm), (6, .int li), (7, .int me), (8, .int ra)] [] := by
  have hX1 : pw_E (zA Z) (zs Z) (zH Z) := by rw [hE.2.2]; exact hX.1
  have i4_ : ∀ w ∈ wsX40, w ∈ wsX4_part := by decide +kernel
  have i2_ : ∀ w ∈ wsX20, w ∈ wsX4_part := by decide +kernel
  have w0_ : Cond.fieldLink RX4 54 "AgedAssets" "partCount" "I" ∈ wsX4_part := by decide +kernel
  have w1_ : Cond.fieldLink RX4 11 "AgedAssets" "partRow" "[LAgedAssets$Part;" ∈ wsX4_part := by decide +kernel
  have w2_ : Cond.classLink RX4 9 RX2 ∈ wsX4_part := by decide +kernel
  have w3_ : Cond.instantiable RX2 11 ∈ wsX4_part := by decide +kernel
  have w4_ : Cond.initialized RX2 ∈ wsX4_part := by decide +kernel
  have w5_ : Cond.methodLink RX4 63 yX2_init ∈ wsX4_part := by decide +kernel
  have w6_ : Cond.instanceMethod yX2_init ∈ wsX4_part := by decide +kernel
  refine pk_aload_n C 0 dX4_part_104 rfl rfl (pc2 := 105) rfl ?_
  refine pk_get (v := .ref (rf 0)) C i4_ (pw_atX 0 rfl) (ci := 4) rfl 0 (by decide) w1_ rfl rfl dX4_part_105 (pc2 := 108) rfl ?_
  refine pk_aload_n C 0 dX4_part_108 rfl rfl (pc2 := 109) rfl ?_
  refine pk_get (v := .int (A_pc ar)) C i4_ (pw_atX 0 rfl) (ci := 4) rfl 4 (by decide) w0_ rfl rfl dX4_part_109 (pc2 := 112) rfl ?_
  refine pk_newP (ci := 2) (fs := [.long 0, .long 0, .int 0, .int 0, .int 0, .int 0, .null, .null, .null, .int 0, .long 0]) C tyX2 i2_ tyX2_ok w2_ w3_ w4_ rfl (fun j hj => by rcases (show j = 0 ∨ j = 1 ∨ j = 2 ∨ j = 3 ∨ j = 4 ∨ j = 5 ∨ j = 6 ∨ j = 7 ∨ j = 8 ∨ j = 9 ∨ j = 10 by omega) with rfl | rfl | rfl | rfl | rfl | rfl | rfl | rfl | rfl | rfl | rfl <;> rfl) (Nat.le_of_ble_eq_true rfl) (Nat.le_of_ble_eq_true rfl) dX4_part_112 (pc2 := 115) rfl (fun b hb => ?_)
  refine pk_dup C dX4_part_115 rfl (pc2 := 116) rfl ?_
  refine pk_lload_n C 1 dX4_part_116 rfl rfl (pc2 := 117) rfl ?_
  refine pk_lload_n C 2 dX4_part_117 rfl rfl (pc2 := 118) rfl ?_
  refine pk_iload C 3 dX4_part_118 rfl (pc2 := 120) rfl ?_
  refine pk_iload C 4 dX4_part_120 rfl (pc2 := 122) rfl ?_
  refine pk_iload C 5 dX4_part_122 rfl (pc2 := 124) rfl ?_
  refine pk_iload C 6 dX4_part_124 rfl (pc2 := 126) rfl ?_
  refine pk_callIE (X := (aX (zG Z) x rf ar pr er cf tf cb tb)) (L := L ++ [b]) (cx := []) (wr := (aX (zG Z) x rf ar pr er cf tf cb tb)) (As := [.long co, .long rs, .int mm, .int li, .int me, .int ra]) (st := [.ref b, .int (A_pc ar), .ref (rf 0)]) C hX1 (c_X2_init (zl Z) (zG Z) (L ++ [b]) _ b co rs mm li me ra (List.mem_append_right _ List.mem_cons_self) (va_up_self ..)) gX4_part_X2_init rfl w5_ w6_ w4_ rfl rfl rfl 6 (by decide +kernel) ⟨(Nat.le_of_ble_eq_true rfl), (Nat.le_of_ble_eq_true rfl)⟩ rfl rfl (Nat.le_of_ble_eq_true rfl) ⟨(Nat.le_of_ble_eq_true rfl), (Nat.le_of_ble_eq_true rfl)⟩ [] [0, 1, 2, 3, 4, 5, 6] rfl rfl rfl rfl (by decide) dX4_part_126 (pc2 := 129) rfl (fun v' X' L' F' ho9 => ?_)
  obtain ⟨rfl, rfl, u, w, q, hN⟩ := ho9
  rw [List.append_nil]
  have hbL : b ∈ L' := by rw [hN.1.1]; simp
  refine pk_astPX (X := (aX (zG Z) x rf ar pr er cf tf cb tb)) (X' := (aX (zG Z) x rf ar (va_up pr (Int32.toNatClampNeg (A_pc ar)) (some b)) er cf tf cb tb)) C 1 rfl (pw_atP hbL hN.2.1) hp6 rfl dX4_part_129 (pc2 := 130) rfl ?_
  refine pk_aload_n C 0 dX4_part_130 rfl rfl (pc2 := 131) rfl ?_
  refine pk_dup C dX4_part_131 rfl (pc2 := 132) rfl ?_
  refine pk_get (v := .int (A_pc ar)) C i4_ (pw_atX 0 rfl) (ci := 4) rfl 4 (by decide) w0_ rfl rfl dX4_part_132 (pc2 := 135) rfl ?_
  refine pk_iconst (v := 1) C dX4_part_135 (by decide) (pc2 := 136) rfl ?_
  refine pk_iadd C dX4_part_136 (pc2 := 137) rfl ?_
  refine pk_putX (X := (aX (zG Z) x rf ar (va_up pr (Int32.toNatClampNeg (A_pc ar)) (some b)) er cf tf cb tb)) (X' := (aX (zG Z) x rf (A_mk ((A_pc ar) + 1) (A_ec ar) (A_mc ar)) (va_up pr (Int32.toNatClampNeg (A_pc ar)) (some b)) er cf tf cb tb)) C i4_ tyX4_ok nmX4 0 rfl (ci := 4) rfl 4 (by decide) w0_ rfl rfl rfl rfl rfl (Nat.le_of_ble_eq_true rfl) rfl dX4_part_137 (pc2 := 140) rfl ?_
  refine pk_aload_n C 0 dX4_part_140 rfl rfl (pc2 := 141) rfl ?_
  refine pk_get (v := .int ((A_pc ar) + 1)) C i4_ (pw_atX 0 rfl) (ci := 4) rfl 4 (by decide) w0_ rfl rfl dX4_part_141 (pc2 := 144) rfl ?_
  refine pk_iconst (v := 1) C dX4_part_144 (by decide) (pc2 := 145) rfl ?_
  refine pk_isub C dX4_part_145 (pc2 := 146) rfl ?_
  exact px_ret hE (Nat.le_of_ble_eq_true rfl) (Nat.le_of_ble_eq_true rfl) (fun Q' hE' => pr_int (ty := .int) C hE' rfl rfl (ho _ _ _ _ ⟨b, u, w, q, hb, hN, rfl, rfl⟩) dX4_part_146)
def q_X4_part (ar : AR) (pr : (Nat → Option Nat)) (er : (Nat → Option Nat)) (cf : CR) (tf : SR) (cb : CR) (tb : SR)  (co : Int64) (rs : Int64) (mm : Int32) (li : Int32) (me : Int32) (ra : Int32) : Int32 :=
  if (m_X4_isWithin co 1 (1000000000)) = 0 then if (m_X4_isMonth mm) = 0 then 1 else if (m_X4_isWithin (Int32.toInt64 li) 1 (36)) = 0 then 1 else 1 else if (m_X4_isWithin rs 0 co) = 0 then if (m_X4_isMonth mm) = 0 then 1 else if (m_X4_isWithin (Int32.toInt64 li) 1 (36)) = 0 then 1 else 1 else if (m_X4_isMonth mm) = 0 then 1 else if (m_X4_isWithin (Int32.toInt64 li) 1 (36)) = 0 then 1 else if (m_X4_isRateOf me ra) = 0 then 1 else if (A_pc ar) < 6 then 0 else 2
set_option maxRecDepth 100000 in
set_option maxHeartbeats 2000000 in
theorem c_X4_part (l : Launch) (hst : l.stackTraces = false) (G : pw_G) (L : List Nat) (F : Nat → va_E) (x : Nat) (rf : Nat → Nat) (ar : AR) (pr : (Nat → Option Nat)) (er : (Nat → Option Nat)) (cf : CR) (tf : SR) (cb : CR) (tb : SR) (co rs : Int64) (mm li me ra : Int32) (hpc6 : (A_pc ar) < 6 → vp_in (A_pc ar) 6) : XM l yX4_part wsX4_part ⟨6, 4, 119, 90⟩ G [.ref x, .long co, .long rs, .int mm, .int li, .int me, .int ra] (aX G x rf ar pr er cf tf cb tb) L F 4 119 (oxM (q_X4_part ar pr er cf tf cb tb co rs mm li me ra) (aX G x rf ar pr er cf tf cb tb) L F (fun r X' L' F' => ∃ b u w q : Nat, b ∉ L ∧ pnP G (L ++ [b]) L' (va_up F b (.inr (2, [.long 0, .long 0, .int 0, .int 0, .int 0, .int 0, .null, .null, .null, .int 0, .long 0]))) F' b u w q (P_mk co rs mm li me ra 0 0) ∧ X' = aX G x rf (A_mk ((A_pc ar) + 1) (A_ec ar) (A_mc ar)) (va_up pr (Int32.toNatClampNeg (A_pc ar)) (some b)) er cf tf cb tb ∧ r = .inl (some (.int ((A_pc ar) + 1 - 1))))) := by
  refine xm_entry hst (by decide) rfl rfl (Nat.le_of_ble_eq_true rfl) ?_
  intro Z Q C hl0 hG0 hX hE
  subst hl0
  subst hG0
  have i4_ : ∀ w ∈ wsX40, w ∈ wsX4_part := by decide +kernel
  have w0_ : Cond.constantLong RX4 31 (1000000000) ∈ wsX4_part := by decide +kernel
  have w1_ : Cond.classLink RX4 47 nIAE ∈ wsX4_part := by decide +kernel
  have w2_ : Cond.initialized nIAE ∈ wsX4_part := by decide +kernel
  have w3_ : Cond.constantLong RX4 41 (36) ∈ wsX4_part := by decide +kernel
  have w4_ : Cond.fieldLink RX4 54 "AgedAssets" "partCount" "I" ∈ wsX4_part := by decide +kernel
  have w5_ : Cond.classLink RX4 58 nISE ∈ wsX4_part := by decide +kernel
  have w6_ : Cond.initialized nISE ∈ wsX4_part := by decide +kernel
  show PW Z (aX (zG Z) x rf ar pr er cf tf cb tb) L F 0 0 Q 0 [(0, .ref x), (1, .long co), (3, .long rs), (5, .int mm), (6, .int li), (7, .int me), (8, .int ra)] []
  refine pk_lload_n C 1 dX4_part_0 rfl rfl (pc2 := 1) rfl ?_
  refine pk_lconst (v := 1) C dX4_part_1 (by decide) (pc2 := 2) rfl ?_
  refine pk_ldc2 C w0_ dX4_part_2 (pc2 := 5) rfl ?_
  refine pk_dS (cx := []) (wr := (aX (zG Z) x rf ar pr er cf tf cb tb)) (X2 := (aX (zG Z) x rf ar pr er cf tf cb tb)) (st := []) (st2 := [.int (m_X4_isWithin co 1 (1000000000))]) (As := [.long co, .long 1, .long (1000000000)]) C (c_X4_isWithin (zl Z) (zG Z) L F co 1 (1000000000)) gX4_part_X4_isWithin rfl rfl rfl 3 (by decide +kernel) ⟨Nat.le_of_ble_eq_true rfl, Nat.le_of_ble_eq_true rfl⟩ rfl rfl (Nat.le_of_ble_eq_true rfl) ⟨Nat.le_of_ble_eq_true rfl, Nat.le_of_ble_eq_true rfl⟩ [] [0, 1, 2, 3, 4, 5, 6] [0, 1, 2, 3, 4, 5, 6] rfl rfl rfl rfl (by decide) rfl rfl dX4_part_5 (pc2 := 8) rfl rfl ?_
  refine pk_topi (fun n1_ en1_ => ?_)
  refine pk_if_eq (tgt := 24) C dX4_part_8 (by decide) (pc2 := 11) rfl (fun h1_ => ?_) (fun h1_ => ?_)
  ·
    refine pk_iconst (v := 0) C dX4_part_24 (by decide) (pc2 := 25) rfl ?_
    refine pk_istore (lv' := [(9, .int 0), (0, .ref x), (1, .long co), (3, .long rs), (5, .int mm), (6, .int li), (7, .int me), (8, .int ra)]) C dX4_part_25 (by decide) rfl (pc2 := 27) rfl ?_
    refine pk_iload C 4 dX4_part_27 rfl (pc2 := 29) rfl ?_
    refine pk_dS (cx := []) (wr := (aX (zG Z) x rf ar pr er cf tf cb tb)) (X2 := (aX (zG Z) x rf ar pr er cf tf cb tb)) (st := []) (st2 := [.int (m_X4_isMonth mm)]) (As := [.int mm]) C (c_X4_isMonth (zl Z) (zG Z) L F mm) gX4_part_X4_isMonth rfl rfl rfl 1 (by decide +kernel) ⟨Nat.le_of_ble_eq_true rfl, Nat.le_of_ble_eq_true rfl⟩ rfl rfl (Nat.le_of_ble_eq_true rfl) ⟨Nat.le_of_ble_eq_true rfl, Nat.le_of_ble_eq_true rfl⟩ [] [0, 1, 2, 3, 4, 5, 6] [0, 1, 2, 3, 4, 5, 6] rfl rfl rfl rfl (by decide) rfl rfl dX4_part_29 (pc2 := 32) rfl rfl ?_
    refine pk_topi (fun n2_ en2_ => ?_)
    refine pk_if_eq (tgt := 52) C dX4_part_32 (by decide) (pc2 := 35) rfl (fun h2_ => ?_) (fun h2_ => ?_)
    ·
      refine pk_iconst (v := 0) C dX4_part_52 (by decide) (pc2 := 53) rfl ?_
      refine pk_istore (lv' := [(10, .int 0), (9, .int 0), (0, .ref x), (1, .long co), (3, .long rs), (5, .int mm), (6, .int li), (7, .int me), (8, .int ra)]) C dX4_part_53 (by decide) rfl (pc2 := 55) rfl ?_
      refine pk_iload C 1 dX4_part_55 rfl (pc2 := 57) rfl ?_
      refine pk_if_eq (tgt := 75) C dX4_part_57 (by decide) (pc2 := 60) rfl (fun h3_ => ?_) (fun h3_ => ?_)
      rotate_left
      · exact absurd (by decide) h3_
      subst en1_ en2_
      have hq : q_X4_part ar pr er cf tf cb tb co rs mm li me ra = q_X4_part ar pr er cf tf cb tb co rs mm li me ra := rfl
      conv at hq => rhs; unfold q_X4_part
      try rw [if_pos h1_] at hq
      try rw [if_pos h2_] at hq
      exact px_throw (E := nIAE) C hX hE rfl (is := 49) (text := "these are not the terms of a part") (by decide) (Or.inl rfl) w1_ w2_ (fun w h => by first | exact List.mem_cons_of_mem _ (List.mem_append_right _ h) | exact List.mem_cons_of_mem _ (List.mem_append_left _ (List.mem_append_right _ h))) xt_51 xg_51 (by decide +kernel) (by decide +kernel) dX4_part_75 dX4_part_78 dX4_part_79 dX4_part_81 dX4_part_84 (Nat.le_of_ble_eq_true rfl) (Nat.le_of_ble_eq_true rfl) (Nat.le_of_ble_eq_true rfl) (Nat.le_of_ble_eq_true rfl) (Nat.le_of_ble_eq_true rfl) (Nat.le_of_ble_eq_true rfl) (Or.inl ⟨hq, rfl, rfl, rfl, rfl⟩)
    ·
      refine pk_iload C 5 dX4_part_35 rfl (pc2 := 37) rfl ?_
      refine pk_i2l C dX4_part_37 (pc2 := 38) rfl ?_
      refine pk_lconst (v := 1) C dX4_part_38 (by decide) (pc2 := 39) rfl ?_
      refine pk_ldc2 C w3_ dX4_part_39 (pc2 := 42) rfl ?_
      refine pk_dS (cx := []) (wr := (aX (zG Z) x rf ar pr er cf tf cb tb)) (X2 := (aX (zG Z) x rf ar pr er cf tf cb tb)) (st := []) (st2 := [.int (m_X4_isWithin (Int32.toInt64 li) 1 (36))]) (As := [.long (Int32.toInt64 li), .long 1, .long (36)]) C (c_X4_isWithin (zl Z) (zG Z) L F (Int32.toInt64 li) 1 (36)) gX4_part_X4_isWithin rfl rfl rfl 3 (by decide +kernel) ⟨Nat.le_of_ble_eq_true rfl, Nat.le_of_ble_eq_true rfl⟩ rfl rfl (Nat.le_of_ble_eq_true rfl) ⟨Nat.le_of_ble_eq_true rfl, Nat.le_of_ble_eq_true rfl⟩ [] [0, 1, 2, 3, 4, 5, 6] [0, 1, 2, 3, 4, 5, 6] rfl rfl rfl rfl (by decide) rfl rfl dX4_part_42 (pc2 := 45) rfl rfl ?_
      refine pk_topi (fun n3_ en3_ => ?_)
      refine pk_if_eq (tgt := 52) C dX4_part_45 (by decide) (pc2 := 48) rfl (fun h4_ => ?_) (fun h4_ => ?_)
      ·
        refine pk_iconst (v := 0) C dX4_part_52 (by decide) (pc2 := 53) rfl ?_
        refine pk_istore (lv' := [(10, .int 0), (9, .int 0), (0, .ref x), (1, .long co), (3, .long rs), (5, .int mm), (6, .int li), (7, .int me), (8, .int ra)]) C dX4_part_53 (by decide) rfl (pc2 := 55) rfl ?_
        refine pk_iload C 1 dX4_part_55 rfl (pc2 := 57) rfl ?_
        refine pk_if_eq (tgt := 75) C dX4_part_57 (by decide) (pc2 := 60) rfl (fun h5_ => ?_) (fun h5_ => ?_)
        rotate_left
        · exact absurd (by decide) h5_
        subst en1_ en2_ en3_
        have hq : q_X4_part ar pr er cf tf cb tb co rs mm li me ra = q_X4_part ar pr er cf tf cb tb co rs mm li me ra := rfl
        conv at hq => rhs; unfold q_X4_part
        try rw [if_pos h1_] at hq
        try rw [if_neg h2_] at hq
        try rw [if_pos h4_] at hq
        exact px_throw (E := nIAE) C hX hE rfl (is := 49) (text := "these are not the terms of a part") (by decide) (Or.inl rfl) w1_ w2_ (fun w h => by first | exact List.mem_cons_of_mem _ (List.mem_append_right _ h) | exact List.mem_cons_of_mem _ (List.mem_append_left _ (List.mem_append_right _ h))) xt_51 xg_51 (by decide +kernel) (by decide +kernel) dX4_part_75 dX4_part_78 dX4_part_79 dX4_part_81 dX4_part_84 (Nat.le_of_ble_eq_true rfl) (Nat.le_of_ble_eq_true rfl) (Nat.le_of_ble_eq_true rfl) (Nat.le_of_ble_eq_true rfl) (Nat.le_of_ble_eq_true rfl) (Nat.le_of_ble_eq_true rfl) (Or.inl ⟨hq, rfl, rfl, rfl, rfl⟩)
      ·
        refine pk_iconst (v := 1) C dX4_part_48 (by decide) (pc2 := 49) rfl ?_
        refine pk_goto (tgt := 53) C dX4_part_49 (by decide) ?_
        refine pk_istore (lv' := [(10, .int 1), (9, .int 0), (0, .ref x), (1, .long co), (3, .long rs), (5, .int mm), (6, .int li), (7, .int me), (8, .int ra)]) C dX4_part_53 (by decide) rfl (pc2 := 55) rfl ?_
        refine pk_iload C 1 dX4_part_55 rfl (pc2 := 57) rfl ?_
        refine pk_if_eq (tgt := 75) C dX4_part_57 (by decide) (pc2 := 60) rfl (fun h6_ => ?_) (fun h6_ => ?_)
        rotate_left
        · exact absurd (by decide) h6_
        subst en1_ en2_ en3_
        have hq : q_X4_part ar pr er cf tf cb tb co rs mm li me ra = q_X4_part ar pr er cf tf cb tb co rs mm li me ra := rfl
        conv at hq => rhs; unfold q_X4_part
        try rw [if_pos h1_] at hq
        try rw [if_neg h2_] at hq
        try rw [if_neg h4_] at hq
        exact px_throw (E := nIAE) C hX hE rfl (is := 49) (text := "these are not the terms of a part") (by decide) (Or.inl rfl) w1_ w2_ (fun w h => by first | exact List.mem_cons_of_mem _ (List.mem_append_right _ h) | exact List.mem_cons_of_mem _ (List.mem_append_left _ (List.mem_append_right _ h))) xt_51 xg_51 (by decide +kernel) (by decide +kernel) dX4_part_75 dX4_part_78 dX4_part_79 dX4_part_81 dX4_part_84 (Nat.le_of_ble_eq_true rfl) (Nat.le_of_ble_eq_true rfl) (Nat.le_of_ble_eq_true rfl) (Nat.le_of_ble_eq_true rfl) (Nat.le_of_ble_eq_true rfl) (Nat.le_of_ble_eq_true rfl) (Or.inl ⟨hq, rfl, rfl, rfl, rfl⟩)
  ·
    refine pk_lload_n C 2 dX4_part_11 rfl rfl (pc2 := 12) rfl ?_
    refine pk_lconst (v := 0) C dX4_part_12 (by decide) (pc2 := 13) rfl ?_
    refine pk_lload_n C 1 dX4_part_13 rfl rfl (pc2 := 14) rfl ?_
    refine pk_dS (cx := []) (wr := (aX (zG Z) x rf ar pr er cf tf cb tb)) (X2 := (aX (zG Z) x rf ar pr er cf tf cb tb)) (st := []) (st2 := [.int (m_X4_isWithin rs 0 co)]) (As := [.long rs, .long 0, .long co]) C (c_X4_isWithin (zl Z) (zG Z) L F rs 0 co) gX4_part_X4_isWithin rfl rfl rfl 3 (by decide +kernel) ⟨Nat.le_of_ble_eq_true rfl, Nat.le_of_ble_eq_true rfl⟩ rfl rfl (Nat.le_of_ble_eq_true rfl) ⟨Nat.le_of_ble_eq_true rfl, Nat.le_of_ble_eq_true rfl⟩ [] [0, 1, 2, 3, 4, 5, 6] [0, 1, 2, 3, 4, 5, 6] rfl rfl rfl rfl (by decide) rfl rfl dX4_part_14 (pc2 := 17) rfl rfl ?_
    refine pk_topi (fun n4_ en4_ => ?_)
    refine pk_if_eq (tgt := 24) C dX4_part_17 (by decide) (pc2 := 20) rfl (fun h7_ => ?_) (fun h7_ => ?_)
    ·
      refine pk_iconst (v := 0) C dX4_part_24 (by decide) (pc2 := 25) rfl ?_
      refine pk_istore (lv' := [(9, .int 0), (0, .ref x), (1, .long co), (3, .long rs), (5, .int mm), (6, .int li), (7, .int me), (8, .int ra)]) C dX4_part_25 (by decide) rfl (pc2 := 27) rfl ?_
      refine pk_iload C 4 dX4_part_27 rfl (pc2 := 29) rfl ?_
      refine pk_dS (cx := []) (wr := (aX (zG Z) x rf ar pr er cf tf cb tb)) (X2 := (aX (zG Z) x rf ar pr er cf tf cb tb)) (st := []) (st2 := [.int (m_X4_isMonth mm)]) (As := [.int mm]) C (c_X4_isMonth (zl Z) (zG Z) L F mm) gX4_part_X4_isMonth rfl rfl rfl 1 (by decide +kernel) ⟨Nat.le_of_ble_eq_true rfl, Nat.le_of_ble_eq_true rfl⟩ rfl rfl (Nat.le_of_ble_eq_true rfl) ⟨Nat.le_of_ble_eq_true rfl, Nat.le_of_ble_eq_true rfl⟩ [] [0, 1, 2, 3, 4, 5, 6] [0, 1, 2, 3, 4, 5, 6] rfl rfl rfl rfl (by decide) rfl rfl dX4_part_29 (pc2 := 32) rfl rfl ?_
      refine pk_topi (fun n5_ en5_ => ?_)
      refine pk_if_eq (tgt := 52) C dX4_part_32 (by decide) (pc2 := 35) rfl (fun h8_ => ?_) (fun h8_ => ?_)
      ·
        refine pk_iconst (v := 0) C dX4_part_52 (by decide) (pc2 := 53) rfl ?_
        refine pk_istore (lv' := [(10, .int 0), (9, .int 0), (0, .ref x), (1, .long co), (3, .long rs), (5, .int mm), (6, .int li), (7, .int me), (8, .int ra)]) C dX4_part_53 (by decide) rfl (pc2 := 55) rfl ?_
        refine pk_iload C 1 dX4_part_55 rfl (pc2 := 57) rfl ?_
        refine pk_if_eq (tgt := 75) C dX4_part_57 (by decide) (pc2 := 60) rfl (fun h9_ => ?_) (fun h9_ => ?_)
        rotate_left
        · exact absurd (by decide) h9_
        subst en1_ en4_ en5_
        have hq : q_X4_part ar pr er cf tf cb tb co rs mm li me ra = q_X4_part ar pr er cf tf cb tb co rs mm li me ra := rfl
        conv at hq => rhs; unfold q_X4_part
        try rw [if_neg h1_] at hq
        try rw [if_pos h7_] at hq
        try rw [if_pos h8_] at hq
        exact px_throw (E := nIAE) C hX hE rfl (is := 49) (text := "these are not the terms of a part") (by decide) (Or.inl rfl) w1_ w2_ (fun w h => by first | exact List.mem_cons_of_mem _ (List.mem_append_right _ h) | exact List.mem_cons_of_mem _ (List.mem_append_left _ (List.mem_append_right _ h))) xt_51 xg_51 (by decide +kernel) (by decide +kernel) dX4_part_75 dX4_part_78 dX4_part_79 dX4_part_81 dX4_part_84 (Nat.le_of_ble_eq_true rfl) (Nat.le_of_ble_eq_true rfl) (Nat.le_of_ble_eq_true rfl) (Nat.le_of_ble_eq_true rfl) (Nat.le_of_ble_eq_true rfl) (Nat.le_of_ble_eq_true rfl) (Or.inl ⟨hq, rfl, rfl, rfl, rfl⟩)
      ·
        refine pk_iload C 5 dX4_part_35 rfl (pc2 := 37) rfl ?_
        refine pk_i2l C dX4_part_37 (pc2 := 38) rfl ?_
        refine pk_lconst (v := 1) C dX4_part_38 (by decide) (pc2 := 39) rfl ?_
        refine pk_ldc2 C w3_ dX4_part_39 (pc2 := 42) rfl ?_
        refine pk_dS (cx := []) (wr := (aX (zG Z) x rf ar pr er cf tf cb tb)) (X2 := (aX (zG Z) x rf ar pr er cf tf cb tb)) (st := []) (st2 := [.int (m_X4_isWithin (Int32.toInt64 li) 1 (36))]) (As := [.long (Int32.toInt64 li), .long 1, .long (36)]) C (c_X4_isWithin (zl Z) (zG Z) L F (Int32.toInt64 li) 1 (36)) gX4_part_X4_isWithin rfl rfl rfl 3 (by decide +kernel) ⟨Nat.le_of_ble_eq_true rfl, Nat.le_of_ble_eq_true rfl⟩ rfl rfl (Nat.le_of_ble_eq_true rfl) ⟨Nat.le_of_ble_eq_true rfl, Nat.le_of_ble_eq_true rfl⟩ [] [0, 1, 2, 3, 4, 5, 6] [0, 1, 2, 3, 4, 5, 6] rfl rfl rfl rfl (by decide) rfl rfl dX4_part_42 (pc2 := 45) rfl rfl ?_
        refine pk_topi (fun n6_ en6_ => ?_)
        refine pk_if_eq (tgt := 52) C dX4_part_45 (by decide) (pc2 := 48) rfl (fun h10_ => ?_) (fun h10_ => ?_)
        ·
          refine pk_iconst (v := 0) C dX4_part_52 (by decide) (pc2 := 53) rfl ?_
          refine pk_istore (lv' := [(10, .int 0), (9, .int 0), (0, .ref x), (1, .long co), (3, .long rs), (5, .int mm), (6, .int li), (7, .int me), (8, .int ra)]) C dX4_part_53 (by decide) rfl (pc2 := 55) rfl ?_
          refine pk_iload C 1 dX4_part_55 rfl (pc2 := 57) rfl ?_
          refine pk_if_eq (tgt := 75) C dX4_part_57 (by decide) (pc2 := 60) rfl (fun h11_ => ?_) (fun h11_ => ?_)
          rotate_left
          · exact absurd (by decide) h11_
          subst en1_ en4_ en5_ en6_
          have hq : q_X4_part ar pr er cf tf cb tb co rs mm li me ra = q_X4_part ar pr er cf tf cb tb co rs mm li me ra := rfl
          conv at hq => rhs; unfold q_X4_part
          try rw [if_neg h1_] at hq
          try rw [if_pos h7_] at hq
          try rw [if_neg h8_] at hq
          try rw [if_pos h10_] at hq
          exact px_throw (E := nIAE) C hX hE rfl (is := 49) (text := "these are not the terms of a part") (by decide) (Or.inl rfl) w1_ w2_ (fun w h => by first | exact List.mem_cons_of_mem _ (List.mem_append_right _ h) | exact List.mem_cons_of_mem _ (List.mem_append_left _ (List.mem_append_right _ h))) xt_51 xg_51 (by decide +kernel) (by decide +kernel) dX4_part_75 dX4_part_78 dX4_part_79 dX4_part_81 dX4_part_84 (Nat.le_of_ble_eq_true rfl) (Nat.le_of_ble_eq_true rfl) (Nat.le_of_ble_eq_true rfl) (Nat.le_of_ble_eq_true rfl) (Nat.le_of_ble_eq_true rfl) (Nat.le_of_ble_eq_true rfl) (Or.inl ⟨hq, rfl, rfl, rfl, rfl⟩)
        ·
          refine pk_iconst (v := 1) C dX4_part_48 (by decide) (pc2 := 49) rfl ?_
          refine pk_goto (tgt := 53) C dX4_part_49 (by decide) ?_
          refine pk_istore (lv' := [(10, .int 1), (9, .int 0), (0, .ref x), (1, .long co), (3, .long rs), (5, .int mm), (6, .int li), (7, .int me), (8, .int ra)]) C dX4_part_53 (by decide) rfl (pc2 := 55) rfl ?_
          refine pk_iload C 1 dX4_part_55 rfl (pc2 := 57) rfl ?_
          refine pk_if_eq (tgt := 75) C dX4_part_57 (by decide) (pc2 := 60) rfl (fun h12_ => ?_) (fun h12_ => ?_)
          rotate_left
          · exact absurd (by decide) h12_
          subst en1_ en4_ en5_ en6_
          have hq : q_X4_part ar pr er cf tf cb tb co rs mm li me ra = q_X4_part ar pr er cf tf cb tb co rs mm li me ra := rfl
          conv at hq => rhs; unfold q_X4_part
          try rw [if_neg h1_] at hq
          try rw [if_pos h7_] at hq
          try rw [if_neg h8_] at hq
          try rw [if_neg h10_] at hq
          exact px_throw (E := nIAE) C hX hE rfl (is := 49) (text := "these are not the terms of a part") (by decide) (Or.inl rfl) w1_ w2_ (fun w h => by first | exact List.mem_cons_of_mem _ (List.mem_append_right _ h) | exact List.mem_cons_of_mem _ (List.mem_append_left _ (List.mem_append_right _ h))) xt_51 xg_51 (by decide +kernel) (by decide +kernel) dX4_part_75 dX4_part_78 dX4_part_79 dX4_part_81 dX4_part_84 (Nat.le_of_ble_eq_true rfl) (Nat.le_of_ble_eq_true rfl) (Nat.le_of_ble_eq_true rfl) (Nat.le_of_ble_eq_true rfl) (Nat.le_of_ble_eq_true rfl) (Nat.le_of_ble_eq_true rfl) (Or.inl ⟨hq, rfl, rfl, rfl, rfl⟩)
    ·
      refine pk_iconst (v := 1) C dX4_part_20 (by decide) (pc2 := 21) rfl ?_
      refine pk_goto (tgt := 25) C dX4_part_21 (by decide) ?_
      refine pk_istore (lv' := [(9, .int 1), (0, .ref x), (1, .long co), (3, .long rs), (5, .int mm), (6, .int li), (7, .int me), (8, .int ra)]) C dX4_part_25 (by decide) rfl (pc2 := 27) rfl ?_
      refine pk_iload C 4 dX4_part_27 rfl (pc2 := 29) rfl ?_
      refine pk_dS (cx := []) (wr := (aX (zG Z) x rf ar pr er cf tf cb tb)) (X2 := (aX (zG Z) x rf ar pr er cf tf cb tb)) (st := []) (st2 := [.int (m_X4_isMonth mm)]) (As := [.int mm]) C (c_X4_isMonth (zl Z) (zG Z) L F mm) gX4_part_X4_isMonth rfl rfl rfl 1 (by decide +kernel) ⟨Nat.le_of_ble_eq_true rfl, Nat.le_of_ble_eq_true rfl⟩ rfl rfl (Nat.le_of_ble_eq_true rfl) ⟨Nat.le_of_ble_eq_true rfl, Nat.le_of_ble_eq_true rfl⟩ [] [0, 1, 2, 3, 4, 5, 6] [0, 1, 2, 3, 4, 5, 6] rfl rfl rfl rfl (by decide) rfl rfl dX4_part_29 (pc2 := 32) rfl rfl ?_
      refine pk_topi (fun n7_ en7_ => ?_)
      refine pk_if_eq (tgt := 52) C dX4_part_32 (by decide) (pc2 := 35) rfl (fun h13_ => ?_) (fun h13_ => ?_)
      ·
        refine pk_iconst (v := 0) C dX4_part_52 (by decide) (pc2 := 53) rfl ?_
        refine pk_istore (lv' := [(10, .int 0), (9, .int 1), (0, .ref x), (1, .long co), (3, .long rs), (5, .int mm), (6, .int li), (7, .int me), (8, .int ra)]) C dX4_part_53 (by decide) rfl (pc2 := 55) rfl ?_
        refine pk_iload C 1 dX4_part_55 rfl (pc2 := 57) rfl ?_
        refine pk_if_eq (tgt := 75) C dX4_part_57 (by decide) (pc2 := 60) rfl (fun h14_ => ?_) (fun h14_ => ?_)
        · exact absurd h14_ (by decide)
        refine pk_iload C 0 dX4_part_60 rfl (pc2 := 62) rfl ?_
        refine pk_if_eq (tgt := 75) C dX4_part_62 (by decide) (pc2 := 65) rfl (fun h15_ => ?_) (fun h15_ => ?_)
        rotate_left
        · exact absurd (by decide) h15_
        subst en1_ en4_ en7_
        have hq : q_X4_part ar pr er cf tf cb tb co rs mm li me ra = q_X4_part ar pr er cf tf cb tb co rs mm li me ra := rfl
        conv at hq => rhs; unfold q_X4_part
        try rw [if_neg h1_] at hq
        try rw [if_neg h7_] at hq
        try rw [if_pos h13_] at hq
        exact px_throw (E := nIAE) C hX hE rfl (is := 49) (text := "these are not the terms of a part") (by decide) (Or.inl rfl) w1_ w2_ (fun w h => by first | exact List.mem_cons_of_mem _ (List.mem_append_right _ h) | exact List.mem_cons_of_mem _ (List.mem_append_left _ (List.mem_append_right _ h))) xt_51 xg_51 (by decide +kernel) (by decide +kernel) dX4_part_75 dX4_part_78 dX4_part_79 dX4_part_81 dX4_part_84 (Nat.le_of_ble_eq_true rfl) (Nat.le_of_ble_eq_true rfl) (Nat.le_of_ble_eq_true rfl) (Nat.le_of_ble_eq_true rfl) (Nat.le_of_ble_eq_true rfl) (Nat.le_of_ble_eq_true rfl) (Or.inl ⟨hq, rfl, rfl, rfl, rfl⟩)
      ·
        refine pk_iload C 5 dX4_part_35 rfl (pc2 := 37) rfl ?_
        refine pk_i2l C dX4_part_37 (pc2 := 38) rfl ?_
        refine pk_lconst (v := 1) C dX4_part_38 (by decide) (pc2 := 39) rfl ?_
        refine pk_ldc2 C w3_ dX4_part_39 (pc2 := 42) rfl ?_
        refine pk_dS (cx := []) (wr := (aX (zG Z) x rf ar pr er cf tf cb tb)) (X2 := (aX (zG Z) x rf ar pr er cf tf cb tb)) (st := []) (st2 := [.int (m_X4_isWithin (Int32.toInt64 li) 1 (36))]) (As := [.long (Int32.toInt64 li), .long 1, .long (36)]) C (c_X4_isWithin (zl Z) (zG Z) L F (Int32.toInt64 li) 1 (36)) gX4_part_X4_isWithin rfl rfl rfl 3 (by decide +kernel) ⟨Nat.le_of_ble_eq_true rfl, Nat.le_of_ble_eq_true rfl⟩ rfl rfl (Nat.le_of_ble_eq_true rfl) ⟨Nat.le_of_ble_eq_true rfl, Nat.le_of_ble_eq_true rfl⟩ [] [0, 1, 2, 3, 4, 5, 6] [0, 1, 2, 3, 4, 5, 6] rfl rfl rfl rfl (by decide) rfl rfl dX4_part_42 (pc2 := 45) rfl rfl ?_
        refine pk_topi (fun n8_ en8_ => ?_)
        refine pk_if_eq (tgt := 52) C dX4_part_45 (by decide) (pc2 := 48) rfl (fun h16_ => ?_) (fun h16_ => ?_)
        ·
          refine pk_iconst (v := 0) C dX4_part_52 (by decide) (pc2 := 53) rfl ?_
          refine pk_istore (lv' := [(10, .int 0), (9, .int 1), (0, .ref x), (1, .long co), (3, .long rs), (5, .int mm), (6, .int li), (7, .int me), (8, .int ra)]) C dX4_part_53 (by decide) rfl (pc2 := 55) rfl ?_
          refine pk_iload C 1 dX4_part_55 rfl (pc2 := 57) rfl ?_
          refine pk_if_eq (tgt := 75) C dX4_part_57 (by decide) (pc2 := 60) rfl (fun h17_ => ?_) (fun h17_ => ?_)
          · exact absurd h17_ (by decide)
          refine pk_iload C 0 dX4_part_60 rfl (pc2 := 62) rfl ?_
          refine pk_if_eq (tgt := 75) C dX4_part_62 (by decide) (pc2 := 65) rfl (fun h18_ => ?_) (fun h18_ => ?_)
          rotate_left
          · exact absurd (by decide) h18_
          subst en1_ en4_ en7_ en8_
          have hq : q_X4_part ar pr er cf tf cb tb co rs mm li me ra = q_X4_part ar pr er cf tf cb tb co rs mm li me ra := rfl
          conv at hq => rhs; unfold q_X4_part
          try rw [if_neg h1_] at hq
          try rw [if_neg h7_] at hq
          try rw [if_neg h13_] at hq
          try rw [if_pos h16_] at hq
          exact px_throw (E := nIAE) C hX hE rfl (is := 49) (text := "these are not the terms of a part") (by decide) (Or.inl rfl) w1_ w2_ (fun w h => by first | exact List.mem_cons_of_mem _ (List.mem_append_right _ h) | exact List.mem_cons_of_mem _ (List.mem_append_left _ (List.mem_append_right _ h))) xt_51 xg_51 (by decide +kernel) (by decide +kernel) dX4_part_75 dX4_part_78 dX4_part_79 dX4_part_81 dX4_part_84 (Nat.le_of_ble_eq_true rfl) (Nat.le_of_ble_eq_true rfl) (Nat.le_of_ble_eq_true rfl) (Nat.le_of_ble_eq_true rfl) (Nat.le_of_ble_eq_true rfl) (Nat.le_of_ble_eq_true rfl) (Or.inl ⟨hq, rfl, rfl, rfl, rfl⟩)
        ·
          refine pk_iconst (v := 1) C dX4_part_48 (by decide) (pc2 := 49) rfl ?_
          refine pk_goto (tgt := 53) C dX4_part_49 (by decide) ?_
          refine pk_istore (lv' := [(10, .int 1), (9, .int 1), (0, .ref x), (1, .long co), (3, .long rs), (5, .int mm), (6, .int li), (7, .int me), (8, .int ra)]) C dX4_part_53 (by decide) rfl (pc2 := 55) rfl ?_
          refine pk_iload C 1 dX4_part_55 rfl (pc2 := 57) rfl ?_
          refine pk_if_eq (tgt := 75) C dX4_part_57 (by decide) (pc2 := 60) rfl (fun h19_ => ?_) (fun h19_ => ?_)
          · exact absurd h19_ (by decide)
          refine pk_iload C 0 dX4_part_60 rfl (pc2 := 62) rfl ?_
          refine pk_if_eq (tgt := 75) C dX4_part_62 (by decide) (pc2 := 65) rfl (fun h20_ => ?_) (fun h20_ => ?_)
          · exact absurd h20_ (by decide)
          refine pk_iload C 7 dX4_part_65 rfl (pc2 := 67) rfl ?_
          refine pk_iload C 8 dX4_part_67 rfl (pc2 := 69) rfl ?_
          refine pk_dS (cx := []) (wr := (aX (zG Z) x rf ar pr er cf tf cb tb)) (X2 := (aX (zG Z) x rf ar pr er cf tf cb tb)) (st := []) (st2 := [.int (m_X4_isRateOf me ra)]) (As := [.int me, .int ra]) C (c_X4_isRateOf (zl Z) (zG Z) L F me ra) gX4_part_X4_isRateOf rfl rfl rfl 2 (by decide +kernel) ⟨Nat.le_of_ble_eq_true rfl, Nat.le_of_ble_eq_true rfl⟩ rfl rfl (Nat.le_of_ble_eq_true rfl) ⟨Nat.le_of_ble_eq_true rfl, Nat.le_of_ble_eq_true rfl⟩ [] [0, 1, 2, 3, 4, 5, 6] [0, 1, 2, 3, 4, 5, 6] rfl rfl rfl rfl (by decide) rfl rfl dX4_part_69 (pc2 := 72) rfl rfl ?_
          refine pk_topi (fun n9_ en9_ => ?_)
          refine pk_if_ne (tgt := 85) C dX4_part_72 (by decide) (pc2 := 75) rfl (fun h21_ => ?_) (fun h21_ => ?_)
          ·
            refine pk_aload_n C 2 dX4_part_85 rfl rfl (pc2 := 86) rfl ?_
            refine pk_get (v := .int (A_pc ar)) C i4_ (pw_atX 0 rfl) (ci := 4) rfl 4 (by decide) w4_ rfl rfl dX4_part_86 (pc2 := 89) rfl ?_
            refine pk_bipush (v := 6) C dX4_part_89 (by decide) (pc2 := 91) rfl ?_
            refine pk_icmp_lt (tgt := 104) C dX4_part_91 (by decide) (pc2 := 94) rfl (fun h22_ => ?_) (fun h22_ => ?_)
            ·
              refine pw_lv [2, 3, 4, 5, 6, 7, 8] (lv' := [(0, .ref x), (1, .long co), (3, .long rs), (5, .int mm), (6, .int li), (7, .int me), (8, .int ra)]) rfl ?_
              have hp6 := hpc6 h22_
              subst en1_ en4_ en7_ en8_ en9_
              have hq : q_X4_part ar pr er cf tf cb tb co rs mm li me ra = q_X4_part ar pr er cf tf cb tb co rs mm li me ra := rfl
              conv at hq => rhs; unfold q_X4_part
              try rw [if_neg h1_] at hq
              try rw [if_neg h7_] at hq
              try rw [if_neg h13_] at hq
              try rw [if_neg h16_] at hq
              try rw [if_neg h21_] at hq
              try rw [if_pos h22_] at hq
              exact t1_X4_part C hX hE (fun r X' L' F' h => Or.inr (Or.inr ⟨hq, h⟩)) hp6
            ·
              subst en1_ en4_ en7_ en8_ en9_
              have hq : q_X4_part ar pr er cf tf cb tb co rs mm li me ra = q_X4_part ar pr er cf tf cb tb co rs mm li me ra := rfl
              conv at hq => rhs; unfold q_X4_part
              try rw [if_neg h1_] at hq
              try rw [if_neg h7_] at hq
              try rw [if_neg h13_] at hq
              try rw [if_neg h16_] at hq
              try rw [if_neg h21_] at hq
              try rw [if_neg h22_] at hq
              exact px_throw (E := nISE) C hX hE rfl (is := 60) (text := "there are 6 parts") (by decide) (Or.inr rfl) w5_ w6_ (fun w h => by first | exact List.mem_cons_of_mem _ (List.mem_append_right _ h) | exact List.mem_cons_of_mem _ (List.mem_append_left _ (List.mem_append_right _ h))) xt_62 xg_62 (by decide +kernel) (by decide +kernel) dX4_part_94 dX4_part_97 dX4_part_98 dX4_part_100 dX4_part_103 (Nat.le_of_ble_eq_true rfl) (Nat.le_of_ble_eq_true rfl) (Nat.le_of_ble_eq_true rfl) (Nat.le_of_ble_eq_true rfl) (Nat.le_of_ble_eq_true rfl) (Nat.le_of_ble_eq_true rfl) (Or.inr (Or.inl ⟨hq, rfl, rfl, rfl, rfl⟩))
          ·
            subst en1_ en4_ en7_ en8_ en9_
            have hq : q_X4_part ar pr er cf tf cb tb co rs mm li me ra = q_X4_part ar pr er cf tf cb tb co rs mm li me ra := rfl
            conv at hq => rhs; unfold q_X4_part
            try rw [if_neg h1_] at hq
            try rw [if_neg h7_] at hq
            try rw [if_neg h13_] at hq
            try rw [if_neg h16_] at hq
            try rw [if_pos h21_] at hq
            exact px_throw (E := nIAE) C hX hE rfl (is := 49) (text := "these are not the terms of a part") (by decide) (Or.inl rfl) w1_ w2_ (fun w h => by first | exact List.mem_cons_of_mem _ (List.mem_append_right _ h) | exact List.mem_cons_of_mem _ (List.mem_append_left _ (List.mem_append_right _ h))) xt_51 xg_51 (by decide +kernel) (by decide +kernel) dX4_part_75 dX4_part_78 dX4_part_79 dX4_part_81 dX4_part_84 (Nat.le_of_ble_eq_true rfl) (Nat.le_of_ble_eq_true rfl) (Nat.le_of_ble_eq_true rfl) (Nat.le_of_ble_eq_true rfl) (Nat.le_of_ble_eq_true rfl) (Nat.le_of_ble_eq_true rfl) (Or.inl ⟨hq, rfl, rfl, rfl, rfl⟩)

def m_X4_value_0 (ar : AR) (pr : (Nat → Option Nat)) (er : (Nat → Option Nat)) (cf : CR) (tf : SR) (cb : CR) (tb : SR) (pt : PR) (us : Nat → Int32) (es : Nat → Option Nat) (evf : Nat → ER) (i : Int32) (mm : Int32) (wh : Int32) : Int32 × Int64 × CR × SR × CR × SR :=
  (match (m_X4_partOf ar pr er cf tf cb tb i) with | none => (1, 0, cf, tf, cb, tb) | some p1_ => if (m_X4_isMonth mm) = 0 then (1, 0, cf, tf, cb, tb) else if (m_X4_isWithin (Int32.toInt64 wh) 0 (6)) = 0 then (1, 0, cf, tf, cb, tb) else if (P_fi pt) ≤ mm then if wh = 0 then (0, (C_co ((m_X4_follow pt us es evf cf tf cb tb mm).1)), ((m_X4_follow pt us es evf cf tf cb tb mm).1), ((m_X4_follow pt us es evf cf tf cb tb mm).2.1), ((m_X4_follow pt us es evf cf tf cb tb mm).2.2.1), ((m_X4_follow pt us es evf cf tf cb tb mm).2.2.2)) else if wh = 1 then (0, (C_al ((m_X4_follow pt us es evf cf tf cb tb mm).1)), ((m_X4_follow pt us es evf cf tf cb tb mm).1), ((m_X4_follow pt us es evf cf tf cb tb mm).2.1), ((m_X4_follow pt us es evf cf tf cb tb mm).2.2.1), ((m_X4_follow pt us es evf cf tf cb tb mm).2.2.2)) else if wh = 2 then (0, (m_X0_book ((m_X4_follow pt us es evf cf tf cb tb mm).1) ((m_X4_follow pt us es evf cf tf cb tb mm).2.1)), ((m_X4_follow pt us es evf cf tf cb tb mm).1), ((m_X4_follow pt us es evf cf tf cb tb mm).2.1), ((m_X4_follow pt us es evf cf tf cb tb mm).2.2.1), ((m_X4_follow pt us es evf cf tf cb tb mm).2.2.2)) else if wh = 3 then (0, (C_re ((m_X4_follow pt us es evf cf tf cb tb mm).1)), ((m_X4_follow pt us es evf cf tf cb tb mm).1), ((m_X4_follow pt us es evf cf tf cb tb mm).2.1), ((m_X4_follow pt us es evf cf tf cb tb mm).2.2.1), ((m_X4_follow pt us es evf cf tf cb tb mm).2.2.2)) else if wh = 4 then (0, (C_lo ((m_X4_follow pt us es evf cf tf cb tb mm).1)), ((m_X4_follow pt us es evf cf tf cb tb mm).1), ((m_X4_follow pt us es evf cf tf cb tb mm).2.1), ((m_X4_follow pt us es evf cf tf cb tb mm).2.2.1), ((m_X4_follow pt us es evf cf tf cb tb mm).2.2.2)) else if wh = 5 then (0, (C_rs ((m_X4_follow pt us es evf cf tf cb tb mm).1)), ((m_X4_follow pt us es evf cf tf cb tb mm).1), ((m_X4_follow pt us es evf cf tf cb tb mm).2.1), ((m_X4_follow pt us es evf cf tf cb tb mm).2.2.1), ((m_X4_follow pt us es evf cf tf cb tb mm).2.2.2)) else (0, (Int32.toInt64 (C_li ((m_X4_follow pt us es evf cf tf cb tb mm).1))), ((m_X4_follow pt us es evf cf tf cb tb mm).1), ((m_X4_follow pt us es evf cf tf cb tb mm).2.1), ((m_X4_follow pt us es evf cf tf cb tb mm).2.2.1), ((m_X4_follow pt us es evf cf tf cb tb mm).2.2.2)) else (0, 0, cf, tf, cb, tb))
def m_X4_value (ar : AR) (pr : (Nat → Option Nat)) (er : (Nat → Option Nat)) (cf : CR) (tf : SR) (cb : CR) (tb : SR) (pt : PR) (us : Nat → Int32) (es : Nat → Option Nat) (evf : Nat → ER) (i : Int32) (mm : Int32) (wh : Int32) : Int32 × Int64 × CR × SR × CR × SR := m_X4_value_0 ar pr er cf tf cb tb pt us es evf i mm wh
set_option maxRecDepth 100000 in
set_option maxHeartbeats 2000000 in
theorem t0_X4_value {Z : pw_Z} {Q : State → Prop} {L : List Nat} {F : Nat → va_E} {x : Nat} {rf : Nat → Nat} {u w q : Nat} {ps : Nat → Int64} {ar : AR} {pr : (Nat → Option Nat)} {er : (Nat → Option Nat)} {cf : CR} {tf : SR} {cb : CR} {tb : SR} {pt : PR} {us : Nat → Int32} {es : Nat → Option Nat} {evf : Nat → ER} {i : Int32} {mm : Int32} {wh : Int32} (C : pw_C Z cX4_value 5 RX4 wsX4_value ⟨6, 1, 6, 129⟩ (some .long)) (hX : pw_CX Z) {X9 : va_W} {R : Int32 × Int64 × CR × SR × CR × SR} (hE : pw_EndX Z Q X9 L F (ox_d (R.1) (some (.long (R.2.1))) (aX (zG Z) x rf ar pr er (R.2.2.1) (R.2.2.2.1) (R.2.2.2.2.1) (R.2.2.2.2.2)) L F) 1 6) (hpc : (A_pc ar).toInt ≤ 6) (hpp : ∀ a, m_X4_partOf ar pr er cf tf cb tb i = some a → (pA (zG Z) L F a u w q pt us es ps evf) ∧ ∃ fm, fm ≤ 35 ∧ P_fi pt = nI fm) (hR : m_X4_value_0 ar pr er cf tf cb tb pt us es evf i mm wh = R) : PW Z (aX (zG Z) x rf ar pr er cf tf cb tb) L F 0 0 Q 0 [(0, .ref x), (1, .int i), (2, .int mm), (3, .int wh)] [] := by
  have i2_ : ∀ w ∈ wsX20, w ∈ wsX4_value := by decide +kernel
  have i4_ : ∀ w ∈ wsX40, w ∈ wsX4_value := by decide +kernel
  have i0_ : ∀ w ∈ wsX00, w ∈ wsX4_value := by decide +kernel
  have w0_ : Cond.classLink RX4 47 nIAE ∈ wsX4_value := by decide +kernel
  have w1_ : Cond.initialized nIAE ∈ wsX4_value := by decide +kernel
  have w2_ : Cond.constantLong RX4 123 (6) ∈ wsX4_value := by decide +kernel
  have w3_ : Cond.fieldLink RX4 84 "AgedAssets$Part" "firstMonth" "I" ∈ wsX4_value := by decide +kernel
  have w4_ : Cond.fieldLink RX4 24 "AgedAssets" "full" "LAgedAssets$Course;" ∈ wsX4_value := by decide +kernel
  have w5_ : Cond.fieldLinkNest RX4 131 RX0 "cost" "J" RX4 ∈ pw_N := by decide +kernel
  have w6_ : Cond.fieldLinkNest RX4 135 RX0 "allowance" "J" RX4 ∈ pw_N := by decide +kernel
  have w7_ : Cond.fieldLinkNest RX4 142 RX0 "reserve" "J" RX4 ∈ pw_N := by decide +kernel
  have w8_ : Cond.fieldLinkNest RX4 145 RX0 "losses" "J" RX4 ∈ pw_N := by decide +kernel
  have w9_ : Cond.fieldLinkNest RX4 148 RX0 "residual" "J" RX4 ∈ pw_N := by decide +kernel
  have w10_ : Cond.fieldLinkNest RX4 151 RX0 "restOfLife" "I" RX4 ∈ pw_N := by decide +kernel
  refine pk_aload_n C 0 dX4_value_0 rfl rfl (pc2 := 1) rfl ?_
  refine pk_iload_n C 1 dX4_value_1 rfl rfl (pc2 := 2) rfl ?_
  refine pk_dV (cx := (aX (zG Z) x rf ar pr er cf tf cb tb)) (wr := []) (X2 := (aX (zG Z) x rf ar pr er cf tf cb tb)) (st := []) (st2 := [(va_rf (m_X4_partOf ar pr er cf tf cb tb i))]) (As := [.int i]) C (c_X4_partOf (zl Z) (zG Z) L F x rf ar pr er cf tf cb tb i hpc) gX4_value_X4_partOf rfl rfl rfl 1 (by decide +kernel) ⟨Nat.le_of_ble_eq_true rfl, Nat.le_of_ble_eq_true rfl⟩ (pw_atX 0 rfl) rfl rfl rfl (Nat.le_of_ble_eq_true rfl) ⟨Nat.le_of_ble_eq_true rfl, Nat.le_of_ble_eq_true rfl⟩ [0, 1, 2, 3, 4, 5, 6] [] [0, 1, 2, 3, 4, 5, 6] rfl rfl rfl rfl (by decide) rfl rfl dX4_value_2 (pc2 := 5) rfl rfl ?_
  rcases h1_ : (m_X4_partOf ar pr er cf tf cb tb i) with _ | p1_
  ·
    refine pk_astoreN (lv' := [(4, .null), (0, .ref x), (1, .int i), (2, .int mm), (3, .int wh)]) C dX4_value_5 (by decide) rfl (pc2 := 7) rfl ?_
    refine pk_aloadN C 0 dX4_value_7 rfl (pc2 := 9) rfl ?_
    refine pk_ifnull_n (tgt := 31) C dX4_value_9 (by decide) ?_
    unfold m_X4_value_0 at hR
    try simp only [h1_] at hR
    subst hR
    exact px_throw (E := nIAE) C hX hE rfl (is := 125) (text := "no such part, month or what") (by decide) (Or.inl rfl) w0_ w1_ (fun w h => by first | exact List.mem_cons_of_mem _ (List.mem_append_right _ h) | exact List.mem_cons_of_mem _ (List.mem_append_left _ (List.mem_append_right _ h))) xt_51 xg_51 (by decide +kernel) (by decide +kernel) dX4_value_31 dX4_value_34 dX4_value_35 dX4_value_37 dX4_value_40 (Nat.le_of_ble_eq_true rfl) (Nat.le_of_ble_eq_true rfl) (Nat.le_of_ble_eq_true rfl) (Nat.le_of_ble_eq_true rfl) (Nat.le_of_ble_eq_true rfl) (Nat.le_of_ble_eq_true rfl) ⟨Or.inl ⟨rfl, rfl⟩, rfl, rfl, rfl⟩
  ·
    have hxp1_ := hpp _ h1_
    obtain ⟨hp1_, fm_, hfm_, hfi_⟩ := hxp1_
    refine pk_astore (lv' := [(4, .ref p1_), (0, .ref x), (1, .int i), (2, .int mm), (3, .int wh)]) C dX4_value_5 (by decide) rfl (pc2 := 7) rfl ?_
    refine pk_aload C 0 dX4_value_7 rfl (pc2 := 9) rfl ?_
    refine pk_ifnull_r C dX4_value_9 (pc2 := 12) rfl ?_
    refine pk_iload_n C 3 dX4_value_12 rfl rfl (pc2 := 13) rfl ?_
    refine pk_dS (cx := []) (wr := (aX (zG Z) x rf ar pr er cf tf cb tb)) (X2 := (aX (zG Z) x rf ar pr er cf tf cb tb)) (st := []) (st2 := [.int (m_X4_isMonth mm)]) (As := [.int mm]) C (c_X4_isMonth (zl Z) (zG Z) L F mm) gX4_value_X4_isMonth rfl rfl rfl 1 (by decide +kernel) ⟨Nat.le_of_ble_eq_true rfl, Nat.le_of_ble_eq_true rfl⟩ rfl rfl (Nat.le_of_ble_eq_true rfl) ⟨Nat.le_of_ble_eq_true rfl, Nat.le_of_ble_eq_true rfl⟩ [] [0, 1, 2, 3, 4, 5, 6] [0, 1, 2, 3, 4, 5, 6] rfl rfl rfl rfl (by decide) rfl rfl dX4_value_13 (pc2 := 16) rfl rfl ?_
    refine pk_topi (fun n1_ en1_ => ?_)
    refine pk_if_eq (tgt := 31) C dX4_value_16 (by decide) (pc2 := 19) rfl (fun h2_ => ?_) (fun h2_ => ?_)
    ·
      subst en1_
      unfold m_X4_value_0 at hR
      try simp only [h1_] at hR
      try rw [if_pos h2_] at hR
      subst hR
      exact px_throw (E := nIAE) C hX hE rfl (is := 125) (text := "no such part, month or what") (by decide) (Or.inl rfl) w0_ w1_ (fun w h => by first | exact List.mem_cons_of_mem _ (List.mem_append_right _ h) | exact List.mem_cons_of_mem _ (List.mem_append_left _ (List.mem_append_right _ h))) xt_51 xg_51 (by decide +kernel) (by decide +kernel) dX4_value_31 dX4_value_34 dX4_value_35 dX4_value_37 dX4_value_40 (Nat.le_of_ble_eq_true rfl) (Nat.le_of_ble_eq_true rfl) (Nat.le_of_ble_eq_true rfl) (Nat.le_of_ble_eq_true rfl) (Nat.le_of_ble_eq_true rfl) (Nat.le_of_ble_eq_true rfl) ⟨Or.inl ⟨rfl, rfl⟩, rfl, rfl, rfl⟩
    ·
      refine pk_iload_n C 4 dX4_value_19 rfl rfl (pc2 := 20) rfl ?_
      refine pk_i2l C dX4_value_20 (pc2 := 21) rfl ?_
      refine pk_lconst (v := 0) C dX4_value_21 (by decide) (pc2 := 22) rfl ?_
      refine pk_ldc2 C w2_ dX4_value_22 (pc2 := 25) rfl ?_
      refine pk_dS (cx := []) (wr := (aX (zG Z) x rf ar pr er cf tf cb tb)) (X2 := (aX (zG Z) x rf ar pr er cf tf cb tb)) (st := []) (st2 := [.int (m_X4_isWithin (Int32.toInt64 wh) 0 (6))]) (As := [.long (Int32.toInt64 wh), .long 0, .long (6)]) C (c_X4_isWithin (zl Z) (zG Z) L F (Int32.toInt64 wh) 0 (6)) gX4_value_X4_isWithin rfl rfl rfl 3 (by decide +kernel) ⟨Nat.le_of_ble_eq_true rfl, Nat.le_of_ble_eq_true rfl⟩ rfl rfl (Nat.le_of_ble_eq_true rfl) ⟨Nat.le_of_ble_eq_true rfl, Nat.le_of_ble_eq_true rfl⟩ [] [0, 1, 2, 3, 4, 5, 6] [0, 1, 2, 3, 4, 5, 6] rfl rfl rfl rfl (by decide) rfl rfl dX4_value_25 (pc2 := 28) rfl rfl ?_
      refine pk_topi (fun n2_ en2_ => ?_)
      refine pk_if_ne (tgt := 41) C dX4_value_28 (by decide) (pc2 := 31) rfl (fun h3_ => ?_) (fun h3_ => ?_)
      ·
        have hmm_ := isMonth4_in (p := mm) (by rw [← en1_]; exact h2_)
        refine pk_iload_n C 3 dX4_value_41 rfl rfl (pc2 := 42) rfl ?_
        refine pk_aload C 0 dX4_value_42 rfl (pc2 := 44) rfl ?_
        refine pk_get (v := .int (P_fi pt)) C i2_ (pw_atP hp1_.1.1 hp1_.1.2) (ci := 2) rfl 2 (by decide) w3_ rfl rfl dX4_value_44 (pc2 := 47) rfl ?_
        refine pk_icmp_ge (tgt := 52) C dX4_value_47 (by decide) (pc2 := 50) rfl (fun h4_ => ?_) (fun h4_ => ?_)
        ·
          refine pk_aload_n C 1 dX4_value_52 rfl rfl (pc2 := 53) rfl ?_
          refine pk_aload C 0 dX4_value_53 rfl (pc2 := 55) rfl ?_
          refine pk_iload_n C 3 dX4_value_55 rfl rfl (pc2 := 56) rfl ?_
          refine pk_dV (cx := (aX (zG Z) x rf ar pr er cf tf cb tb)) (wr := []) (X2 := (aX (zG Z) x rf ar pr er ((m_X4_follow pt us es evf cf tf cb tb mm).1) ((m_X4_follow pt us es evf cf tf cb tb mm).2.1) ((m_X4_follow pt us es evf cf tf cb tb mm).2.2.1) ((m_X4_follow pt us es evf cf tf cb tb mm).2.2.2))) (st := []) (st2 := []) (As := [.ref p1_, .int mm]) C (c_X4_follow (zl Z) (zG Z) L F x rf ar pr er cf tf cb tb p1_ u w q pt us es ps evf hp1_ fm_ hfm_ hfi_ mm (mi_35 hmm_)) gX4_value_X4_follow rfl rfl rfl 2 (by decide +kernel) ⟨Nat.le_of_ble_eq_true rfl, Nat.le_of_ble_eq_true rfl⟩ (pw_atX 0 rfl) rfl rfl rfl (Nat.le_of_ble_eq_true rfl) ⟨Nat.le_of_ble_eq_true rfl, Nat.le_of_ble_eq_true rfl⟩ [0, 1, 2, 3, 4, 5, 6] [] [0, 1, 2, 3, 4, 5, 6] rfl rfl rfl rfl (by decide) rfl rfl dX4_value_56 (pc2 := 59) rfl rfl ?_
          generalize en3_ : ((m_X4_follow pt us es evf cf tf cb tb mm).1) = n3_
          generalize en4_ : ((m_X4_follow pt us es evf cf tf cb tb mm).2.1) = n4_
          generalize en5_ : ((m_X4_follow pt us es evf cf tf cb tb mm).2.2.1) = n5_
          generalize en6_ : ((m_X4_follow pt us es evf cf tf cb tb mm).2.2.2) = n6_
          refine pk_iload_n C 4 dX4_value_59 rfl rfl (pc2 := 60) rfl ?_
          by_cases h5_ : wh = 0
          ·
            refine pk_tableIn (tgt := 100) C dX4_value_60 (by rw [h5_]; decide) (by rw [h5_]; decide) (by rw [h5_]; first | done | rfl) (by decide) ?_
            refine pk_aload_n C 1 dX4_value_100 rfl rfl (pc2 := 101) rfl ?_
            refine pk_get (v := .ref (rf 2)) C i4_ (pw_atX 0 rfl) (ci := 4) rfl 2 (by decide) w4_ rfl rfl dX4_value_101 (pc2 := 104) rfl ?_
            refine pk_getN (v := .long (C_co n3_)) C i0_ (pw_atX 3 rfl) (ci := 0) rfl 3 (by decide) w5_ rfl rfl dX4_value_104 (pc2 := 107) rfl ?_
            subst en1_ en2_ en3_ en4_ en5_ en6_
            unfold m_X4_value_0 at hR
            try simp only [h1_] at hR
            try rw [if_neg h2_] at hR
            try rw [if_neg h3_] at hR
            try rw [if_pos h4_] at hR
            try rw [if_pos h5_] at hR
            subst hR
            exact px_ret hE (Nat.le_of_ble_eq_true rfl) (Nat.le_of_ble_eq_true rfl) (fun Q' hE' => pr_long C hE' ⟨⟨rfl, rfl⟩, rfl, rfl, rfl⟩ dX4_value_107)
          by_cases h6_ : wh = 1
          ·
            refine pk_tableIn (tgt := 108) C dX4_value_60 (by rw [h6_]; decide) (by rw [h6_]; decide) (by rw [h6_]; first | done | rfl) (by decide) ?_
            refine pk_aload_n C 1 dX4_value_108 rfl rfl (pc2 := 109) rfl ?_
            refine pk_get (v := .ref (rf 2)) C i4_ (pw_atX 0 rfl) (ci := 4) rfl 2 (by decide) w4_ rfl rfl dX4_value_109 (pc2 := 112) rfl ?_
            refine pk_getN (v := .long (C_al n3_)) C i0_ (pw_atX 3 rfl) (ci := 0) rfl 4 (by decide) w6_ rfl rfl dX4_value_112 (pc2 := 115) rfl ?_
            subst en1_ en2_ en3_ en4_ en5_ en6_
            unfold m_X4_value_0 at hR
            try simp only [h1_] at hR
            try rw [if_neg h2_] at hR
            try rw [if_neg h3_] at hR
            try rw [if_pos h4_] at hR
            try rw [if_neg h5_] at hR
            try rw [if_pos h6_] at hR
            subst hR
            exact px_ret hE (Nat.le_of_ble_eq_true rfl) (Nat.le_of_ble_eq_true rfl) (fun Q' hE' => pr_long C hE' ⟨⟨rfl, rfl⟩, rfl, rfl, rfl⟩ dX4_value_115)
          by_cases h7_ : wh = 2
          ·
            refine pk_tableIn (tgt := 116) C dX4_value_60 (by rw [h7_]; decide) (by rw [h7_]; decide) (by rw [h7_]; first | done | rfl) (by decide) ?_
            refine pk_aload_n C 1 dX4_value_116 rfl rfl (pc2 := 117) rfl ?_
            refine pk_get (v := .ref (rf 2)) C i4_ (pw_atX 0 rfl) (ci := 4) rfl 2 (by decide) w4_ rfl rfl dX4_value_117 (pc2 := 120) rfl ?_
            refine pk_dV (cx := [((rf 2), cC (rf 4) n3_), ((rf 4), cS n4_)]) (wr := [(x, cA rf ar), ((rf 0), .inl ((zG Z).2.2.2.2, 6, .inr (.inr (.inr (.inr pr))))), ((rf 1), .inl ((zG Z).2.2.2.1, 40, .inr (.inr (.inr (.inr er))))), ((rf 3), cC (rf 5) n5_), ((rf 5), cS n6_)]) (X2 := (aX (zG Z) x rf ar pr er n3_ n4_ n5_ n6_)) (st := []) (st2 := [.long (m_X0_book n3_ n4_)]) (As := []) C (c_X0_book (zl Z) (zG Z) L F (rf 2) (rf 4) n3_ n4_) gX4_value_X0_book rfl rfl rfl 0 (by decide +kernel) ⟨Nat.le_of_ble_eq_true rfl, Nat.le_of_ble_eq_true rfl⟩ (pw_atX 3 rfl) rfl rfl rfl (Nat.le_of_ble_eq_true rfl) ⟨Nat.le_of_ble_eq_true rfl, Nat.le_of_ble_eq_true rfl⟩ [3, 4] [0, 1, 2, 5, 6] [0, 1, 2, 5, 6, 3, 4] rfl rfl rfl rfl (by decide) rfl rfl dX4_value_120 (pc2 := 123) rfl rfl ?_
            refine pk_topl (fun n7_ en7_ => ?_)
            subst en1_ en2_ en3_ en4_ en5_ en6_ en7_
            unfold m_X4_value_0 at hR
            try simp only [h1_] at hR
            try rw [if_neg h2_] at hR
            try rw [if_neg h3_] at hR
            try rw [if_pos h4_] at hR
            try rw [if_neg h5_] at hR
            try rw [if_neg h6_] at hR
            try rw [if_pos h7_] at hR
            subst hR
            exact px_ret hE (Nat.le_of_ble_eq_true rfl) (Nat.le_of_ble_eq_true rfl) (fun Q' hE' => pr_long C hE' ⟨⟨rfl, rfl⟩, rfl, rfl, rfl⟩ dX4_value_123)
          by_cases h8_ : wh = 3
          ·
            refine pk_tableIn (tgt := 124) C dX4_value_60 (by rw [h8_]; decide) (by rw [h8_]; decide) (by rw [h8_]; first | done | rfl) (by decide) ?_
            refine pk_aload_n C 1 dX4_value_124 rfl rfl (pc2 := 125) rfl ?_
            refine pk_get (v := .ref (rf 2)) C i4_ (pw_atX 0 rfl) (ci := 4) rfl 2 (by decide) w4_ rfl rfl dX4_value_125 (pc2 := 128) rfl ?_
            refine pk_getN (v := .long (C_re n3_)) C i0_ (pw_atX 3 rfl) (ci := 0) rfl 5 (by decide) w7_ rfl rfl dX4_value_128 (pc2 := 131) rfl ?_
            subst en1_ en2_ en3_ en4_ en5_ en6_
            unfold m_X4_value_0 at hR
            try simp only [h1_] at hR
            try rw [if_neg h2_] at hR
            try rw [if_neg h3_] at hR
            try rw [if_pos h4_] at hR
            try rw [if_neg h5_] at hR
            try rw [if_neg h6_] at hR
            try rw [if_neg h7_] at hR
            try rw [if_pos h8_] at hR
            subst hR
            exact px_ret hE (Nat.le_of_ble_eq_true rfl) (Nat.le_of_ble_eq_true rfl) (fun Q' hE' => pr_long C hE' ⟨⟨rfl, rfl⟩, rfl, rfl, rfl⟩ dX4_value_131)
          by_cases h9_ : wh = 4
          ·
            refine pk_tableIn (tgt := 132) C dX4_value_60 (by rw [h9_]; decide) (by rw [h9_]; decide) (by rw [h9_]; first | done | rfl) (by decide) ?_
            refine pk_aload_n C 1 dX4_value_132 rfl rfl (pc2 := 133) rfl ?_
            refine pk_get (v := .ref (rf 2)) C i4_ (pw_atX 0 rfl) (ci := 4) rfl 2 (by decide) w4_ rfl rfl dX4_value_133 (pc2 := 136) rfl ?_
            refine pk_getN (v := .long (C_lo n3_)) C i0_ (pw_atX 3 rfl) (ci := 0) rfl 6 (by decide) w8_ rfl rfl dX4_value_136 (pc2 := 139) rfl ?_
            subst en1_ en2_ en3_ en4_ en5_ en6_
            unfold m_X4_value_0 at hR
            try simp only [h1_] at hR
            try rw [if_neg h2_] at hR
            try rw [if_neg h3_] at hR
            try rw [if_pos h4_] at hR
            try rw [if_neg h5_] at hR
            try rw [if_neg h6_] at hR
            try rw [if_neg h7_] at hR
            try rw [if_neg h8_] at hR
            try rw [if_pos h9_] at hR
            subst hR
            exact px_ret hE (Nat.le_of_ble_eq_true rfl) (Nat.le_of_ble_eq_true rfl) (fun Q' hE' => pr_long C hE' ⟨⟨rfl, rfl⟩, rfl, rfl, rfl⟩ dX4_value_139)
          by_cases h10_ : wh = 5
          ·
            refine pk_tableIn (tgt := 140) C dX4_value_60 (by rw [h10_]; decide) (by rw [h10_]; decide) (by rw [h10_]; first | done | rfl) (by decide) ?_
            refine pk_aload_n C 1 dX4_value_140 rfl rfl (pc2 := 141) rfl ?_
            refine pk_get (v := .ref (rf 2)) C i4_ (pw_atX 0 rfl) (ci := 4) rfl 2 (by decide) w4_ rfl rfl dX4_value_141 (pc2 := 144) rfl ?_
            refine pk_getN (v := .long (C_rs n3_)) C i0_ (pw_atX 3 rfl) (ci := 0) rfl 7 (by decide) w9_ rfl rfl dX4_value_144 (pc2 := 147) rfl ?_
            subst en1_ en2_ en3_ en4_ en5_ en6_
            unfold m_X4_value_0 at hR
            try simp only [h1_] at hR
            try rw [if_neg h2_] at hR
            try rw [if_neg h3_] at hR
            try rw [if_pos h4_] at hR
            try rw [if_neg h5_] at hR
            try rw [if_neg h6_] at hR
            try rw [if_neg h7_] at hR
            try rw [if_neg h8_] at hR
            try rw [if_neg h9_] at hR
            try rw [if_pos h10_] at hR
            subst hR
            exact px_ret hE (Nat.le_of_ble_eq_true rfl) (Nat.le_of_ble_eq_true rfl) (fun Q' hE' => pr_long C hE' ⟨⟨rfl, rfl⟩, rfl, rfl, rfl⟩ dX4_value_147)
          refine pk_tableOut (tgt := 148) C dX4_value_60 (sw_5 h5_ h6_ h7_ h8_ h9_ h10_) (by decide) ?_
          refine pk_aload_n C 1 dX4_value_148 rfl rfl (pc2 := 149) rfl ?_
          refine pk_get (v := .ref (rf 2)) C i4_ (pw_atX 0 rfl) (ci := 4) rfl 2 (by decide) w4_ rfl rfl dX4_value_149 (pc2 := 152) rfl ?_
          refine pk_getN (v := .int (C_li n3_)) C i0_ (pw_atX 3 rfl) (ci := 0) rfl 8 (by decide) w10_ rfl rfl dX4_value_152 (pc2 := 155) rfl ?_
          refine pk_i2l C dX4_value_155 (pc2 := 156) rfl ?_
          subst en1_ en2_ en3_ en4_ en5_ en6_
          unfold m_X4_value_0 at hR
          try simp only [h1_] at hR
          try rw [if_neg h2_] at hR
          try rw [if_neg h3_] at hR
          try rw [if_pos h4_] at hR
          try rw [if_neg h5_] at hR
          try rw [if_neg h6_] at hR
          try rw [if_neg h7_] at hR
          try rw [if_neg h8_] at hR
          try rw [if_neg h9_] at hR
          try rw [if_neg h10_] at hR
          subst hR
          exact px_ret hE (Nat.le_of_ble_eq_true rfl) (Nat.le_of_ble_eq_true rfl) (fun Q' hE' => pr_long C hE' ⟨⟨rfl, rfl⟩, rfl, rfl, rfl⟩ dX4_value_156)
        ·
          refine pk_lconst (v := 0) C dX4_value_50 (by decide) (pc2 := 51) rfl ?_
          subst en1_ en2_
          unfold m_X4_value_0 at hR
          try simp only [h1_] at hR
          try rw [if_neg h2_] at hR
          try rw [if_neg h3_] at hR
          try rw [if_neg h4_] at hR
          subst hR
          exact px_ret hE (Nat.le_of_ble_eq_true rfl) (Nat.le_of_ble_eq_true rfl) (fun Q' hE' => pr_long C hE' ⟨⟨rfl, rfl⟩, rfl, rfl, rfl⟩ dX4_value_51)
      ·
        subst en1_ en2_
        unfold m_X4_value_0 at hR
        try simp only [h1_] at hR
        try rw [if_neg h2_] at hR
        try rw [if_pos h3_] at hR
        subst hR
        exact px_throw (E := nIAE) C hX hE rfl (is := 125) (text := "no such part, month or what") (by decide) (Or.inl rfl) w0_ w1_ (fun w h => by first | exact List.mem_cons_of_mem _ (List.mem_append_right _ h) | exact List.mem_cons_of_mem _ (List.mem_append_left _ (List.mem_append_right _ h))) xt_51 xg_51 (by decide +kernel) (by decide +kernel) dX4_value_31 dX4_value_34 dX4_value_35 dX4_value_37 dX4_value_40 (Nat.le_of_ble_eq_true rfl) (Nat.le_of_ble_eq_true rfl) (Nat.le_of_ble_eq_true rfl) (Nat.le_of_ble_eq_true rfl) (Nat.le_of_ble_eq_true rfl) (Nat.le_of_ble_eq_true rfl) ⟨Or.inl ⟨rfl, rfl⟩, rfl, rfl, rfl⟩
set_option maxRecDepth 100000 in
set_option maxHeartbeats 2000000 in
theorem c_X4_value (l : Launch) (hst : l.stackTraces = false) (G : pw_G) (L : List Nat) (F : Nat → va_E) (x : Nat) (rf : Nat → Nat) (u w q : Nat) (ps : Nat → Int64) (ar : AR) (pr : (Nat → Option Nat)) (er : (Nat → Option Nat)) (cf : CR) (tf : SR) (cb : CR) (tb : SR) (pt : PR) (us : Nat → Int32) (es : Nat → Option Nat) (evf : Nat → ER) (i : Int32) (mm : Int32) (wh : Int32) (hpc : (A_pc ar).toInt ≤ 6) (hpp : ∀ a, m_X4_partOf ar pr er cf tf cb tb i = some a → (pA G L F a u w q pt us es ps evf) ∧ ∃ fm, fm ≤ 35 ∧ P_fi pt = nI fm) : XM l yX4_value wsX4_value ⟨6, 1, 6, 129⟩ G [.ref x, .int i, .int mm, .int wh] (aX G x rf ar pr er cf tf cb tb) L F 1 6 (ox_d ((m_X4_value ar pr er cf tf cb tb pt us es evf i mm wh).1) (some (.long ((m_X4_value ar pr er cf tf cb tb pt us es evf i mm wh).2.1))) (aX G x rf ar pr er ((m_X4_value ar pr er cf tf cb tb pt us es evf i mm wh).2.2.1) ((m_X4_value ar pr er cf tf cb tb pt us es evf i mm wh).2.2.2.1) ((m_X4_value ar pr er cf tf cb tb pt us es evf i mm wh).2.2.2.2.1) ((m_X4_value ar pr er cf tf cb tb pt us es evf i mm wh).2.2.2.2.2)) L F) := by
  refine xm_entry hst (by decide) rfl rfl (Nat.le_of_ble_eq_true rfl) ?_
  intro Z Q C hl0 hG0 hX hE
  subst hl0
  subst hG0
  exact t0_X4_value C hX hE hpc hpp rfl
def m_X4_charge_0 (ar : AR) (pr : (Nat → Option Nat)) (er : (Nat → Option Nat)) (cf : CR) (tf : SR) (cb : CR) (tb : SR) (pt : PR) (us : Nat → Int32) (es : Nat → Option Nat) (evf : Nat → ER) (i : Int32) (mm : Int32) : Int32 × Int64 × CR × SR × CR × SR :=
  (match (m_X4_partOf ar pr er cf tf cb tb i) with | none => (1, 0, cf, tf, cb, tb) | some p1_ => if (m_X4_isMonth mm) = 0 then (1, 0, cf, tf, cb, tb) else if (P_fi pt) ≤ mm then (0, (C_lc ((m_X4_follow pt us es evf cf tf cb tb mm).1)), ((m_X4_follow pt us es evf cf tf cb tb mm).1), ((m_X4_follow pt us es evf cf tf cb tb mm).2.1), ((m_X4_follow pt us es evf cf tf cb tb mm).2.2.1), ((m_X4_follow pt us es evf cf tf cb tb mm).2.2.2)) else (0, 0, cf, tf, cb, tb))
def m_X4_charge (ar : AR) (pr : (Nat → Option Nat)) (er : (Nat → Option Nat)) (cf : CR) (tf : SR) (cb : CR) (tb : SR) (pt : PR) (us : Nat → Int32) (es : Nat → Option Nat) (evf : Nat → ER) (i : Int32) (mm : Int32) : Int32 × Int64 × CR × SR × CR × SR := m_X4_charge_0 ar pr er cf tf cb tb pt us es evf i mm
set_option maxRecDepth 100000 in
set_option maxHeartbeats 2000000 in
theorem t0_X4_charge {Z : pw_Z} {Q : State → Prop} {L : List Nat} {F : Nat → va_E} {x : Nat} {rf : Nat → Nat} {u w q : Nat} {ps : Nat → Int64} {ar : AR} {pr : (Nat → Option Nat)} {er : (Nat → Option Nat)} {cf : CR} {tf : SR} {cb : CR} {tb : SR} {pt : PR} {us : Nat → Int32} {es : Nat → Option Nat} {evf : Nat → ER} {i : Int32} {mm : Int32} (C : pw_C Z cX4_charge 4 RX4 wsX4_charge ⟨6, 1, 6, 129⟩ (some .long)) (hX : pw_CX Z) {X9 : va_W} {R : Int32 × Int64 × CR × SR × CR × SR} (hE : pw_EndX Z Q X9 L F (ox_d (R.1) (some (.long (R.2.1))) (aX (zG Z) x rf ar pr er (R.2.2.1) (R.2.2.2.1) (R.2.2.2.2.1) (R.2.2.2.2.2)) L F) 1 6) (hpc : (A_pc ar).toInt ≤ 6) (hpp : ∀ a, m_X4_partOf ar pr er cf tf cb tb i = some a → (pA (zG Z) L F a u w q pt us es ps evf) ∧ ∃ fm, fm ≤ 35 ∧ P_fi pt = nI fm) (hR : m_X4_charge_0 ar pr er cf tf cb tb pt us es evf i mm = R) : PW Z (aX (zG Z) x rf ar pr er cf tf cb tb) L F 0 0 Q 0 [(0, .ref x), (1, .int i), (2, .int mm)] [] := by
  have i2_ : ∀ w ∈ wsX20, w ∈ wsX4_charge := by decide +kernel
  have i4_ : ∀ w ∈ wsX40, w ∈ wsX4_charge := by decide +kernel
  have i0_ : ∀ w ∈ wsX00, w ∈ wsX4_charge := by decide +kernel
  have w0_ : Cond.classLink RX4 47 nIAE ∈ wsX4_charge := by decide +kernel
  have w1_ : Cond.initialized nIAE ∈ wsX4_charge := by decide +kernel
  have w2_ : Cond.fieldLink RX4 84 "AgedAssets$Part" "firstMonth" "I" ∈ wsX4_charge := by decide +kernel
  have w3_ : Cond.fieldLink RX4 24 "AgedAssets" "full" "LAgedAssets$Course;" ∈ wsX4_charge := by decide +kernel
  have w4_ : Cond.fieldLinkNest RX4 156 RX0 "lastCharge" "J" RX4 ∈ pw_N := by decide +kernel
  refine pk_aload_n C 0 dX4_charge_0 rfl rfl (pc2 := 1) rfl ?_
  refine pk_iload_n C 1 dX4_charge_1 rfl rfl (pc2 := 2) rfl ?_
  refine pk_dV (cx := (aX (zG Z) x rf ar pr er cf tf cb tb)) (wr := []) (X2 := (aX (zG Z) x rf ar pr er cf tf cb tb)) (st := []) (st2 := [(va_rf (m_X4_partOf ar pr er cf tf cb tb i))]) (As := [.int i]) C (c_X4_partOf (zl Z) (zG Z) L F x rf ar pr er cf tf cb tb i hpc) gX4_charge_X4_partOf rfl rfl rfl 1 (by decide +kernel) ⟨Nat.le_of_ble_eq_true rfl, Nat.le_of_ble_eq_true rfl⟩ (pw_atX 0 rfl) rfl rfl rfl (Nat.le_of_ble_eq_true rfl) ⟨Nat.le_of_ble_eq_true rfl, Nat.le_of_ble_eq_true rfl⟩ [0, 1, 2, 3, 4, 5, 6] [] [0, 1, 2, 3, 4, 5, 6] rfl rfl rfl rfl (by decide) rfl rfl dX4_charge_2 (pc2 := 5) rfl rfl ?_
  rcases h1_ : (m_X4_partOf ar pr er cf tf cb tb i) with _ | p1_
  ·
    refine pk_astore_nN (lv' := [(3, .null), (0, .ref x), (1, .int i), (2, .int mm)]) C dX4_charge_5 rfl (by decide) rfl (pc2 := 6) rfl ?_
    refine pk_aload_nN C 0 dX4_charge_6 rfl rfl (pc2 := 7) rfl ?_
    refine pk_ifnull_n (tgt := 17) C dX4_charge_7 (by decide) ?_
    unfold m_X4_charge_0 at hR
    try simp only [h1_] at hR
    subst hR
    exact px_throw (E := nIAE) C hX hE rfl (is := 154) (text := "no such part or month") (by decide) (Or.inl rfl) w0_ w1_ (fun w h => by first | exact List.mem_cons_of_mem _ (List.mem_append_right _ h) | exact List.mem_cons_of_mem _ (List.mem_append_left _ (List.mem_append_right _ h))) xt_51 xg_51 (by decide +kernel) (by decide +kernel) dX4_charge_17 dX4_charge_20 dX4_charge_21 dX4_charge_23 dX4_charge_26 (Nat.le_of_ble_eq_true rfl) (Nat.le_of_ble_eq_true rfl) (Nat.le_of_ble_eq_true rfl) (Nat.le_of_ble_eq_true rfl) (Nat.le_of_ble_eq_true rfl) (Nat.le_of_ble_eq_true rfl) ⟨Or.inl ⟨rfl, rfl⟩, rfl, rfl, rfl⟩
  ·
    have hxp1_ := hpp _ h1_
    obtain ⟨hp1_, fm_, hfm_, hfi_⟩ := hxp1_
    refine pk_astore_n (lv' := [(3, .ref p1_), (0, .ref x), (1, .int i), (2, .int mm)]) C dX4_charge_5 rfl (by decide) rfl (pc2 := 6) rfl ?_
    refine pk_aload_n C 0 dX4_charge_6 rfl rfl (pc2 := 7) rfl ?_
    refine pk_ifnull_r C dX4_charge_7 (pc2 := 10) rfl ?_
    refine pk_iload_n C 3 dX4_charge_10 rfl rfl (pc2 := 11) rfl ?_
    refine pk_dS (cx := []) (wr := (aX (zG Z) x rf ar pr er cf tf cb tb)) (X2 := (aX (zG Z) x rf ar pr er cf tf cb tb)) (st := []) (st2 := [.int (m_X4_isMonth mm)]) (As := [.int mm]) C (c_X4_isMonth (zl Z) (zG Z) L F mm) gX4_charge_X4_isMonth rfl rfl rfl 1 (by decide +kernel) ⟨Nat.le_of_ble_eq_true rfl, Nat.le_of_ble_eq_true rfl⟩ rfl rfl (Nat.le_of_ble_eq_true rfl) ⟨Nat.le_of_ble_eq_true rfl, Nat.le_of_ble_eq_true rfl⟩ [] [0, 1, 2, 3, 4, 5, 6] [0, 1, 2, 3, 4, 5, 6] rfl rfl rfl rfl (by decide) rfl rfl dX4_charge_11 (pc2 := 14) rfl rfl ?_
    refine pk_topi (fun n1_ en1_ => ?_)
    refine pk_if_ne (tgt := 27) C dX4_charge_14 (by decide) (pc2 := 17) rfl (fun h2_ => ?_) (fun h2_ => ?_)
    ·
      have hmm_ := isMonth4_in (p := mm) (by rw [← en1_]; exact h2_)
      refine pk_iload_n C 3 dX4_charge_27 rfl rfl (pc2 := 28) rfl ?_
      refine pk_aload_n C 0 dX4_charge_28 rfl rfl (pc2 := 29) rfl ?_
      refine pk_get (v := .int (P_fi pt)) C i2_ (pw_atP hp1_.1.1 hp1_.1.2) (ci := 2) rfl 2 (by decide) w2_ rfl rfl dX4_charge_29 (pc2 := 32) rfl ?_
      refine pk_icmp_ge (tgt := 37) C dX4_charge_32 (by decide) (pc2 := 35) rfl (fun h3_ => ?_) (fun h3_ => ?_)
      ·
        refine pk_aload_n C 1 dX4_charge_37 rfl rfl (pc2 := 38) rfl ?_
        refine pk_aload_n C 0 dX4_charge_38 rfl rfl (pc2 := 39) rfl ?_
        refine pk_iload_n C 3 dX4_charge_39 rfl rfl (pc2 := 40) rfl ?_
        refine pk_dV (cx := (aX (zG Z) x rf ar pr er cf tf cb tb)) (wr := []) (X2 := (aX (zG Z) x rf ar pr er ((m_X4_follow pt us es evf cf tf cb tb mm).1) ((m_X4_follow pt us es evf cf tf cb tb mm).2.1) ((m_X4_follow pt us es evf cf tf cb tb mm).2.2.1) ((m_X4_follow pt us es evf cf tf cb tb mm).2.2.2))) (st := []) (st2 := []) (As := [.ref p1_, .int mm]) C (c_X4_follow (zl Z) (zG Z) L F x rf ar pr er cf tf cb tb p1_ u w q pt us es ps evf hp1_ fm_ hfm_ hfi_ mm (mi_35 hmm_)) gX4_charge_X4_follow rfl rfl rfl 2 (by decide +kernel) ⟨Nat.le_of_ble_eq_true rfl, Nat.le_of_ble_eq_true rfl⟩ (pw_atX 0 rfl) rfl rfl rfl (Nat.le_of_ble_eq_true rfl) ⟨Nat.le_of_ble_eq_true rfl, Nat.le_of_ble_eq_true rfl⟩ [0, 1, 2, 3, 4, 5, 6] [] [0, 1, 2, 3, 4, 5, 6] rfl rfl rfl rfl (by decide) rfl rfl dX4_charge_40 (pc2 := 43) rfl rfl ?_
        generalize en2_ : ((m_X4_follow pt us es evf cf tf cb tb mm).1) = n2_
        generalize en3_ : ((m_X4_follow pt us es evf cf tf cb tb mm).2.1) = n3_
        generalize en4_ : ((m_X4_follow pt us es evf cf tf cb tb mm).2.2.1) = n4_
        generalize en5_ : ((m_X4_follow pt us es evf cf tf cb tb mm).2.2.2) = n5_
        refine pk_aload_n C 1 dX4_charge_43 rfl rfl (pc2 := 44) rfl ?_
        refine pk_get (v := .ref (rf 2)) C i4_ (pw_atX 0 rfl) (ci := 4) rfl 2 (by decide) w3_ rfl rfl dX4_charge_44 (pc2 := 47) rfl ?_
        refine pk_getN (v := .long (C_lc n2_)) C i0_ (pw_atX 3 rfl) (ci := 0) rfl 13 (by decide) w4_ rfl rfl dX4_charge_47 (pc2 := 50) rfl ?_
        subst en1_ en2_ en3_ en4_ en5_
        unfold m_X4_charge_0 at hR
        try simp only [h1_] at hR
        try rw [if_neg h2_] at hR
        try rw [if_pos h3_] at hR
        subst hR
        exact px_ret hE (Nat.le_of_ble_eq_true rfl) (Nat.le_of_ble_eq_true rfl) (fun Q' hE' => pr_long C hE' ⟨⟨rfl, rfl⟩, rfl, rfl, rfl⟩ dX4_charge_50)
      ·
        refine pk_lconst (v := 0) C dX4_charge_35 (by decide) (pc2 := 36) rfl ?_
        subst en1_
        unfold m_X4_charge_0 at hR
        try simp only [h1_] at hR
        try rw [if_neg h2_] at hR
        try rw [if_neg h3_] at hR
        subst hR
        exact px_ret hE (Nat.le_of_ble_eq_true rfl) (Nat.le_of_ble_eq_true rfl) (fun Q' hE' => pr_long C hE' ⟨⟨rfl, rfl⟩, rfl, rfl, rfl⟩ dX4_charge_36)
    ·
      subst en1_
      unfold m_X4_charge_0 at hR
      try simp only [h1_] at hR
      try rw [if_pos h2_] at hR
      subst hR
      exact px_throw (E := nIAE) C hX hE rfl (is := 154) (text := "no such part or month") (by decide) (Or.inl rfl) w0_ w1_ (fun w h => by first | exact List.mem_cons_of_mem _ (List.mem_append_right _ h) | exact List.mem_cons_of_mem _ (List.mem_append_left _ (List.mem_append_right _ h))) xt_51 xg_51 (by decide +kernel) (by decide +kernel) dX4_charge_17 dX4_charge_20 dX4_charge_21 dX4_charge_23 dX4_charge_26 (Nat.le_of_ble_eq_true rfl) (Nat.le_of_ble_eq_true rfl) (Nat.le_of_ble_eq_true rfl) (Nat.le_of_ble_eq_true rfl) (Nat.le_of_ble_eq_true rfl) (Nat.le_of_ble_eq_true rfl) ⟨Or.inl ⟨rfl, rfl⟩, rfl, rfl, rfl⟩
set_option maxRecDepth 100000 in
set_option maxHeartbeats 2000000 in
theorem c_X4_charge (l : Launch) (hst : l.stackTraces = false) (G : pw_G) (L : List Nat) (F : Nat → va_E) (x : Nat) (rf : Nat → Nat) (u w q : Nat) (ps : Nat → Int64) (ar : AR) (pr : (Nat → Option Nat)) (er : (Nat → Option Nat)) (cf : CR) (tf : SR) (cb : CR) (tb : SR) (pt : PR) (us : Nat → Int32) (es : Nat → Option Nat) (evf : Nat → ER) (i : Int32) (mm : Int32) (hpc : (A_pc ar).toInt ≤ 6) (hpp : ∀ a, m_X4_partOf ar pr er cf tf cb tb i = some a → (pA G L F a u w q pt us es ps evf) ∧ ∃ fm, fm ≤ 35 ∧ P_fi pt = nI fm) : XM l yX4_charge wsX4_charge ⟨6, 1, 6, 129⟩ G [.ref x, .int i, .int mm] (aX G x rf ar pr er cf tf cb tb) L F 1 6 (ox_d ((m_X4_charge ar pr er cf tf cb tb pt us es evf i mm).1) (some (.long ((m_X4_charge ar pr er cf tf cb tb pt us es evf i mm).2.1))) (aX G x rf ar pr er ((m_X4_charge ar pr er cf tf cb tb pt us es evf i mm).2.2.1) ((m_X4_charge ar pr er cf tf cb tb pt us es evf i mm).2.2.2.1) ((m_X4_charge ar pr er cf tf cb tb pt us es evf i mm).2.2.2.2.1) ((m_X4_charge ar pr er cf tf cb tb pt us es evf i mm).2.2.2.2.2)) L F) := by
  refine xm_entry hst (by decide) rfl rfl (Nat.le_of_ble_eq_true rfl) ?_
  intro Z Q C hl0 hG0 hX hE
  subst hl0
  subst hG0
  exact t0_X4_charge C hX hE hpc hpp rfl

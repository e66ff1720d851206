def m_X0_isBreach (c : CR) (t : SR) (ev : ER) (mr : Int64) : Int32 :=
  if (C_go c) = 0 then if (C_he c) = 0 then if (E_ki ev) = 0 then if (C_li c) = 0 then 1 else if (C_rs c) ≤ ((m_X0_book c t) + (E_am ev)) then 0 else 1 else if (E_ki ev) = 1 then if (E_am ev) ≤ (m_X0_book c t) then 0 else 1 else if (E_ki ev) = 2 then 0 else if (E_ki ev) = 3 then if (E_am ev) < (m_X0_book c t) then 0 else 1 else if (E_ki ev) = 4 then if (E_am ev) ≤ (m_X0_book c t) then 1 else if mr < (E_am ev) then 1 else if (C_al c) < ((E_am ev) - (m_X0_book c t)) then 1 else if (C_rs c) ≤ (E_am ev) then 0 else 1 else if (E_ki ev) = 5 then 0 else if (E_ki ev) = 6 then 0 else if (E_ki ev) = 7 then 1 else 0 else if (E_ki ev) = 7 then 0 else if (E_ki ev) = 5 then 0 else 1 else 1
set_option maxRecDepth 100000 in
set_option maxHeartbeats 2000000 in
theorem c_X0_isBreach (l : Launch) (G : pw_G) (L : List Nat) (F : Nat → va_E) (a b : Nat) (c : CR) (t : SR) (e : Nat) (ev : ER) (heL : e ∈ L) (heF : F e = cE ev) (mr : Int64) : PM l yX0_isBreach wsX0_isBreach ⟨1, 0, 0, 20⟩ G [.ref a, .ref e, .long mr] [(a, cC b c), (b, cS t)] L F 0 0 (po_d (some (.int (m_X0_isBreach c t ev mr))) [(a, cC b c), (b, cS t)] L F) := by
  refine pm_entry (by decide) rfl rfl (Nat.le_of_ble_eq_true rfl) ?_
  intro Z Q C hl0 hG0 hnm hE
  subst hl0
  subst hG0
  have i0_ : ∀ w ∈ wsX00, w ∈ wsX0_isBreach := by decide +kernel
  have i1_ : ∀ w ∈ wsX10, w ∈ wsX0_isBreach := by decide +kernel
  have w0_ : Cond.fieldLink RX0 57 "AgedAssets$Course" "gone" "Z" ∈ wsX0_isBreach := by decide +kernel
  have w1_ : Cond.fieldLink RX0 53 "AgedAssets$Course" "held" "Z" ∈ wsX0_isBreach := by decide +kernel
  have w2_ : Cond.fieldLink RX0 89 "AgedAssets$Event" "kind" "I" ∈ wsX0_isBreach := by decide +kernel
  have w3_ : Cond.fieldLink RX0 50 "AgedAssets$Course" "restOfLife" "I" ∈ wsX0_isBreach := by decide +kernel
  have w4_ : Cond.fieldLink RX0 46 "AgedAssets$Course" "residual" "J" ∈ wsX0_isBreach := by decide +kernel
  have w5_ : Cond.fieldLink RX0 101 "AgedAssets$Event" "amount" "J" ∈ wsX0_isBreach := by decide +kernel
  have w6_ : Cond.fieldLink RX0 34 "AgedAssets$Course" "allowance" "J" ∈ wsX0_isBreach := by decide +kernel
  show PW Z [(a, cC b c), (b, cS t)] L F 0 0 Q 0 [(0, .ref a), (1, .ref e), (2, .long mr)] []
  refine pk_aload_n C 0 dX0_isBreach_0 rfl rfl (pc2 := 1) rfl ?_
  refine pk_get (v := .int (C_go c)) C i0_ (pw_atX 0 rfl) (ci := 0) rfl 10 (by decide) w0_ rfl rfl dX0_isBreach_1 (pc2 := 4) rfl ?_
  refine pk_if_ne (tgt := 31) C dX0_isBreach_4 (by decide) (pc2 := 7) rfl (fun h1_ => ?_) (fun h1_ => ?_)
  ·
    refine pk_iconst (v := 1) C dX0_isBreach_31 (by decide) (pc2 := 32) rfl ?_
    exact pr_int (ty := .boolean) C hE rfl rfl (po_d_rfl (by first | with_reducible rfl | (unfold m_X0_isBreach; rw [if_neg h1_])) (by first | with_reducible rfl | (unfold m_X0_isBreach; rw [if_neg h1_]))) dX0_isBreach_32
  ·
    refine pk_aload_n C 0 dX0_isBreach_7 rfl rfl (pc2 := 8) rfl ?_
    refine pk_get (v := .int (C_he c)) C i0_ (pw_atX 0 rfl) (ci := 0) rfl 9 (by decide) w1_ rfl rfl dX0_isBreach_8 (pc2 := 11) rfl ?_
    refine pk_if_eq (tgt := 33) C dX0_isBreach_11 (by decide) (pc2 := 14) rfl (fun h2_ => ?_) (fun h2_ => ?_)
    ·
      refine pk_aload_n C 1 dX0_isBreach_33 rfl rfl (pc2 := 34) rfl ?_
      refine pk_get (v := .int (E_ki ev)) C i1_ (pw_atP heL heF) (ci := 1) rfl 2 (by decide) w2_ rfl rfl dX0_isBreach_34 (pc2 := 37) rfl ?_
      by_cases h3_ : (E_ki ev) = 0
      ·
        refine pk_tableIn (tgt := 84) C dX0_isBreach_37 (by rw [h3_]; decide) (by rw [h3_]; decide) (by rw [h3_]; first | done | rfl) (by decide) ?_
        refine pk_aload_n C 0 dX0_isBreach_84 rfl rfl (pc2 := 85) rfl ?_
        refine pk_get (v := .int (C_li c)) C i0_ (pw_atX 0 rfl) (ci := 0) rfl 8 (by decide) w3_ rfl rfl dX0_isBreach_85 (pc2 := 88) rfl ?_
        refine pk_if_eq (tgt := 108) C dX0_isBreach_88 (by decide) (pc2 := 91) rfl (fun h4_ => ?_) (fun h4_ => ?_)
        ·
          refine pk_iconst (v := 1) C dX0_isBreach_108 (by decide) (pc2 := 109) rfl ?_
          refine pk_goto (tgt := 113) C dX0_isBreach_109 (by decide) ?_
          exact pr_int (ty := .boolean) C hE rfl rfl (po_d_rfl (by first | with_reducible rfl | (unfold m_X0_isBreach; rw [if_pos h1_, if_pos h2_, if_pos h3_, if_pos h4_])) (by first | with_reducible rfl | (unfold m_X0_isBreach; rw [if_pos h1_, if_pos h2_, if_pos h3_, if_pos h4_]))) dX0_isBreach_113
        ·
          refine pk_aload_n C 0 dX0_isBreach_91 rfl rfl (pc2 := 92) rfl ?_
          refine pk_get (v := .long (C_rs c)) C i0_ (pw_atX 0 rfl) (ci := 0) rfl 7 (by decide) w4_ rfl rfl dX0_isBreach_92 (pc2 := 95) rfl ?_
          refine pk_aload_n C 0 dX0_isBreach_95 rfl rfl (pc2 := 96) rfl ?_
          refine pk_dV (cx := [(a, cC b c), (b, cS t)]) (wr := []) (X2 := [(a, cC b c), (b, cS t)]) (st := [.long (C_rs c)]) (st2 := [.long (m_X0_book c t), .long (C_rs c)]) (As := []) C (c_X0_book (zl Z) (zG Z) L F a b c t) gX0_isBreach_X0_book rfl rfl rfl 0 (by decide +kernel) ⟨Nat.le_of_ble_eq_true rfl, Nat.le_of_ble_eq_true rfl⟩ (pw_atX 0 rfl) rfl rfl rfl (Nat.le_of_ble_eq_true rfl) ⟨Nat.le_of_ble_eq_true rfl, Nat.le_of_ble_eq_true rfl⟩ [0, 1] [] [0, 1] rfl rfl rfl rfl (by decide) rfl rfl dX0_isBreach_96 (pc2 := 99) rfl rfl ?_
          refine pk_topl (fun n1_ en1_ => ?_)
          refine pk_aload_n C 1 dX0_isBreach_99 rfl rfl (pc2 := 100) rfl ?_
          refine pk_get (v := .long (E_am ev)) C i1_ (pw_atP heL heF) (ci := 1) rfl 3 (by decide) w5_ rfl rfl dX0_isBreach_100 (pc2 := 103) rfl ?_
          refine pk_ladd C dX0_isBreach_103 (pc2 := 104) rfl ?_
          refine pk_lcmp_le (tgt := 112) C dX0_isBreach_104 dX0_isBreach_105 (pc1 := 105) rfl (by decide) (pc2 := 108) rfl (fun h5_ => ?_) (fun h5_ => ?_)
          ·
            refine pk_iconst (v := 0) C dX0_isBreach_112 (by decide) (pc2 := 113) rfl ?_
            subst en1_
            exact pr_int (ty := .boolean) C hE rfl rfl (po_d_rfl (by first | with_reducible rfl | (unfold m_X0_isBreach; rw [if_pos h1_, if_pos h2_, if_pos h3_, if_neg h4_, if_pos h5_])) (by first | with_reducible rfl | (unfold m_X0_isBreach; rw [if_pos h1_, if_pos h2_, if_pos h3_, if_neg h4_, if_pos h5_]))) dX0_isBreach_113
          ·
            refine pk_iconst (v := 1) C dX0_isBreach_108 (by decide) (pc2 := 109) rfl ?_
            refine pk_goto (tgt := 113) C dX0_isBreach_109 (by decide) ?_
            subst en1_
            exact pr_int (ty := .boolean) C hE rfl rfl (po_d_rfl (by first | with_reducible rfl | (unfold m_X0_isBreach; rw [if_pos h1_, if_pos h2_, if_pos h3_, if_neg h4_, if_neg h5_])) (by first | with_reducible rfl | (unfold m_X0_isBreach; rw [if_pos h1_, if_pos h2_, if_pos h3_, if_neg h4_, if_neg h5_]))) dX0_isBreach_113
      by_cases h6_ : (E_ki ev) = 1
      ·
        refine pk_tableIn (tgt := 114) C dX0_isBreach_37 (by rw [h6_]; decide) (by rw [h6_]; decide) (by rw [h6_]; first | done | rfl) (by decide) ?_
        refine pk_aload_n C 1 dX0_isBreach_114 rfl rfl (pc2 := 115) rfl ?_
        refine pk_get (v := .long (E_am ev)) C i1_ (pw_atP heL heF) (ci := 1) rfl 3 (by decide) w5_ rfl rfl dX0_isBreach_115 (pc2 := 118) rfl ?_
        refine pk_aload_n C 0 dX0_isBreach_118 rfl rfl (pc2 := 119) rfl ?_
        refine pk_dV (cx := [(a, cC b c), (b, cS t)]) (wr := []) (X2 := [(a, cC b c), (b, cS t)]) (st := [.long (E_am ev)]) (st2 := [.long (m_X0_book c t), .long (E_am ev)]) (As := []) C (c_X0_book (zl Z) (zG Z) L F a b c t) gX0_isBreach_X0_book rfl rfl rfl 0 (by decide +kernel) ⟨Nat.le_of_ble_eq_true rfl, Nat.le_of_ble_eq_true rfl⟩ (pw_atX 0 rfl) rfl rfl rfl (Nat.le_of_ble_eq_true rfl) ⟨Nat.le_of_ble_eq_true rfl, Nat.le_of_ble_eq_true rfl⟩ [0, 1] [] [0, 1] rfl rfl rfl rfl (by decide) rfl rfl dX0_isBreach_119 (pc2 := 122) rfl rfl ?_
        refine pk_topl (fun n2_ en2_ => ?_)
        refine pk_lcmp_le (tgt := 130) C dX0_isBreach_122 dX0_isBreach_123 (pc1 := 123) rfl (by decide) (pc2 := 126) rfl (fun h7_ => ?_) (fun h7_ => ?_)
        ·
          refine pk_iconst (v := 0) C dX0_isBreach_130 (by decide) (pc2 := 131) rfl ?_
          subst en2_
          exact pr_int (ty := .boolean) C hE rfl rfl (po_d_rfl (by first | with_reducible rfl | (unfold m_X0_isBreach; rw [if_pos h1_, if_pos h2_, if_neg h3_, if_pos h6_, if_pos h7_])) (by first | with_reducible rfl | (unfold m_X0_isBreach; rw [if_pos h1_, if_pos h2_, if_neg h3_, if_pos h6_, if_pos h7_]))) dX0_isBreach_131
        ·
          refine pk_iconst (v := 1) C dX0_isBreach_126 (by decide) (pc2 := 127) rfl ?_
          refine pk_goto (tgt := 131) C dX0_isBreach_127 (by decide) ?_
          subst en2_
          exact pr_int (ty := .boolean) C hE rfl rfl (po_d_rfl (by first | with_reducible rfl | (unfold m_X0_isBreach; rw [if_pos h1_, if_pos h2_, if_neg h3_, if_pos h6_, if_neg h7_])) (by first | with_reducible rfl | (unfold m_X0_isBreach; rw [if_pos h1_, if_pos h2_, if_neg h3_, if_pos h6_, if_neg h7_]))) dX0_isBreach_131
      by_cases h8_ : (E_ki ev) = 2
      ·
        refine pk_tableIn (tgt := 219) C dX0_isBreach_37 (by rw [h8_]; decide) (by rw [h8_]; decide) (by rw [h8_]; first | done | rfl) (by decide) ?_
        refine pk_iconst (v := 0) C dX0_isBreach_219 (by decide) (pc2 := 220) rfl ?_
        exact pr_int (ty := .boolean) C hE rfl rfl (po_d_rfl (by first | with_reducible rfl | (unfold m_X0_isBreach; rw [if_pos h1_, if_pos h2_, if_neg h3_, if_neg h6_, if_pos h8_])) (by first | with_reducible rfl | (unfold m_X0_isBreach; rw [if_pos h1_, if_pos h2_, if_neg h3_, if_neg h6_, if_pos h8_]))) dX0_isBreach_220
      by_cases h9_ : (E_ki ev) = 3
      ·
        refine pk_tableIn (tgt := 132) C dX0_isBreach_37 (by rw [h9_]; decide) (by rw [h9_]; decide) (by rw [h9_]; first | done | rfl) (by decide) ?_
        refine pk_aload_n C 1 dX0_isBreach_132 rfl rfl (pc2 := 133) rfl ?_
        refine pk_get (v := .long (E_am ev)) C i1_ (pw_atP heL heF) (ci := 1) rfl 3 (by decide) w5_ rfl rfl dX0_isBreach_133 (pc2 := 136) rfl ?_
        refine pk_aload_n C 0 dX0_isBreach_136 rfl rfl (pc2 := 137) rfl ?_
        refine pk_dV (cx := [(a, cC b c), (b, cS t)]) (wr := []) (X2 := [(a, cC b c), (b, cS t)]) (st := [.long (E_am ev)]) (st2 := [.long (m_X0_book c t), .long (E_am ev)]) (As := []) C (c_X0_book (zl Z) (zG Z) L F a b c t) gX0_isBreach_X0_book rfl rfl rfl 0 (by decide +kernel) ⟨Nat.le_of_ble_eq_true rfl, Nat.le_of_ble_eq_true rfl⟩ (pw_atX 0 rfl) rfl rfl rfl (Nat.le_of_ble_eq_true rfl) ⟨Nat.le_of_ble_eq_true rfl, Nat.le_of_ble_eq_true rfl⟩ [0, 1] [] [0, 1] rfl rfl rfl rfl (by decide) rfl rfl dX0_isBreach_137 (pc2 := 140) rfl rfl ?_
        refine pk_topl (fun n3_ en3_ => ?_)
        refine pk_lcmp_lt (tgt := 148) C dX0_isBreach_140 dX0_isBreach_141 (pc1 := 141) rfl (by decide) (pc2 := 144) rfl (fun h10_ => ?_) (fun h10_ => ?_)
        ·
          refine pk_iconst (v := 0) C dX0_isBreach_148 (by decide) (pc2 := 149) rfl ?_
          subst en3_
          exact pr_int (ty := .boolean) C hE rfl rfl (po_d_rfl (by first | with_reducible rfl | (unfold m_X0_isBreach; rw [if_pos h1_, if_pos h2_, if_neg h3_, if_neg h6_, if_neg h8_, if_pos h9_, if_pos h10_])) (by first | with_reducible rfl | (unfold m_X0_isBreach; rw [if_pos h1_, if_pos h2_, if_neg h3_, if_neg h6_, if_neg h8_, if_pos h9_, if_pos h10_]))) dX0_isBreach_149
        ·
          refine pk_iconst (v := 1) C dX0_isBreach_144 (by decide) (pc2 := 145) rfl ?_
          refine pk_goto (tgt := 149) C dX0_isBreach_145 (by decide) ?_
          subst en3_
          exact pr_int (ty := .boolean) C hE rfl rfl (po_d_rfl (by first | with_reducible rfl | (unfold m_X0_isBreach; rw [if_pos h1_, if_pos h2_, if_neg h3_, if_neg h6_, if_neg h8_, if_pos h9_, if_neg h10_])) (by first | with_reducible rfl | (unfold m_X0_isBreach; rw [if_pos h1_, if_pos h2_, if_neg h3_, if_neg h6_, if_neg h8_, if_pos h9_, if_neg h10_]))) dX0_isBreach_149
      by_cases h11_ : (E_ki ev) = 4
      ·
        refine pk_tableIn (tgt := 150) C dX0_isBreach_37 (by rw [h11_]; decide) (by rw [h11_]; decide) (by rw [h11_]; first | done | rfl) (by decide) ?_
        refine pk_aload_n C 1 dX0_isBreach_150 rfl rfl (pc2 := 151) rfl ?_
        refine pk_get (v := .long (E_am ev)) C i1_ (pw_atP heL heF) (ci := 1) rfl 3 (by decide) w5_ rfl rfl dX0_isBreach_151 (pc2 := 154) rfl ?_
        refine pk_aload_n C 0 dX0_isBreach_154 rfl rfl (pc2 := 155) rfl ?_
        refine pk_dV (cx := [(a, cC b c), (b, cS t)]) (wr := []) (X2 := [(a, cC b c), (b, cS t)]) (st := [.long (E_am ev)]) (st2 := [.long (m_X0_book c t), .long (E_am ev)]) (As := []) C (c_X0_book (zl Z) (zG Z) L F a b c t) gX0_isBreach_X0_book rfl rfl rfl 0 (by decide +kernel) ⟨Nat.le_of_ble_eq_true rfl, Nat.le_of_ble_eq_true rfl⟩ (pw_atX 0 rfl) rfl rfl rfl (Nat.le_of_ble_eq_true rfl) ⟨Nat.le_of_ble_eq_true rfl, Nat.le_of_ble_eq_true rfl⟩ [0, 1] [] [0, 1] rfl rfl rfl rfl (by decide) rfl rfl dX0_isBreach_155 (pc2 := 158) rfl rfl ?_
        refine pk_topl (fun n4_ en4_ => ?_)
        refine pk_lcmp_le (tgt := 200) C dX0_isBreach_158 dX0_isBreach_159 (pc1 := 159) rfl (by decide) (pc2 := 162) rfl (fun h12_ => ?_) (fun h12_ => ?_)
        ·
          refine pk_iconst (v := 1) C dX0_isBreach_200 (by decide) (pc2 := 201) rfl ?_
          refine pk_goto (tgt := 205) C dX0_isBreach_201 (by decide) ?_
          subst en4_
          exact pr_int (ty := .boolean) C hE rfl rfl (po_d_rfl (by first | with_reducible rfl | (unfold m_X0_isBreach; rw [if_pos h1_, if_pos h2_, if_neg h3_, if_neg h6_, if_neg h8_, if_neg h9_, if_pos h11_, if_pos h12_])) (by first | with_reducible rfl | (unfold m_X0_isBreach; rw [if_pos h1_, if_pos h2_, if_neg h3_, if_neg h6_, if_neg h8_, if_neg h9_, if_pos h11_, if_pos h12_]))) dX0_isBreach_205
        ·
          refine pk_aload_n C 1 dX0_isBreach_162 rfl rfl (pc2 := 163) rfl ?_
          refine pk_get (v := .long (E_am ev)) C i1_ (pw_atP heL heF) (ci := 1) rfl 3 (by decide) w5_ rfl rfl dX0_isBreach_163 (pc2 := 166) rfl ?_
          refine pk_lload_n C 2 dX0_isBreach_166 rfl rfl (pc2 := 167) rfl ?_
          refine pk_lcmp_gt (tgt := 200) C dX0_isBreach_167 dX0_isBreach_168 (pc1 := 168) rfl (by decide) (pc2 := 171) rfl (fun h13_ => ?_) (fun h13_ => ?_)
          ·
            refine pk_iconst (v := 1) C dX0_isBreach_200 (by decide) (pc2 := 201) rfl ?_
            refine pk_goto (tgt := 205) C dX0_isBreach_201 (by decide) ?_
            subst en4_
            exact pr_int (ty := .boolean) C hE rfl rfl (po_d_rfl (by first | with_reducible rfl | (unfold m_X0_isBreach; rw [if_pos h1_, if_pos h2_, if_neg h3_, if_neg h6_, if_neg h8_, if_neg h9_, if_pos h11_, if_neg h12_, if_pos h13_])) (by first | with_reducible rfl | (unfold m_X0_isBreach; rw [if_pos h1_, if_pos h2_, if_neg h3_, if_neg h6_, if_neg h8_, if_neg h9_, if_pos h11_, if_neg h12_, if_pos h13_]))) dX0_isBreach_205
          ·
            refine pk_aload_n C 1 dX0_isBreach_171 rfl rfl (pc2 := 172) rfl ?_
            refine pk_get (v := .long (E_am ev)) C i1_ (pw_atP heL heF) (ci := 1) rfl 3 (by decide) w5_ rfl rfl dX0_isBreach_172 (pc2 := 175) rfl ?_
            refine pk_aload_n C 0 dX0_isBreach_175 rfl rfl (pc2 := 176) rfl ?_
            refine pk_dV (cx := [(a, cC b c), (b, cS t)]) (wr := []) (X2 := [(a, cC b c), (b, cS t)]) (st := [.long (E_am ev)]) (st2 := [.long (m_X0_book c t), .long (E_am ev)]) (As := []) C (c_X0_book (zl Z) (zG Z) L F a b c t) gX0_isBreach_X0_book rfl rfl rfl 0 (by decide +kernel) ⟨Nat.le_of_ble_eq_true rfl, Nat.le_of_ble_eq_true rfl⟩ (pw_atX 0 rfl) rfl rfl rfl (Nat.le_of_ble_eq_true rfl) ⟨Nat.le_of_ble_eq_true rfl, Nat.le_of_ble_eq_true rfl⟩ [0, 1] [] [0, 1] rfl rfl rfl rfl (by decide) rfl rfl dX0_isBreach_176 (pc2 := 179) rfl rfl ?_
            refine pk_topl (fun n5_ en5_ => ?_)
            refine pk_lsub C dX0_isBreach_179 (pc2 := 180) rfl ?_
            refine pk_aload_n C 0 dX0_isBreach_180 rfl rfl (pc2 := 181) rfl ?_
            refine pk_get (v := .long (C_al c)) C i0_ (pw_atX 0 rfl) (ci := 0) rfl 4 (by decide) w6_ rfl rfl dX0_isBreach_181 (pc2 := 184) rfl ?_
            refine pk_lcmp_gt (tgt := 200) C dX0_isBreach_184 dX0_isBreach_185 (pc1 := 185) rfl (by decide) (pc2 := 188) rfl (fun h14_ => ?_) (fun h14_ => ?_)
            ·
              refine pk_iconst (v := 1) C dX0_isBreach_200 (by decide) (pc2 := 201) rfl ?_
              refine pk_goto (tgt := 205) C dX0_isBreach_201 (by decide) ?_
              subst en4_ en5_
              exact pr_int (ty := .boolean) C hE rfl rfl (po_d_rfl (by first | with_reducible rfl | (unfold m_X0_isBreach; rw [if_pos h1_, if_pos h2_, if_neg h3_, if_neg h6_, if_neg h8_, if_neg h9_, if_pos h11_, if_neg h12_, if_neg h13_, if_pos h14_])) (by first | with_reducible rfl | (unfold m_X0_isBreach; rw [if_pos h1_, if_pos h2_, if_neg h3_, if_neg h6_, if_neg h8_, if_neg h9_, if_pos h11_, if_neg h12_, if_neg h13_, if_pos h14_]))) dX0_isBreach_205
            ·
              refine pk_aload_n C 0 dX0_isBreach_188 rfl rfl (pc2 := 189) rfl ?_
              refine pk_get (v := .long (C_rs c)) C i0_ (pw_atX 0 rfl) (ci := 0) rfl 7 (by decide) w4_ rfl rfl dX0_isBreach_189 (pc2 := 192) rfl ?_
              refine pk_aload_n C 1 dX0_isBreach_192 rfl rfl (pc2 := 193) rfl ?_
              refine pk_get (v := .long (E_am ev)) C i1_ (pw_atP heL heF) (ci := 1) rfl 3 (by decide) w5_ rfl rfl dX0_isBreach_193 (pc2 := 196) rfl ?_
              refine pk_lcmp_le (tgt := 204) C dX0_isBreach_196 dX0_isBreach_197 (pc1 := 197) rfl (by decide) (pc2 := 200) rfl (fun h15_ => ?_) (fun h15_ => ?_)
              ·
                refine pk_iconst (v := 0) C dX0_isBreach_204 (by decide) (pc2 := 205) rfl ?_
                subst en4_ en5_
                exact pr_int (ty := .boolean) C hE rfl rfl (po_d_rfl (by first | with_reducible rfl | (unfold m_X0_isBreach; rw [if_pos h1_, if_pos h2_, if_neg h3_, if_neg h6_, if_neg h8_, if_neg h9_, if_pos h11_, if_neg h12_, if_neg h13_, if_neg h14_, if_pos h15_])) (by first | with_reducible rfl | (unfold m_X0_isBreach; rw [if_pos h1_, if_pos h2_, if_neg h3_, if_neg h6_, if_neg h8_, if_neg h9_, if_pos h11_, if_neg h12_, if_neg h13_, if_neg h14_, if_pos h15_]))) dX0_isBreach_205
              ·
                refine pk_iconst (v := 1) C dX0_isBreach_200 (by decide) (pc2 := 201) rfl ?_
                refine pk_goto (tgt := 205) C dX0_isBreach_201 (by decide) ?_
                subst en4_ en5_
                exact pr_int (ty := .boolean) C hE rfl rfl (po_d_rfl (by first | with_reducible rfl | (unfold m_X0_isBreach; rw [if_pos h1_, if_pos h2_, if_neg h3_, if_neg h6_, if_neg h8_, if_neg h9_, if_pos h11_, if_neg h12_, if_neg h13_, if_neg h14_, if_neg h15_])) (by first | with_reducible rfl | (unfold m_X0_isBreach; rw [if_pos h1_, if_pos h2_, if_neg h3_, if_neg h6_, if_neg h8_, if_neg h9_, if_pos h11_, if_neg h12_, if_neg h13_, if_neg h14_, if_neg h15_]))) dX0_isBreach_205
      by_cases h16_ : (E_ki ev) = 5
      ·
        refine pk_tableIn (tgt := 219) C dX0_isBreach_37 (by rw [h16_]; decide) (by rw [h16_]; decide) (by rw [h16_]; first | done | rfl) (by decide) ?_
        refine pk_iconst (v := 0) C dX0_isBreach_219 (by decide) (pc2 := 220) rfl ?_
        exact pr_int (ty := .boolean) C hE rfl rfl (po_d_rfl (by first | with_reducible rfl | (unfold m_X0_isBreach; rw [if_pos h1_, if_pos h2_, if_neg h3_, if_neg h6_, if_neg h8_, if_neg h9_, if_neg h11_, if_pos h16_])) (by first | with_reducible rfl | (unfold m_X0_isBreach; rw [if_pos h1_, if_pos h2_, if_neg h3_, if_neg h6_, if_neg h8_, if_neg h9_, if_neg h11_, if_pos h16_]))) dX0_isBreach_220
      by_cases h17_ : (E_ki ev) = 6
      ·
        refine pk_tableIn (tgt := 219) C dX0_isBreach_37 (by rw [h17_]; decide) (by rw [h17_]; decide) (by rw [h17_]; first | done | rfl) (by decide) ?_
        refine pk_iconst (v := 0) C dX0_isBreach_219 (by decide) (pc2 := 220) rfl ?_
        exact pr_int (ty := .boolean) C hE rfl rfl (po_d_rfl (by first | with_reducible rfl | (unfold m_X0_isBreach; rw [if_pos h1_, if_pos h2_, if_neg h3_, if_neg h6_, if_neg h8_, if_neg h9_, if_neg h11_, if_neg h16_, if_pos h17_])) (by first | with_reducible rfl | (unfold m_X0_isBreach; rw [if_pos h1_, if_pos h2_, if_neg h3_, if_neg h6_, if_neg h8_, if_neg h9_, if_neg h11_, if_neg h16_, if_pos h17_]))) dX0_isBreach_220
      by_cases h18_ : (E_ki ev) = 7
      ·
        refine pk_tableIn (tgt := 206) C dX0_isBreach_37 (by rw [h18_]; decide) (by rw [h18_]; decide) (by rw [h18_]; first | done | rfl) (by decide) ?_
        refine pk_aload_n C 0 dX0_isBreach_206 rfl rfl (pc2 := 207) rfl ?_
        refine pk_get (v := .int (C_he c)) C i0_ (pw_atX 0 rfl) (ci := 0) rfl 9 (by decide) w1_ rfl rfl dX0_isBreach_207 (pc2 := 210) rfl ?_
        refine pk_if_ne (tgt := 217) C dX0_isBreach_210 (by decide) (pc2 := 213) rfl (fun h19_ => ?_) (fun h19_ => ?_)
        · first | exact absurd h19_ h2_ | exact absurd h2_ h19_
        refine pk_iconst (v := 1) C dX0_isBreach_213 (by decide) (pc2 := 214) rfl ?_
        refine pk_goto (tgt := 218) C dX0_isBreach_214 (by decide) ?_
        exact pr_int (ty := .boolean) C hE rfl rfl (po_d_rfl (by first | with_reducible rfl | (unfold m_X0_isBreach; rw [if_pos h1_, if_pos h2_, if_neg h3_, if_neg h6_, if_neg h8_, if_neg h9_, if_neg h11_, if_neg h16_, if_neg h17_, if_pos h18_])) (by first | with_reducible rfl | (unfold m_X0_isBreach; rw [if_pos h1_, if_pos h2_, if_neg h3_, if_neg h6_, if_neg h8_, if_neg h9_, if_neg h11_, if_neg h16_, if_neg h17_, if_pos h18_]))) dX0_isBreach_218
      refine pk_tableOut (tgt := 219) C dX0_isBreach_37 (sw_7 h3_ h6_ h8_ h9_ h11_ h16_ h17_ h18_) (by decide) ?_
      refine pk_iconst (v := 0) C dX0_isBreach_219 (by decide) (pc2 := 220) rfl ?_
      exact pr_int (ty := .boolean) C hE rfl rfl (po_d_rfl (by first | with_reducible rfl | (unfold m_X0_isBreach; rw [if_pos h1_, if_pos h2_, if_neg h3_, if_neg h6_, if_neg h8_, if_neg h9_, if_neg h11_, if_neg h16_, if_neg h17_, if_neg h18_])) (by first | with_reducible rfl | (unfold m_X0_isBreach; rw [if_pos h1_, if_pos h2_, if_neg h3_, if_neg h6_, if_neg h8_, if_neg h9_, if_neg h11_, if_neg h16_, if_neg h17_, if_neg h18_]))) dX0_isBreach_220
    ·
      refine pk_aload_n C 1 dX0_isBreach_14 rfl rfl (pc2 := 15) rfl ?_
      refine pk_get (v := .int (E_ki ev)) C i1_ (pw_atP heL heF) (ci := 1) rfl 2 (by decide) w2_ rfl rfl dX0_isBreach_15 (pc2 := 18) rfl ?_
      refine pk_bipush (v := 7) C dX0_isBreach_18 (by decide) (pc2 := 20) rfl ?_
      refine pk_icmp_eq (tgt := 33) C dX0_isBreach_20 (by decide) (pc2 := 23) rfl (fun h20_ => ?_) (fun h20_ => ?_)
      ·
        refine pk_aload_n C 1 dX0_isBreach_33 rfl rfl (pc2 := 34) rfl ?_
        refine pk_get (v := .int (E_ki ev)) C i1_ (pw_atP heL heF) (ci := 1) rfl 2 (by decide) w2_ rfl rfl dX0_isBreach_34 (pc2 := 37) rfl ?_
        refine pk_tableIn (tgt := 206) C dX0_isBreach_37 (by rw [h20_]; decide) (by rw [h20_]; decide) (by rw [h20_]; first | done | rfl) (by decide) ?_
        refine pk_aload_n C 0 dX0_isBreach_206 rfl rfl (pc2 := 207) rfl ?_
        refine pk_get (v := .int (C_he c)) C i0_ (pw_atX 0 rfl) (ci := 0) rfl 9 (by decide) w1_ rfl rfl dX0_isBreach_207 (pc2 := 210) rfl ?_
        refine pk_if_ne (tgt := 217) C dX0_isBreach_210 (by decide) (pc2 := 213) rfl (fun h21_ => ?_) (fun h21_ => ?_)
        rotate_left
        · first | exact absurd h21_ h2_ | exact absurd h2_ h21_
        refine pk_iconst (v := 0) C dX0_isBreach_217 (by decide) (pc2 := 218) rfl ?_
        exact pr_int (ty := .boolean) C hE rfl rfl (po_d_rfl (by first | with_reducible rfl | (unfold m_X0_isBreach; rw [if_pos h1_, if_neg h2_, if_pos h20_])) (by first | with_reducible rfl | (unfold m_X0_isBreach; rw [if_pos h1_, if_neg h2_, if_pos h20_]))) dX0_isBreach_218
      ·
        refine pk_aload_n C 1 dX0_isBreach_23 rfl rfl (pc2 := 24) rfl ?_
        refine pk_get (v := .int (E_ki ev)) C i1_ (pw_atP heL heF) (ci := 1) rfl 2 (by decide) w2_ rfl rfl dX0_isBreach_24 (pc2 := 27) rfl ?_
        refine pk_iconst (v := 5) C dX0_isBreach_27 (by decide) (pc2 := 28) rfl ?_
        refine pk_icmp_eq (tgt := 33) C dX0_isBreach_28 (by decide) (pc2 := 31) rfl (fun h22_ => ?_) (fun h22_ => ?_)
        ·
          refine pk_aload_n C 1 dX0_isBreach_33 rfl rfl (pc2 := 34) rfl ?_
          refine pk_get (v := .int (E_ki ev)) C i1_ (pw_atP heL heF) (ci := 1) rfl 2 (by decide) w2_ rfl rfl dX0_isBreach_34 (pc2 := 37) rfl ?_
          refine pk_tableIn (tgt := 219) C dX0_isBreach_37 (by rw [h22_]; decide) (by rw [h22_]; decide) (by rw [h22_]; first | done | rfl) (by decide) ?_
          refine pk_iconst (v := 0) C dX0_isBreach_219 (by decide) (pc2 := 220) rfl ?_
          exact pr_int (ty := .boolean) C hE rfl rfl (po_d_rfl (by first | with_reducible rfl | (unfold m_X0_isBreach; rw [if_pos h1_, if_neg h2_, if_neg h20_, if_pos h22_])) (by first | with_reducible rfl | (unfold m_X0_isBreach; rw [if_pos h1_, if_neg h2_, if_neg h20_, if_pos h22_]))) dX0_isBreach_220
        ·
          refine pk_iconst (v := 1) C dX0_isBreach_31 (by decide) (pc2 := 32) rfl ?_
          exact pr_int (ty := .boolean) C hE rfl rfl (po_d_rfl (by first | with_reducible rfl | (unfold m_X0_isBreach; rw [if_pos h1_, if_neg h2_, if_neg h20_, if_neg h22_])) (by first | with_reducible rfl | (unfold m_X0_isBreach; rw [if_pos h1_, if_neg h2_, if_neg h20_, if_neg h22_]))) dX0_isBreach_32
theorem zb_m_X0_isBreach (c : CR) (t : SR) (ev : ER) (mr : Int64) : (m_X0_isBreach c t ev mr) = 0 ∨ (m_X0_isBreach c t ev mr) = 1 := by
  unfold m_X0_isBreach
  repeat (first | split | (exact Or.inl rfl) | (exact Or.inr rfl) | assumption)

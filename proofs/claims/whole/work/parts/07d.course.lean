def m_X0_apply (c : CR) (t : SR) (ev : ER) : CR :=
  if (E_ki ev) = 0 then (C_mk (C_me c) (C_ra c) ((C_co c) + (E_am ev)) (C_al c) (C_re c) (C_lo c) (C_rs c) (C_li c) (C_he c) (C_go c) (C_br c) (C_cu c) (C_lc c) (C_ac c)) else if (E_ki ev) = 1 then (C_mk (C_me c) (C_ra c) (C_co c) (C_al c) (C_re c) (C_lo c) (E_am ev) (E_nu ev) (C_he c) (C_go c) (C_br c) (C_cu c) (C_lc c) (C_ac c)) else if (E_ki ev) = 2 then (m_X0_revalue c t (E_am ev)) else if (E_ki ev) = 3 then (m_X0_impair c t ((m_X0_book c t) - (E_am ev))) else if (E_ki ev) = 4 then (m_X0_restore c t ((E_am ev) - (m_X0_book c t))) else if (E_ki ev) = 5 then (m_X0_sell c t (E_nu ev)) else if (E_ki ev) = 6 then (C_mk (C_me c) (C_ra c) (C_co c) (C_al c) (C_re c) (C_lo c) (C_rs c) (C_li c) 1 (C_go c) (C_br c) (C_cu c) (C_lc c) (C_ac c)) else (C_mk (C_me c) (C_ra c) (C_co c) (C_al c) (C_re c) (C_lo c) (C_rs c) (C_li c) 0 (C_go c) (C_br c) (C_cu c) (C_lc c) (C_ac c))
set_option maxRecDepth 100000 in
set_option maxHeartbeats 2000000 in
theorem c_X0_apply (l : Launch) (G : pw_G) (L : List Nat) (F : Nat → va_E) (a b : Nat) (c : CR) (t : SR) (e : Nat) (ev : ER) (heL : e ∈ L) (heF : F e = cE ev) : PM l yX0_apply wsX0_apply ⟨3, 0, 0, 61⟩ G [.ref a, .ref e] [(a, cC b c), (b, cS t)] L F 0 0 (po_d none [(a, cC b (m_X0_apply c t ev)), (b, cS t)] L F) := by
  refine pm_entry (by decide) rfl rfl (Nat.le_of_ble_eq_true rfl) ?_
  intro Z Q C hl0 hG0 hnm hE
  subst hl0
  subst hG0
  have i1_ : ∀ w ∈ wsX10, w ∈ wsX0_apply := by decide +kernel
  have i0_ : ∀ w ∈ wsX00, w ∈ wsX0_apply := by decide +kernel
  have w0_ : Cond.fieldLink RX0 89 "AgedAssets$Event" "kind" "I" ∈ wsX0_apply := by decide +kernel
  have w1_ : Cond.fieldLink RX0 33 "AgedAssets$Course" "cost" "J" ∈ wsX0_apply := by decide +kernel
  have w2_ : Cond.fieldLink RX0 101 "AgedAssets$Event" "amount" "J" ∈ wsX0_apply := by decide +kernel
  have w3_ : Cond.fieldLink RX0 46 "AgedAssets$Course" "residual" "J" ∈ wsX0_apply := by decide +kernel
  have w4_ : Cond.fieldLink RX0 104 "AgedAssets$Event" "number" "I" ∈ wsX0_apply := by decide +kernel
  have w5_ : Cond.fieldLink RX0 50 "AgedAssets$Course" "restOfLife" "I" ∈ wsX0_apply := by decide +kernel
  have w6_ : Cond.fieldLink RX0 53 "AgedAssets$Course" "held" "Z" ∈ wsX0_apply := by decide +kernel
  show PW Z [(a, cC b c), (b, cS t)] L F 0 0 Q 0 [(0, .ref a), (1, .ref e)] []
  refine pk_aload_n C 1 dX0_apply_0 rfl rfl (pc2 := 1) rfl ?_
  refine pk_get (v := .int (E_ki ev)) C i1_ (pw_atP heL heF) (ci := 1) rfl 2 (by decide) w0_ rfl rfl dX0_apply_1 (pc2 := 4) rfl ?_
  by_cases h1_ : (E_ki ev) = 0
  ·
    refine pk_tableIn (tgt := 44) C dX0_apply_4 (by rw [h1_]; decide) (by rw [h1_]; decide) (by rw [h1_]; first | done | rfl) (by decide) ?_
    refine pk_aload_n C 0 dX0_apply_44 rfl rfl (pc2 := 45) rfl ?_
    refine pk_dup C dX0_apply_45 rfl (pc2 := 46) rfl ?_
    refine pk_get (v := .long (C_co c)) C i0_ (pw_atX 0 rfl) (ci := 0) rfl 3 (by decide) w1_ rfl rfl dX0_apply_46 (pc2 := 49) rfl ?_
    refine pk_aload_n C 1 dX0_apply_49 rfl rfl (pc2 := 50) rfl ?_
    refine pk_get (v := .long (E_am ev)) C i1_ (pw_atP heL heF) (ci := 1) rfl 3 (by decide) w2_ rfl rfl dX0_apply_50 (pc2 := 53) rfl ?_
    refine pk_ladd C dX0_apply_53 (pc2 := 54) rfl ?_
    refine pk_topl (fun n1_ en1_ => ?_)
    refine pk_putX (X' := [(a, kC b (C_me c) (C_ra c) n1_ (C_al c) (C_re c) (C_lo c) (C_rs c) (C_li c) (C_he c) (C_go c) (C_br c) (C_cu c) (C_lc c) (C_ac c)), (b, cS t)]) C i0_ tyX0_ok nmX0 0 rfl (ci := 0) rfl 3 (by decide) w1_ rfl rfl rfl rfl rfl (Nat.le_of_ble_eq_true rfl) rfl dX0_apply_54 (pc2 := 57) rfl ?_
    refine pk_goto (tgt := 151) C dX0_apply_57 (by decide) ?_
    refine pw_conv (X' := [(a, cC b (C_mk (C_me c) (C_ra c) n1_ (C_al c) (C_re c) (C_lo c) (C_rs c) (C_li c) (C_he c) (C_go c) (C_br c) (C_cu c) (C_lc c) (C_ac c))), (b, cS t)]) rfl ?_
    subst en1_
    exact pr_void C hE (po_d_rfl rfl (by first | with_reducible rfl | (unfold m_X0_apply; rw [if_pos h1_]))) dX0_apply_151
  by_cases h2_ : (E_ki ev) = 1
  ·
    refine pk_tableIn (tgt := 60) C dX0_apply_4 (by rw [h2_]; decide) (by rw [h2_]; decide) (by rw [h2_]; first | done | rfl) (by decide) ?_
    refine pk_aload_n C 0 dX0_apply_60 rfl rfl (pc2 := 61) rfl ?_
    refine pk_aload_n C 1 dX0_apply_61 rfl rfl (pc2 := 62) rfl ?_
    refine pk_get (v := .long (E_am ev)) C i1_ (pw_atP heL heF) (ci := 1) rfl 3 (by decide) w2_ rfl rfl dX0_apply_62 (pc2 := 65) rfl ?_
    refine pk_putX (X' := [(a, kC b (C_me c) (C_ra c) (C_co c) (C_al c) (C_re c) (C_lo c) (E_am ev) (C_li c) (C_he c) (C_go c) (C_br c) (C_cu c) (C_lc c) (C_ac c)), (b, cS t)]) C i0_ tyX0_ok nmX0 0 rfl (ci := 0) rfl 7 (by decide) w3_ rfl rfl rfl rfl rfl (Nat.le_of_ble_eq_true rfl) rfl dX0_apply_65 (pc2 := 68) rfl ?_
    refine pk_aload_n C 0 dX0_apply_68 rfl rfl (pc2 := 69) rfl ?_
    refine pk_aload_n C 1 dX0_apply_69 rfl rfl (pc2 := 70) rfl ?_
    refine pk_get (v := .int (E_nu ev)) C i1_ (pw_atP heL heF) (ci := 1) rfl 4 (by decide) w4_ rfl rfl dX0_apply_70 (pc2 := 73) rfl ?_
    refine pk_putX (X' := [(a, kC b (C_me c) (C_ra c) (C_co c) (C_al c) (C_re c) (C_lo c) (E_am ev) (E_nu ev) (C_he c) (C_go c) (C_br c) (C_cu c) (C_lc c) (C_ac c)), (b, cS t)]) C i0_ tyX0_ok nmX0 0 rfl (ci := 0) rfl 8 (by decide) w5_ rfl rfl rfl rfl rfl (Nat.le_of_ble_eq_true rfl) rfl dX0_apply_73 (pc2 := 76) rfl ?_
    refine pk_goto (tgt := 151) C dX0_apply_76 (by decide) ?_
    refine pw_conv (X' := [(a, cC b (C_mk (C_me c) (C_ra c) (C_co c) (C_al c) (C_re c) (C_lo c) (E_am ev) (E_nu ev) (C_he c) (C_go c) (C_br c) (C_cu c) (C_lc c) (C_ac c))), (b, cS t)]) rfl ?_
    exact pr_void C hE (po_d_rfl rfl (by first | with_reducible rfl | (unfold m_X0_apply; rw [if_neg h1_, if_pos h2_]))) dX0_apply_151
  by_cases h3_ : (E_ki ev) = 2
  ·
    refine pk_tableIn (tgt := 79) C dX0_apply_4 (by rw [h3_]; decide) (by rw [h3_]; decide) (by rw [h3_]; first | done | rfl) (by decide) ?_
    refine pk_aload_n C 0 dX0_apply_79 rfl rfl (pc2 := 80) rfl ?_
    refine pk_aload_n C 1 dX0_apply_80 rfl rfl (pc2 := 81) rfl ?_
    refine pk_get (v := .long (E_am ev)) C i1_ (pw_atP heL heF) (ci := 1) rfl 3 (by decide) w2_ rfl rfl dX0_apply_81 (pc2 := 84) rfl ?_
    refine pk_dV (cx := [(a, cC b c), (b, cS t)]) (wr := []) (X2 := [(a, cC b (m_X0_revalue c t (E_am ev))), (b, cS t)]) (st := []) (st2 := []) (As := [.long (E_am ev)]) C (c_X0_revalue (zl Z) (zG Z) L F a b c t (E_am ev)) gX0_apply_X0_revalue rfl rfl rfl 1 (by decide +kernel) ⟨Nat.le_of_ble_eq_true rfl, Nat.le_of_ble_eq_true rfl⟩ (pw_atX 0 rfl) rfl rfl rfl (Nat.le_of_ble_eq_true rfl) ⟨Nat.le_of_ble_eq_true rfl, Nat.le_of_ble_eq_true rfl⟩ [0, 1] [] [0, 1] rfl rfl rfl rfl (by decide) rfl rfl dX0_apply_84 (pc2 := 87) rfl rfl ?_
    generalize en2_ : (m_X0_revalue c t (E_am ev)) = n2_
    refine pk_goto (tgt := 151) C dX0_apply_87 (by decide) ?_
    subst en2_
    exact pr_void C hE (po_d_rfl rfl (by first | with_reducible rfl | (unfold m_X0_apply; rw [if_neg h1_, if_neg h2_, if_pos h3_]))) dX0_apply_151
  by_cases h4_ : (E_ki ev) = 3
  ·
    refine pk_tableIn (tgt := 90) C dX0_apply_4 (by rw [h4_]; decide) (by rw [h4_]; decide) (by rw [h4_]; first | done | rfl) (by decide) ?_
    refine pk_aload_n C 0 dX0_apply_90 rfl rfl (pc2 := 91) rfl ?_
    refine pk_aload_n C 0 dX0_apply_91 rfl rfl (pc2 := 92) rfl ?_
    refine pk_dV (cx := [(a, cC b c), (b, cS t)]) (wr := []) (X2 := [(a, cC b c), (b, cS t)]) (st := [.ref a]) (st2 := [.long (m_X0_book c t), .ref a]) (As := []) C (c_X0_book (zl Z) (zG Z) L F a b c t) gX0_apply_X0_book rfl rfl rfl 0 (by decide +kernel) ⟨Nat.le_of_ble_eq_true rfl, Nat.le_of_ble_eq_true rfl⟩ (pw_atX 0 rfl) rfl rfl rfl (Nat.le_of_ble_eq_true rfl) ⟨Nat.le_of_ble_eq_true rfl, Nat.le_of_ble_eq_true rfl⟩ [0, 1] [] [0, 1] rfl rfl rfl rfl (by decide) rfl rfl dX0_apply_92 (pc2 := 95) rfl rfl ?_
    refine pk_topl (fun n3_ en3_ => ?_)
    refine pk_aload_n C 1 dX0_apply_95 rfl rfl (pc2 := 96) rfl ?_
    refine pk_get (v := .long (E_am ev)) C i1_ (pw_atP heL heF) (ci := 1) rfl 3 (by decide) w2_ rfl rfl dX0_apply_96 (pc2 := 99) rfl ?_
    refine pk_lsub C dX0_apply_99 (pc2 := 100) rfl ?_
    refine pk_dV (cx := [(a, cC b c), (b, cS t)]) (wr := []) (X2 := [(a, cC b (m_X0_impair c t (n3_ - (E_am ev)))), (b, cS t)]) (st := []) (st2 := []) (As := [.long (n3_ - (E_am ev))]) C (c_X0_impair (zl Z) (zG Z) L F a b c t (n3_ - (E_am ev))) gX0_apply_X0_impair rfl rfl rfl 1 (by decide +kernel) ⟨Nat.le_of_ble_eq_true rfl, Nat.le_of_ble_eq_true rfl⟩ (pw_atX 0 rfl) rfl rfl rfl (Nat.le_of_ble_eq_true rfl) ⟨Nat.le_of_ble_eq_true rfl, Nat.le_of_ble_eq_true rfl⟩ [0, 1] [] [0, 1] rfl rfl rfl rfl (by decide) rfl rfl dX0_apply_100 (pc2 := 103) rfl rfl ?_
    generalize en4_ : (m_X0_impair c t (n3_ - (E_am ev))) = n4_
    refine pk_goto (tgt := 151) C dX0_apply_103 (by decide) ?_
    subst en3_ en4_
    exact pr_void C hE (po_d_rfl rfl (by first | with_reducible rfl | (unfold m_X0_apply; rw [if_neg h1_, if_neg h2_, if_neg h3_, if_pos h4_]))) dX0_apply_151
  by_cases h5_ : (E_ki ev) = 4
  ·
    refine pk_tableIn (tgt := 106) C dX0_apply_4 (by rw [h5_]; decide) (by rw [h5_]; decide) (by rw [h5_]; first | done | rfl) (by decide) ?_
    refine pk_aload_n C 0 dX0_apply_106 rfl rfl (pc2 := 107) rfl ?_
    refine pk_aload_n C 1 dX0_apply_107 rfl rfl (pc2 := 108) rfl ?_
    refine pk_get (v := .long (E_am ev)) C i1_ (pw_atP heL heF) (ci := 1) rfl 3 (by decide) w2_ rfl rfl dX0_apply_108 (pc2 := 111) rfl ?_
    refine pk_aload_n C 0 dX0_apply_111 rfl rfl (pc2 := 112) rfl ?_
    refine pk_dV (cx := [(a, cC b c), (b, cS t)]) (wr := []) (X2 := [(a, cC b c), (b, cS t)]) (st := [.long (E_am ev), .ref a]) (st2 := [.long (m_X0_book c t), .long (E_am ev), .ref a]) (As := []) C (c_X0_book (zl Z) (zG Z) L F a b c t) gX0_apply_X0_book rfl rfl rfl 0 (by decide +kernel) ⟨Nat.le_of_ble_eq_true rfl, Nat.le_of_ble_eq_true rfl⟩ (pw_atX 0 rfl) rfl rfl rfl (Nat.le_of_ble_eq_true rfl) ⟨Nat.le_of_ble_eq_true rfl, Nat.le_of_ble_eq_true rfl⟩ [0, 1] [] [0, 1] rfl rfl rfl rfl (by decide) rfl rfl dX0_apply_112 (pc2 := 115) rfl rfl ?_
    refine pk_topl (fun n5_ en5_ => ?_)
    refine pk_lsub C dX0_apply_115 (pc2 := 116) rfl ?_
    refine pk_dV (cx := [(a, cC b c), (b, cS t)]) (wr := []) (X2 := [(a, cC b (m_X0_restore c t ((E_am ev) - n5_))), (b, cS t)]) (st := []) (st2 := []) (As := [.long ((E_am ev) - n5_)]) C (c_X0_restore (zl Z) (zG Z) L F a b c t ((E_am ev) - n5_)) gX0_apply_X0_restore rfl rfl rfl 1 (by decide +kernel) ⟨Nat.le_of_ble_eq_true rfl, Nat.le_of_ble_eq_true rfl⟩ (pw_atX 0 rfl) rfl rfl rfl (Nat.le_of_ble_eq_true rfl) ⟨Nat.le_of_ble_eq_true rfl, Nat.le_of_ble_eq_true rfl⟩ [0, 1] [] [0, 1] rfl rfl rfl rfl (by decide) rfl rfl dX0_apply_116 (pc2 := 119) rfl rfl ?_
    generalize en6_ : (m_X0_restore c t ((E_am ev) - n5_)) = n6_
    refine pk_goto (tgt := 151) C dX0_apply_119 (by decide) ?_
    subst en5_ en6_
    exact pr_void C hE (po_d_rfl rfl (by first | with_reducible rfl | (unfold m_X0_apply; rw [if_neg h1_, if_neg h2_, if_neg h3_, if_neg h4_, if_pos h5_]))) dX0_apply_151
  by_cases h6_ : (E_ki ev) = 5
  ·
    refine pk_tableIn (tgt := 122) C dX0_apply_4 (by rw [h6_]; decide) (by rw [h6_]; decide) (by rw [h6_]; first | done | rfl) (by decide) ?_
    refine pk_aload_n C 0 dX0_apply_122 rfl rfl (pc2 := 123) rfl ?_
    refine pk_aload_n C 1 dX0_apply_123 rfl rfl (pc2 := 124) rfl ?_
    refine pk_get (v := .int (E_nu ev)) C i1_ (pw_atP heL heF) (ci := 1) rfl 4 (by decide) w4_ rfl rfl dX0_apply_124 (pc2 := 127) rfl ?_
    refine pk_dV (cx := [(a, cC b c), (b, cS t)]) (wr := []) (X2 := [(a, cC b (m_X0_sell c t (E_nu ev))), (b, cS t)]) (st := []) (st2 := []) (As := [.int (E_nu ev)]) C (c_X0_sell (zl Z) (zG Z) L F a b c t (E_nu ev)) gX0_apply_X0_sell rfl rfl rfl 1 (by decide +kernel) ⟨Nat.le_of_ble_eq_true rfl, Nat.le_of_ble_eq_true rfl⟩ (pw_atX 0 rfl) rfl rfl rfl (Nat.le_of_ble_eq_true rfl) ⟨Nat.le_of_ble_eq_true rfl, Nat.le_of_ble_eq_true rfl⟩ [0, 1] [] [0, 1] rfl rfl rfl rfl (by decide) rfl rfl dX0_apply_127 (pc2 := 130) rfl rfl ?_
    generalize en7_ : (m_X0_sell c t (E_nu ev)) = n7_
    refine pk_goto (tgt := 151) C dX0_apply_130 (by decide) ?_
    subst en7_
    exact pr_void C hE (po_d_rfl rfl (by first | with_reducible rfl | (unfold m_X0_apply; rw [if_neg h1_, if_neg h2_, if_neg h3_, if_neg h4_, if_neg h5_, if_pos h6_]))) dX0_apply_151
  refine pk_tableOut (tgt := 133) C dX0_apply_4 (sw_5 h1_ h2_ h3_ h4_ h5_ h6_) (by decide) ?_
  refine pk_aload_n C 0 dX0_apply_133 rfl rfl (pc2 := 134) rfl ?_
  refine pk_aload_n C 1 dX0_apply_134 rfl rfl (pc2 := 135) rfl ?_
  refine pk_get (v := .int (E_ki ev)) C i1_ (pw_atP heL heF) (ci := 1) rfl 2 (by decide) w0_ rfl rfl dX0_apply_135 (pc2 := 138) rfl ?_
  refine pk_bipush (v := 6) C dX0_apply_138 (by decide) (pc2 := 140) rfl ?_
  refine pk_icmp_ne (tgt := 147) C dX0_apply_140 (by decide) (pc2 := 143) rfl (fun h7_ => ?_) (fun h7_ => ?_)
  ·
    refine pk_iconst (v := 0) C dX0_apply_147 (by decide) (pc2 := 148) rfl ?_
    refine pk_putX (X' := [(a, kC b (C_me c) (C_ra c) (C_co c) (C_al c) (C_re c) (C_lo c) (C_rs c) (C_li c) 0 (C_go c) (C_br c) (C_cu c) (C_lc c) (C_ac c)), (b, cS t)]) C i0_ tyX0_ok nmX0 0 rfl (ci := 0) rfl 9 (by decide) w6_ rfl rfl rfl rfl rfl (Nat.le_of_ble_eq_true rfl) rfl dX0_apply_148 (pc2 := 151) rfl ?_
    refine pw_conv (X' := [(a, cC b (C_mk (C_me c) (C_ra c) (C_co c) (C_al c) (C_re c) (C_lo c) (C_rs c) (C_li c) 0 (C_go c) (C_br c) (C_cu c) (C_lc c) (C_ac c))), (b, cS t)]) rfl ?_
    exact pr_void C hE (po_d_rfl rfl (by first | with_reducible rfl | (unfold m_X0_apply; rw [if_neg h1_, if_neg h2_, if_neg h3_, if_neg h4_, if_neg h5_, if_neg h6_, if_neg h7_]))) dX0_apply_151
  ·
    refine pk_iconst (v := 1) C dX0_apply_143 (by decide) (pc2 := 144) rfl ?_
    refine pk_goto (tgt := 148) C dX0_apply_144 (by decide) ?_
    refine pk_putX (X' := [(a, kC b (C_me c) (C_ra c) (C_co c) (C_al c) (C_re c) (C_lo c) (C_rs c) (C_li c) 1 (C_go c) (C_br c) (C_cu c) (C_lc c) (C_ac c)), (b, cS t)]) C i0_ tyX0_ok nmX0 0 rfl (ci := 0) rfl 9 (by decide) w6_ rfl rfl rfl rfl rfl (Nat.le_of_ble_eq_true rfl) rfl dX0_apply_148 (pc2 := 151) rfl ?_
    refine pw_conv (X' := [(a, cC b (C_mk (C_me c) (C_ra c) (C_co c) (C_al c) (C_re c) (C_lo c) (C_rs c) (C_li c) 1 (C_go c) (C_br c) (C_cu c) (C_lc c) (C_ac c))), (b, cS t)]) rfl ?_
    exact pr_void C hE (po_d_rfl rfl (by first | with_reducible rfl | (unfold m_X0_apply; rw [if_neg h1_, if_neg h2_, if_neg h3_, if_neg h4_, if_neg h5_, if_neg h6_, if_pos h7_]))) dX0_apply_151
def m_X0_meet (c : CR) (t : SR) (ev : ER) (mr : Int64) : CR × SR :=
  if (m_X0_isBreach c t ev mr) = 0 then if (E_ki ev) = 6 then ((m_X0_apply c t ev), t) else if (E_ki ev) = 7 then ((m_X0_apply c t ev), t) else ((m_X0_apply c t ev), (m_X0_beginStretch (m_X0_apply c t ev) t)) else ((C_mk (C_me c) (C_ra c) (C_co c) (C_al c) (C_re c) (C_lo c) (C_rs c) (C_li c) (C_he c) (C_go c) 1 (C_cu c) (C_lc c) (C_ac c)), t)
set_option maxRecDepth 100000 in
set_option maxHeartbeats 2000000 in
theorem c_X0_meet (l : Launch) (G : pw_G) (L : List Nat) (F : Nat → va_E) (a b : Nat) (c : CR) (t : SR) (e : Nat) (ev : ER) (heL : e ∈ L) (heF : F e = cE ev) (mr : Int64) : PM l yX0_meet wsX0_meet ⟨4, 0, 0, 82⟩ G [.ref a, .ref e, .long mr] [(a, cC b c), (b, cS t)] L F 0 0 (po_d none [(a, cC b ((m_X0_meet c t ev mr).1)), (b, cS ((m_X0_meet c t ev mr).2))] L F) := by
  refine pm_entry (by decide) rfl rfl (Nat.le_of_ble_eq_true rfl) ?_
  intro Z Q C hl0 hG0 hnm hE
  subst hl0
  subst hG0
  have i1_ : ∀ w ∈ wsX10, w ∈ wsX0_meet := by decide +kernel
  have i0_ : ∀ w ∈ wsX00, w ∈ wsX0_meet := by decide +kernel
  have w0_ : Cond.fieldLink RX0 89 "AgedAssets$Event" "kind" "I" ∈ wsX0_meet := by decide +kernel
  have w1_ : Cond.fieldLink RX0 60 "AgedAssets$Course" "breached" "Z" ∈ wsX0_meet := by decide +kernel
  show PW Z [(a, cC b c), (b, cS t)] L F 0 0 Q 0 [(0, .ref a), (1, .ref e), (2, .long mr)] []
  refine pk_aload_n C 0 dX0_meet_0 rfl rfl (pc2 := 1) rfl ?_
  refine pk_aload_n C 1 dX0_meet_1 rfl rfl (pc2 := 2) rfl ?_
  refine pk_lload_n C 2 dX0_meet_2 rfl rfl (pc2 := 3) rfl ?_
  refine pk_dV (cx := [(a, cC b c), (b, cS t)]) (wr := []) (X2 := [(a, cC b c), (b, cS t)]) (st := []) (st2 := [.int (m_X0_isBreach c t ev mr)]) (As := [.ref e, .long mr]) C (c_X0_isBreach (zl Z) (zG Z) L F a b c t e ev heL heF mr) gX0_meet_X0_isBreach rfl rfl rfl 2 (by decide +kernel) ⟨Nat.le_of_ble_eq_true rfl, Nat.le_of_ble_eq_true rfl⟩ (pw_atX 0 rfl) rfl rfl rfl (Nat.le_of_ble_eq_true rfl) ⟨Nat.le_of_ble_eq_true rfl, Nat.le_of_ble_eq_true rfl⟩ [0, 1] [] [0, 1] rfl rfl rfl rfl (by decide) rfl rfl dX0_meet_3 (pc2 := 6) rfl rfl ?_
  refine pk_topi (fun n1_ en1_ => ?_)
  refine pk_if_eq (tgt := 15) C dX0_meet_6 (by decide) (pc2 := 9) rfl (fun h1_ => ?_) (fun h1_ => ?_)
  ·
    refine pk_aload_n C 0 dX0_meet_15 rfl rfl (pc2 := 16) rfl ?_
    refine pk_aload_n C 1 dX0_meet_16 rfl rfl (pc2 := 17) rfl ?_
    refine pk_dV (cx := [(a, cC b c), (b, cS t)]) (wr := []) (X2 := [(a, cC b (m_X0_apply c t ev)), (b, cS t)]) (st := []) (st2 := []) (As := [.ref e]) C (c_X0_apply (zl Z) (zG Z) L F a b c t e ev heL heF) gX0_meet_X0_apply rfl rfl rfl 1 (by decide +kernel) ⟨Nat.le_of_ble_eq_true rfl, Nat.le_of_ble_eq_true rfl⟩ (pw_atX 0 rfl) rfl rfl rfl (Nat.le_of_ble_eq_true rfl) ⟨Nat.le_of_ble_eq_true rfl, Nat.le_of_ble_eq_true rfl⟩ [0, 1] [] [0, 1] rfl rfl rfl rfl (by decide) rfl rfl dX0_meet_17 (pc2 := 20) rfl rfl ?_
    generalize en2_ : (m_X0_apply c t ev) = n2_
    refine pk_aload_n C 1 dX0_meet_20 rfl rfl (pc2 := 21) rfl ?_
    refine pk_get (v := .int (E_ki ev)) C i1_ (pw_atP heL heF) (ci := 1) rfl 2 (by decide) w0_ rfl rfl dX0_meet_21 (pc2 := 24) rfl ?_
    refine pk_bipush (v := 6) C dX0_meet_24 (by decide) (pc2 := 26) rfl ?_
    refine pk_icmp_eq (tgt := 42) C dX0_meet_26 (by decide) (pc2 := 29) rfl (fun h2_ => ?_) (fun h2_ => ?_)
    ·
      subst en1_ en2_
      exact pr_void C hE (po_d_rfl rfl (by first | with_reducible rfl | (unfold m_X0_meet; rw [if_pos h1_, if_pos h2_]))) dX0_meet_42
    ·
      refine pk_aload_n C 1 dX0_meet_29 rfl rfl (pc2 := 30) rfl ?_
      refine pk_get (v := .int (E_ki ev)) C i1_ (pw_atP heL heF) (ci := 1) rfl 2 (by decide) w0_ rfl rfl dX0_meet_30 (pc2 := 33) rfl ?_
      refine pk_bipush (v := 7) C dX0_meet_33 (by decide) (pc2 := 35) rfl ?_
      refine pk_icmp_eq (tgt := 42) C dX0_meet_35 (by decide) (pc2 := 38) rfl (fun h3_ => ?_) (fun h3_ => ?_)
      ·
        subst en1_ en2_
        exact pr_void C hE (po_d_rfl rfl (by first | with_reducible rfl | (unfold m_X0_meet; rw [if_pos h1_, if_neg h2_, if_pos h3_]))) dX0_meet_42
      ·
        refine pk_aload_n C 0 dX0_meet_38 rfl rfl (pc2 := 39) rfl ?_
        refine pk_dV (cx := [(a, cC b n2_), (b, cS t)]) (wr := []) (X2 := [(a, cC b n2_), (b, cS (m_X0_beginStretch n2_ t))]) (st := []) (st2 := []) (As := []) C (c_X0_beginStretch (zl Z) (zG Z) L F a b n2_ t) gX0_meet_X0_beginStretch rfl rfl rfl 0 (by decide +kernel) ⟨Nat.le_of_ble_eq_true rfl, Nat.le_of_ble_eq_true rfl⟩ (pw_atX 0 rfl) rfl rfl rfl (Nat.le_of_ble_eq_true rfl) ⟨Nat.le_of_ble_eq_true rfl, Nat.le_of_ble_eq_true rfl⟩ [0, 1] [] [0, 1] rfl rfl rfl rfl (by decide) rfl rfl dX0_meet_39 (pc2 := 42) rfl rfl ?_
        generalize en3_ : (m_X0_beginStretch n2_ t) = n3_
        subst en1_ en2_ en3_
        exact pr_void C hE (po_d_rfl rfl (by first | with_reducible rfl | (unfold m_X0_meet; rw [if_pos h1_, if_neg h2_, if_neg h3_]))) dX0_meet_42
  ·
    refine pk_aload_n C 0 dX0_meet_9 rfl rfl (pc2 := 10) rfl ?_
    refine pk_iconst (v := 1) C dX0_meet_10 (by decide) (pc2 := 11) rfl ?_
    refine pk_putX (X' := [(a, kC b (C_me c) (C_ra c) (C_co c) (C_al c) (C_re c) (C_lo c) (C_rs c) (C_li c) (C_he c) (C_go c) 1 (C_cu c) (C_lc c) (C_ac c)), (b, cS t)]) C i0_ tyX0_ok nmX0 0 rfl (ci := 0) rfl 11 (by decide) w1_ rfl rfl rfl rfl rfl (Nat.le_of_ble_eq_true rfl) rfl dX0_meet_11 (pc2 := 14) rfl ?_
    refine pw_conv (X' := [(a, cC b (C_mk (C_me c) (C_ra c) (C_co c) (C_al c) (C_re c) (C_lo c) (C_rs c) (C_li c) (C_he c) (C_go c) 1 (C_cu c) (C_lc c) (C_ac c))), (b, cS t)]) rfl ?_
    subst en1_
    exact pr_void C hE (po_d_rfl rfl (by first | with_reducible rfl | (unfold m_X0_meet; rw [if_neg h1_]))) dX0_meet_14

def pB (c : MR) (T : TR) (p : Int32) : Int64 × MR × TR :=
  if (M_mn c) < ((T_fi T) (Int32.toNatClampNeg p)) then (0, c, T) else (((M_ac ((m_X5_reckon c T p (M_mn c)).2.1)) - (m_X5_totalOf ((m_X5_reckon c T p (M_mn c)).2.1) ((m_X5_reckon c T p (M_mn c)).2.2) p)), ((m_X5_reckon c T p (M_mn c)).2.1), ((m_X5_reckon c T p (M_mn c)).2.2))

set_option maxRecDepth 100000 in
set_option maxHeartbeats 2000000 in
theorem s_post_B {Z : pw_Z} {Q : State → Prop} {L : List Nat} {F : Nat → va_E} {m : Nat} {rf : Nat → Nat} {c : MR} {T : TR} {p : Int32} {all : Int64} {NP NE NM a_ : Nat} (C : pw_C Z cX5_post 6 RX5 wsX5_post ⟨6, 0, 0, 140⟩ (some .long)) (hri : RI c T NP NE NM) (ha_ : a_ < NP) (hpa_ : p = nI a_) (hmn35 : (M_mn c).toInt ≤ 35) (k : PW Z (mX (zG Z) m rf (pB c T p).2.1 (pB c T p).2.2) L F 0 0 Q 77 [(0, .ref m), (1, .long all), (3, .int p), (4, .long (pB c T p).1)] []) : PW Z (mX (zG Z) m rf c T) L F 0 0 Q 39 [(0, .ref m), (1, .long all), (3, .int p)] [] := by
  have i5_ : ∀ w ∈ wsX50, w ∈ wsX5_post := by decide +kernel
  have w0_ : Cond.fieldLink RX5 16 "AgedAssetsModel" "firsts" "[I" ∈ wsX5_post := by decide +kernel
  have w1_ : Cond.fieldLink RX5 219 "AgedAssetsModel" "months" "I" ∈ wsX5_post := by decide +kernel
  have w2_ : Cond.fieldLink RX5 163 "AgedAssetsModel" "sum" "J" ∈ wsX5_post := by decide +kernel
  have hp6 : vp_in p 6 := by rw [hpa_]; exact vp_in_nI (Nat.lt_of_lt_of_le ha_ hri.1.1) (by decide)
  have hgo35_ := RI_go (un := 35) hri ha_ hpa_ (by decide)
  have hgo_ := RI_go (un := M_mn c) hri ha_ hpa_ hmn35
  refine pk_lconst (v := 0) C dX5_post_39 (by decide) (pc2 := 40) rfl ?_
  refine pk_lstore (lv' := [(4, .long 0), (0, .ref m), (1, .long all), (3, .int p)]) C dX5_post_40 (by decide) rfl (pc2 := 42) rfl ?_
  refine pk_aload_n C 1 dX5_post_42 rfl rfl (pc2 := 43) rfl ?_
  refine pk_get (v := .ref (rf 2)) C i5_ (pw_atX 0 rfl) (ci := 5) rfl 4 (by decide) w0_ rfl rfl dX5_post_43 (pc2 := 46) rfl ?_
  refine pk_iload_n C 3 dX5_post_46 rfl rfl (pc2 := 47) rfl ?_
  refine pk_iald (v := ((T_fi T) (Int32.toNatClampNeg p))) C (pw_atX 3 rfl) hp6 rfl dX5_post_47 (pc2 := 48) rfl ?_
  refine pk_aload_n C 1 dX5_post_48 rfl rfl (pc2 := 49) rfl ?_
  refine pk_get (v := .int (M_mn c)) C i5_ (pw_atX 0 rfl) (ci := 5) rfl 10 (by decide) w1_ rfl rfl dX5_post_49 (pc2 := 52) rfl ?_
  refine pk_icmp_gt (tgt := 77) C dX5_post_52 (by decide) (pc2 := 55) rfl (fun h1_ => ?_) (fun h1_ => ?_)
  ·
    refine pw_lv [1, 2, 3, 0] (lv' := [(0, .ref m), (1, .long all), (3, .int p), (4, .long 0)]) rfl ?_
    have k9 := k
    unfold pB at k9
    try rw [if_pos h1_] at k9
    exact k9
  ·
    refine pk_aload_n C 1 dX5_post_55 rfl rfl (pc2 := 56) rfl ?_
    refine pk_iload_n C 3 dX5_post_56 rfl rfl (pc2 := 57) rfl ?_
    refine pk_aload_n C 1 dX5_post_57 rfl rfl (pc2 := 58) rfl ?_
    refine pk_get (v := .int (M_mn c)) C i5_ (pw_atX 0 rfl) (ci := 5) rfl 10 (by decide) w1_ rfl rfl dX5_post_58 (pc2 := 61) rfl ?_
    refine pk_dV (cx := (mX (zG Z) m rf c T)) (wr := []) (X2 := (mX (zG Z) m rf ((m_X5_reckon c T p (M_mn c)).2.1) ((m_X5_reckon c T p (M_mn c)).2.2))) (st := []) (st2 := [.int ((m_X5_reckon c T p (M_mn c)).1)]) (As := [.int p, .int (M_mn c)]) C (c_X5_reckon (zl Z) (zG Z) L F m rf c T p (M_mn c) hgo35_ hgo_) gX5_post_X5_reckon rfl rfl rfl 2 (by decide +kernel) ⟨Nat.le_of_ble_eq_true rfl, Nat.le_of_ble_eq_true rfl⟩ (pw_atX 0 rfl) rfl rfl rfl (Nat.le_of_ble_eq_true rfl) ⟨Nat.le_of_ble_eq_true rfl, Nat.le_of_ble_eq_true rfl⟩ [0, 1, 2, 3, 4, 5, 6, 7, 8, 9, 10, 11, 12, 13, 14, 15] [] [0, 1, 2, 3, 4, 5, 6, 7, 8, 9, 10, 11, 12, 13, 14, 15] rfl rfl rfl rfl (by decide) rfl rfl dX5_post_61 (pc2 := 64) rfl rfl ?_
    generalize en1_ : ((m_X5_reckon c T p (M_mn c)).2.1) = n1_
    generalize en2_ : ((m_X5_reckon c T p (M_mn c)).2.2) = n2_
    refine pk_topi (fun n3_ en3_ => ?_)
    refine pk_pop C dX5_post_64 rfl (pc2 := 65) rfl ?_
    refine pk_aload_n C 1 dX5_post_65 rfl rfl (pc2 := 66) rfl ?_
    refine pk_get (v := .long (M_ac n1_)) C i5_ (pw_atX 0 rfl) (ci := 5) rfl 33 (by decide) w2_ rfl rfl dX5_post_66 (pc2 := 69) rfl ?_
    refine pk_aload_n C 1 dX5_post_69 rfl rfl (pc2 := 70) rfl ?_
    refine pk_iload_n C 3 dX5_post_70 rfl rfl (pc2 := 71) rfl ?_
    refine pk_dV (cx := (mX (zG Z) m rf n1_ n2_)) (wr := []) (X2 := (mX (zG Z) m rf n1_ n2_)) (st := [.long (M_ac n1_)]) (st2 := [.long (m_X5_totalOf n1_ n2_ p), .long (M_ac n1_)]) (As := [.int p]) C (c_X5_totalOf (zl Z) (zG Z) L F m rf n1_ n2_ p NM hri.2.2.1.1 (by subst en1_ en2_ en3_; rw [(re_f4 ..).2.2.1]; exact hri.2.2.1.2) a_ (Nat.lt_of_lt_of_le ha_ hri.1.1) hpa_) gX5_post_X5_totalOf rfl rfl rfl 1 (by decide +kernel) ⟨Nat.le_of_ble_eq_true rfl, Nat.le_of_ble_eq_true rfl⟩ (pw_atX 0 rfl) rfl rfl rfl (Nat.le_of_ble_eq_true rfl) ⟨Nat.le_of_ble_eq_true rfl, Nat.le_of_ble_eq_true rfl⟩ [0, 1, 2, 3, 4, 5, 6, 7, 8, 9, 10, 11, 12, 13, 14, 15] [] [0, 1, 2, 3, 4, 5, 6, 7, 8, 9, 10, 11, 12, 13, 14, 15] rfl rfl rfl rfl (by decide) rfl rfl dX5_post_71 (pc2 := 74) rfl rfl ?_
    refine pk_topl (fun n4_ en4_ => ?_)
    refine pk_lsub C dX5_post_74 (pc2 := 75) rfl ?_
    refine pk_topl (fun n5_ en5_ => ?_)
    refine pk_lstore (lv' := [(4, .long n5_), (0, .ref m), (1, .long all), (3, .int p)]) C dX5_post_75 (by decide) rfl (pc2 := 77) rfl ?_
    refine pw_lv [1, 2, 3, 0] (lv' := [(0, .ref m), (1, .long all), (3, .int p), (4, .long n5_)]) rfl ?_
    subst en1_ en2_ en3_ en4_ en5_
    have k9 := k
    unfold pB at k9
    try rw [if_neg h1_] at k9
    exact k9
theorem pB_f (c : MR) (T : TR) (p : Int32) : M_nc (pB c T p).2.1 = M_nc c ∧ T_st (pB c T p).2.2 = T_st T := by
  unfold pB
  have h := re_f4 c T p (M_mn c)
  refine zi_ite (P := fun (x : Int64 × MR × TR) => M_nc x.2.1 = M_nc c ∧ T_st x.2.2 = T_st T) (fun _ => ?_) (fun _ => ?_)
  · exact ⟨rfl, rfl⟩
  · exact ⟨by unfold M_nc; rw [h.2.1, h.2.2.1, h.2.2.2.1], h.2.2.2.2⟩
/-- a part's posting in the table -/
def pT (T : TR) (mn p : Int32) (now : Int64) : TR := T_s_po T (vp_updL (T_po T) (Int32.toNatClampNeg ((36 * p) + mn)) now)
def m_X5_post_l : Nat → MR → TR → Int64 → Int32 → Int64 × MR × TR
  | 0, c, T, _, _ => (0, c, T)
  | n + 1, c, T, all, p => if (M_pt c) ≤ p then (all, (M_mk (M_cd c) (M_pt c) ((M_mn c) + 1) (M_ev c) (M_co c) (M_al c) (M_re c) (M_lo c) (M_rs c) (M_li c) (M_he c) (M_go c) (M_sp c) (M_ba c) (M_le c) (M_lf c) (M_mo c) (M_un c) (M_ch c) (M_lc c) (M_ac c) (M_bd c)), T) else m_X5_post_l n (pB c T p).2.1 (pT (pB c T p).2.2 (M_mn (pB c T p).2.1) p (pB c T p).1) (all + (pB c T p).1) (p + 1)
theorem m_X5_post_l_s (n : Nat) (c : MR) (T : TR) (all : Int64) (p : Int32) : m_X5_post_l (n + 1) c T all p = (if (M_pt c) ≤ p then (all, (M_mk (M_cd c) (M_pt c) ((M_mn c) + 1) (M_ev c) (M_co c) (M_al c) (M_re c) (M_lo c) (M_rs c) (M_li c) (M_he c) (M_go c) (M_sp c) (M_ba c) (M_le c) (M_lf c) (M_mo c) (M_un c) (M_ch c) (M_lc c) (M_ac c) (M_bd c)), T) else m_X5_post_l n (pB c T p).2.1 (pT (pB c T p).2.2 (M_mn (pB c T p).2.1) p (pB c T p).1) (all + (pB c T p).1) (p + 1)) := rfl
def m_X5_post (c : MR) (T : TR) : Int64 × MR × TR := if (M_mn c) = 36 then (0, (M_mk 1 (M_pt c) (M_mn c) (M_ev c) (M_co c) (M_al c) (M_re c) (M_lo c) (M_rs c) (M_li c) (M_he c) (M_go c) (M_sp c) (M_ba c) (M_le c) (M_lf c) (M_mo c) (M_un c) (M_ch c) (M_lc c) (M_ac c) (M_bd c)), T) else m_X5_post_l 7 (M_mk 0 (M_pt c) (M_mn c) (M_ev c) (M_co c) (M_al c) (M_re c) (M_lo c) (M_rs c) (M_li c) (M_he c) (M_go c) (M_sp c) (M_ba c) (M_le c) (M_lf c) (M_mo c) (M_un c) (M_ch c) (M_lc c) (M_ac c) (M_bd c)) T 0 0
theorem RI_pT {c : MR} {T : TR} {NP NE NM : Nat} (h : RI c T NP NE NM) (mn p : Int32) (now : Int64) : RI c (pT T mn p now) NP NE NM := by
  unfold pT RI
  rw [T_fi_s_po, T_li_s_po, T_ki_s_po, T_nu_s_po, T_of_s_po]
  exact h
theorem po_36 {c : MR} {T : TR} {NP NE NM : Nat} (h : RI c T NP NE NM) (h2 : ¬ (M_mn c) = 36) : NM < 36 := by
  obtain ⟨-, -, ⟨h3, h4⟩, -⟩ := h
  have h5 : ¬ NM = 36 := fun e => h2 (by rw [h4, e]; rfl)
  omega
set_option maxRecDepth 100000 in
set_option maxHeartbeats 2000000 in
theorem s_post_T {Z : pw_Z} {Q : State → Prop} {L : List Nat} {F : Nat → va_E} {m : Nat} {rf : Nat → Nat} {c : MR} {T : TR} {p : Int32} {all now : Int64} (C : pw_C Z cX5_post 6 RX5 wsX5_post ⟨6, 0, 0, 140⟩ (some .long)) (hpm : vp_in ((36 * p) + (M_mn c)) 216) (k : PW Z (mX (zG Z) m rf c (pT T (M_mn c) p now)) L F 0 0 Q 31 [(0, .ref m), (1, .long (all + now)), (3, .int (p + 1))] []) : PW Z (mX (zG Z) m rf c T) L F 0 0 Q 77 [(0, .ref m), (1, .long all), (3, .int p), (4, .long now)] [] := by
  have i5_ : ∀ w ∈ wsX50, w ∈ wsX5_post := by decide +kernel
  have w0_ : Cond.fieldLink RX5 32 "AgedAssetsModel" "posted" "[J" ∈ wsX5_post := by decide +kernel
  have w1_ : Cond.fieldLink RX5 219 "AgedAssetsModel" "months" "I" ∈ wsX5_post := by decide +kernel
  refine pk_aload_n C 0 dX5_post_77 rfl rfl (pc2 := 78) rfl ?_
  refine pk_get (v := .ref (rf 7)) C i5_ (pw_atX 0 rfl) (ci := 5) rfl 9 (by decide) w0_ rfl rfl dX5_post_78 (pc2 := 81) rfl ?_
  refine pk_bipush (v := 36) C dX5_post_81 (by decide) (pc2 := 83) rfl ?_
  refine pk_iload_n C 2 dX5_post_83 rfl rfl (pc2 := 84) rfl ?_
  refine pk_imul C dX5_post_84 (pc2 := 85) rfl ?_
  refine pk_aload_n C 0 dX5_post_85 rfl rfl (pc2 := 86) rfl ?_
  refine pk_get (v := .int (M_mn c)) C i5_ (pw_atX 0 rfl) (ci := 5) rfl 10 (by decide) w1_ rfl rfl dX5_post_86 (pc2 := 89) rfl ?_
  refine pk_iadd C dX5_post_89 (pc2 := 90) rfl ?_
  refine pk_lload C 3 dX5_post_90 rfl (pc2 := 92) rfl ?_
  refine pk_lastX (X' := (mX (zG Z) m rf c (T_s_po T (vp_updL (T_po T) (Int32.toNatClampNeg ((36 * p) + (M_mn c))) now)))) C 8 rfl hpm mT_s_po dX5_post_92 (pc2 := 93) rfl ?_
  generalize en1_ : (T_s_po T (vp_updL (T_po T) (Int32.toNatClampNeg ((36 * p) + (M_mn c))) now)) = n1_
  refine pk_lload_n C 1 dX5_post_93 rfl rfl (pc2 := 94) rfl ?_
  refine pk_lload C 3 dX5_post_94 rfl (pc2 := 96) rfl ?_
  refine pk_ladd C dX5_post_96 (pc2 := 97) rfl ?_
  refine pk_topl (fun n2_ en2_ => ?_)
  refine pk_lstore_n (lv' := [(1, .long n2_), (0, .ref m), (3, .int p), (4, .long now)]) C dX5_post_97 rfl (by decide) rfl (pc2 := 98) rfl ?_
  refine pk_iinc (v := (p + 1)) (lv' := [(3, .int (p + 1)), (1, .long n2_), (0, .ref m), (4, .long now)]) C 2 dX5_post_98 rfl rfl (by decide) rfl (pc2 := 101) rfl ?_
  refine pk_goto (tgt := 31) C dX5_post_101 (by decide) ?_
  refine pw_lv [2, 1, 0] (lv' := [(0, .ref m), (1, .long n2_), (3, .int (p + 1))]) rfl ?_
  subst en1_ en2_
  exact k
set_option maxRecDepth 100000 in
set_option maxHeartbeats 2000000 in
theorem s_post_H {Z : pw_Z} {Q : State → Prop} {L : List Nat} {F : Nat → va_E} {m : Nat} {rf : Nat → Nat} {c : MR} {T : TR} {p : Int32} {all : Int64} {X9 : va_W} {R : Int64 × MR × TR} (C : pw_C Z cX5_post 6 RX5 wsX5_post ⟨6, 0, 0, 140⟩ (some .long)) (hE : pw_End Z Q X9 L F (po_d (some (.long R.1)) (mX (zG Z) m rf R.2.1 R.2.2) L F) 0 0) (hR : (M_pt c) ≤ p → (all, (M_mk (M_cd c) (M_pt c) ((M_mn c) + 1) (M_ev c) (M_co c) (M_al c) (M_re c) (M_lo c) (M_rs c) (M_li c) (M_he c) (M_go c) (M_sp c) (M_ba c) (M_le c) (M_lf c) (M_mo c) (M_un c) (M_ch c) (M_lc c) (M_ac c) (M_bd c)), T) = R) (k : ¬ (M_pt c) ≤ p → PW Z (mX (zG Z) m rf c T) L F 0 0 Q 39 [(0, .ref m), (1, .long all), (3, .int p)] []) : PW Z (mX (zG Z) m rf c T) L F 0 0 Q 31 [(0, .ref m), (1, .long all), (3, .int p)] [] := by
  have i5_ : ∀ w ∈ wsX50, w ∈ wsX5_post := by decide +kernel
  have w0_ : Cond.fieldLink RX5 62 "AgedAssetsModel" "parts" "I" ∈ wsX5_post := by decide +kernel
  have w1_ : Cond.fieldLink RX5 219 "AgedAssetsModel" "months" "I" ∈ wsX5_post := by decide +kernel
  refine pk_iload_n C 2 dX5_post_31 rfl rfl (pc2 := 32) rfl ?_
  refine pk_aload_n C 0 dX5_post_32 rfl rfl (pc2 := 33) rfl ?_
  refine pk_get (v := .int (M_pt c)) C i5_ (pw_atX 0 rfl) (ci := 5) rfl 1 (by decide) w0_ rfl rfl dX5_post_33 (pc2 := 36) rfl ?_
  refine pk_icmp_ge (tgt := 104) C dX5_post_36 (by decide) (pc2 := 39) rfl (fun h1_ => ?_) (fun h1_ => ?_)
  ·
    refine pk_aload_n C 0 dX5_post_104 rfl rfl (pc2 := 105) rfl ?_
    refine pk_aload_n C 0 dX5_post_105 rfl rfl (pc2 := 106) rfl ?_
    refine pk_get (v := .int (M_mn c)) C i5_ (pw_atX 0 rfl) (ci := 5) rfl 10 (by decide) w1_ rfl rfl dX5_post_106 (pc2 := 109) rfl ?_
    refine pk_iconst (v := 1) C dX5_post_109 (by decide) (pc2 := 110) rfl ?_
    refine pk_iadd C dX5_post_110 (pc2 := 111) rfl ?_
    refine pk_topi (fun n1_ en1_ => ?_)
    refine pk_putX (X' := ((m, kM rf (M_cd c) (M_pt c) n1_ (M_ev c) (M_co c) (M_al c) (M_re c) (M_lo c) (M_rs c) (M_li c) (M_he c) (M_go c) (M_sp c) (M_ba c) (M_le c) (M_lf c) (M_mo c) (M_un c) (M_ch c) (M_lc c) (M_ac c) (M_bd c)) :: mT (zG Z) rf T)) C i5_ tyX5_ok nmX5 0 rfl (ci := 5) rfl 10 (by decide) w1_ rfl rfl rfl rfl rfl (Nat.le_of_ble_eq_true rfl) rfl dX5_post_111 (pc2 := 114) rfl ?_
    refine pk_lload_n C 1 dX5_post_114 rfl rfl (pc2 := 115) rfl ?_
    refine pw_conv (X' := (mX (zG Z) m rf (M_mk (M_cd c) (M_pt c) n1_ (M_ev c) (M_co c) (M_al c) (M_re c) (M_lo c) (M_rs c) (M_li c) (M_he c) (M_go c) (M_sp c) (M_ba c) (M_le c) (M_lf c) (M_mo c) (M_un c) (M_ch c) (M_lc c) (M_ac c) (M_bd c)) T)) mX_mk ?_
    subst en1_
    have hR9 := hR h1_
    subst hR9
    exact pr_long C hE (po_d_rfl rfl rfl) dX5_post_115
  ·
    exact k h1_
theorem l_X5_post {Z : pw_Z} {Q : State → Prop} {L : List Nat} {F : Nat → va_E} {m : Nat} {rf : Nat → Nat} {NP NE NM : Nat} {X9 : va_W} {R : Int64 × MR × TR} (C : pw_C Z cX5_post 6 RX5 wsX5_post ⟨6, 0, 0, 140⟩ (some .long)) (hE : pw_End Z Q X9 L F (po_d (some (.long R.1)) (mX (zG Z) m rf R.2.1 R.2.2) L F) 0 0) (hNM : NM < 36) : ∀ (n k : Nat) (c : MR) (T : TR) (all : Int64) (p : Int32), NP < k + n → k ≤ NP → p = nI k → RI c T NP NE NM → m_X5_post_l n c T all p = R → PW Z (mX (zG Z) m rf c T) L F 0 0 Q 31 [(0, .ref m), (1, .long all), (3, .int p)] [] := by
  intro n
  induction n with
  | zero =>
    intro k c T all p h1 h2
    exact absurd h1 (by omega)
  | succ n ih =>
    intro k c T all p h1 h2 he hri hR
    rw [m_X5_post_l_s] at hR
    refine s_post_H C hE (fun h => by rw [if_pos h] at hR; exact hR) (fun h => ?_)
    rw [if_neg h] at hR
    have hk : k < NP := lp_lt hri.1.2 (by have := hri.1.1; omega) he h2 h
    have hmn : M_mn c = nI NM := hri.2.2.1.2
    refine s_post_B C hri hk he (by rw [hmn, nI_toInt (by omega)]; omega) ?_
    obtain ⟨f1, f2⟩ := pB_f c T p
    have hri2 := RI_st (RI_nc hri f1) f2
    refine s_post_T C (by rw [hri2.2.2.1.2]; exact ix_pm he (Nat.lt_of_lt_of_le hk hri.1.1) rfl hNM) ?_
    exact ih (k + 1) _ _ _ _ (by omega) (by omega) (by rw [he, nI_1]) (RI_pT hri2 _ _ _) hR
set_option maxRecDepth 100000 in
set_option maxHeartbeats 2000000 in
theorem t_X5_post {Z : pw_Z} {Q : State → Prop} {L : List Nat} {F : Nat → va_E} {m : Nat} {rf : Nat → Nat} {c : MR} {T : TR} {NP NE NM : Nat} {X9 : va_W} {R : Int64 × MR × TR} (C : pw_C Z cX5_post 6 RX5 wsX5_post ⟨6, 0, 0, 140⟩ (some .long)) (hE : pw_End Z Q X9 L F (po_d (some (.long R.1)) (mX (zG Z) m rf R.2.1 R.2.2) L F) 0 0) (hri : RI c T NP NE NM) (hR : m_X5_post c T = R) : PW Z (mX (zG Z) m rf c T) L F 0 0 Q 0 [(0, .ref m)] [] := by
  have i5_ : ∀ w ∈ wsX50, w ∈ wsX5_post := by decide +kernel
  have w0_ : Cond.fieldLink RX5 219 "AgedAssetsModel" "months" "I" ∈ wsX5_post := by decide +kernel
  have w1_ : Cond.fieldLink RX5 56 "AgedAssetsModel" "code" "I" ∈ wsX5_post := by decide +kernel
  refine pk_aload_n C 0 dX5_post_0 rfl rfl (pc2 := 1) rfl ?_
  refine pk_aload_n C 0 dX5_post_1 rfl rfl (pc2 := 2) rfl ?_
  refine pk_get (v := .int (M_mn c)) C i5_ (pw_atX 0 rfl) (ci := 5) rfl 10 (by decide) w0_ rfl rfl dX5_post_2 (pc2 := 5) rfl ?_
  refine pk_bipush (v := 36) C dX5_post_5 (by decide) (pc2 := 7) rfl ?_
  refine pk_icmp_ne (tgt := 14) C dX5_post_7 (by decide) (pc2 := 10) rfl (fun h1_ => ?_) (fun h1_ => ?_)
  ·
    refine pk_iconst (v := 0) C dX5_post_14 (by decide) (pc2 := 15) rfl ?_
    refine pk_putX (X' := ((m, kM rf 0 (M_pt c) (M_mn c) (M_ev c) (M_co c) (M_al c) (M_re c) (M_lo c) (M_rs c) (M_li c) (M_he c) (M_go c) (M_sp c) (M_ba c) (M_le c) (M_lf c) (M_mo c) (M_un c) (M_ch c) (M_lc c) (M_ac c) (M_bd c)) :: mT (zG Z) rf T)) C i5_ tyX5_ok nmX5 0 rfl (ci := 5) rfl 0 (by decide) w1_ rfl rfl rfl rfl rfl (Nat.le_of_ble_eq_true rfl) rfl dX5_post_15 (pc2 := 18) rfl ?_
    refine pk_aload_n C 0 dX5_post_18 rfl rfl (pc2 := 19) rfl ?_
    refine pk_get (v := .int 0) C i5_ (pw_atX 0 rfl) (ci := 5) rfl 0 (by decide) w1_ rfl rfl dX5_post_19 (pc2 := 22) rfl ?_
    refine pk_if_le (tgt := 27) C dX5_post_22 (by decide) (pc2 := 25) rfl (fun h2_ => ?_) (fun h2_ => ?_)
    rotate_left
    · exact absurd (by decide) h2_
    refine pk_lconst (v := 0) C dX5_post_27 (by decide) (pc2 := 28) rfl ?_
    refine pk_lstore_n (lv' := [(1, .long 0), (0, .ref m)]) C dX5_post_28 rfl (by decide) rfl (pc2 := 29) rfl ?_
    refine pk_iconst (v := 0) C dX5_post_29 (by decide) (pc2 := 30) rfl ?_
    refine pk_istore_n (lv' := [(3, .int 0), (1, .long 0), (0, .ref m)]) C dX5_post_30 rfl (by decide) rfl (pc2 := 31) rfl ?_
    refine pw_conv (X' := (mX (zG Z) m rf (M_mk 0 (M_pt c) (M_mn c) (M_ev c) (M_co c) (M_al c) (M_re c) (M_lo c) (M_rs c) (M_li c) (M_he c) (M_go c) (M_sp c) (M_ba c) (M_le c) (M_lf c) (M_mo c) (M_un c) (M_ch c) (M_lc c) (M_ac c) (M_bd c)) T)) mX_mk ?_
    refine pw_lv [2, 1, 0] (lv' := [(0, .ref m), (1, .long 0), (3, .int 0)]) rfl ?_
    unfold m_X5_post at hR
    rw [if_neg h1_] at hR
    exact l_X5_post C hE (po_36 hri h1_) 7 0 (M_mk 0 (M_pt c) (M_mn c) (M_ev c) (M_co c) (M_al c) (M_re c) (M_lo c) (M_rs c) (M_li c) (M_he c) (M_go c) (M_sp c) (M_ba c) (M_le c) (M_lf c) (M_mo c) (M_un c) (M_ch c) (M_lc c) (M_ac c) (M_bd c)) T 0 0 (by have := hri.1.1; omega) (Nat.zero_le _) rfl (RI_nc hri (f0_nc c)) hR
  ·
    refine pk_iconst (v := 1) C dX5_post_10 (by decide) (pc2 := 11) rfl ?_
    refine pk_goto (tgt := 15) C dX5_post_11 (by decide) ?_
    refine pk_putX (X' := ((m, kM rf 1 (M_pt c) (M_mn c) (M_ev c) (M_co c) (M_al c) (M_re c) (M_lo c) (M_rs c) (M_li c) (M_he c) (M_go c) (M_sp c) (M_ba c) (M_le c) (M_lf c) (M_mo c) (M_un c) (M_ch c) (M_lc c) (M_ac c) (M_bd c)) :: mT (zG Z) rf T)) C i5_ tyX5_ok nmX5 0 rfl (ci := 5) rfl 0 (by decide) w1_ rfl rfl rfl rfl rfl (Nat.le_of_ble_eq_true rfl) rfl dX5_post_15 (pc2 := 18) rfl ?_
    refine pk_aload_n C 0 dX5_post_18 rfl rfl (pc2 := 19) rfl ?_
    refine pk_get (v := .int 1) C i5_ (pw_atX 0 rfl) (ci := 5) rfl 0 (by decide) w1_ rfl rfl dX5_post_19 (pc2 := 22) rfl ?_
    refine pk_if_le (tgt := 27) C dX5_post_22 (by decide) (pc2 := 25) rfl (fun h3_ => ?_) (fun h3_ => ?_)
    · exact absurd h3_ (by decide)
    refine pk_lconst (v := 0) C dX5_post_25 (by decide) (pc2 := 26) rfl ?_
    refine pw_conv (X' := (mX (zG Z) m rf (M_mk 1 (M_pt c) (M_mn c) (M_ev c) (M_co c) (M_al c) (M_re c) (M_lo c) (M_rs c) (M_li c) (M_he c) (M_go c) (M_sp c) (M_ba c) (M_le c) (M_lf c) (M_mo c) (M_un c) (M_ch c) (M_lc c) (M_ac c) (M_bd c)) T)) mX_mk ?_
    unfold m_X5_post at hR
    rw [if_pos h1_] at hR
    subst hR
    exact pr_long C hE (po_d_rfl rfl rfl) dX5_post_26
theorem c_X5_post (l : Launch) (G : pw_G) (L : List Nat) (F : Nat → va_E) (m : Nat) (rf : Nat → Nat) (NP NE NM : Nat) (c : MR) (T : TR) (hri : RI c T NP NE NM) : PM l yX5_post wsX5_post ⟨6, 0, 0, 140⟩ G [.ref m] (mX G m rf c T) L F 0 0 (po_d (some (.long (m_X5_post c T).1)) (mX G m rf (m_X5_post c T).2.1 (m_X5_post c T).2.2) L F) := by
  refine pm_entry (by decide) rfl rfl (Nat.le_of_ble_eq_true rfl) ?_
  intro Z Q C hl0 hG0 hnm hE
  subst hl0
  subst hG0
  exact t_X5_post C hE hri rfl

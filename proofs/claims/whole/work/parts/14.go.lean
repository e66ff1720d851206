def gA (c : MR) (T : TR) (p mm : Int32) : MR :=
  if mm = ((T_fi T) (Int32.toNatClampNeg p)) then (m_X5_stretch (M_mk (M_cd c) (M_pt c) (M_mn c) (M_ev c) ((T_cs T) (Int32.toNatClampNeg p)) (M_al c) (M_re c) (M_lo c) ((T_rs T) (Int32.toNatClampNeg p)) ((T_li T) (Int32.toNatClampNeg p)) (M_he c) (M_go c) (M_sp c) (M_ba c) (M_le c) (M_lf c) (M_mo c) (M_un c) (M_ch c) (M_lc c) (M_ac c) (M_bd c)) T p) else c

set_option maxRecDepth 100000 in
set_option maxHeartbeats 2000000 in
theorem s_go_A {Z : pw_Z} {Q : State → Prop} {L : List Nat} {F : Nat → va_E} {m : Nat} {rf : Nat → Nat} {c : MR} {T : TR} {p un pl mm : Int32} (C : pw_C Z cX5_go 7 RX5 wsX5_go ⟨4, 0, 0, 92⟩ (some .int)) (hp : vp_in p 6) (k : PW Z (mX (zG Z) m rf (gA c T p mm) T) L F 0 0 Q 64 [(0, .ref m), (1, .int p), (2, .int un), (3, .int pl), (4, .int mm)] []) : PW Z (mX (zG Z) m rf c T) L F 0 0 Q 18 [(0, .ref m), (1, .int p), (2, .int un), (3, .int pl), (4, .int mm)] [] := by
  have i5_ : ∀ w ∈ wsX50, w ∈ wsX5_go := by decide +kernel
  have w0_ : Cond.fieldLink RX5 16 "AgedAssetsModel" "firsts" "[I" ∈ wsX5_go := by decide +kernel
  have w1_ : Cond.fieldLink RX5 7 "AgedAssetsModel" "costs" "[J" ∈ wsX5_go := by decide +kernel
  have w2_ : Cond.fieldLink RX5 65 "AgedAssetsModel" "cost" "J" ∈ wsX5_go := by decide +kernel
  have w3_ : Cond.fieldLink RX5 13 "AgedAssetsModel" "residuals" "[J" ∈ wsX5_go := by decide +kernel
  have w4_ : Cond.fieldLink RX5 79 "AgedAssetsModel" "residual" "J" ∈ wsX5_go := by decide +kernel
  have w5_ : Cond.fieldLink RX5 20 "AgedAssetsModel" "lives" "[I" ∈ wsX5_go := by decide +kernel
  have w6_ : Cond.fieldLink RX5 85 "AgedAssetsModel" "rest" "I" ∈ wsX5_go := by decide +kernel
  refine pk_iload C 4 dX5_go_18 rfl (pc2 := 20) rfl ?_
  refine pk_aload_n C 0 dX5_go_20 rfl rfl (pc2 := 21) rfl ?_
  refine pk_get (v := .ref (rf 2)) C i5_ (pw_atX 0 rfl) (ci := 5) rfl 4 (by decide) w0_ rfl rfl dX5_go_21 (pc2 := 24) rfl ?_
  refine pk_iload_n C 1 dX5_go_24 rfl rfl (pc2 := 25) rfl ?_
  refine pk_iald (v := ((T_fi T) (Int32.toNatClampNeg p))) C (pw_atX 3 rfl) hp rfl dX5_go_25 (pc2 := 26) rfl ?_
  refine pk_icmp_ne (tgt := 64) C dX5_go_26 (by decide) (pc2 := 29) rfl (fun h1_ => ?_) (fun h1_ => ?_)
  ·
    refine pw_lv [0, 1, 2, 3, 4] (lv' := [(0, .ref m), (1, .int p), (2, .int un), (3, .int pl), (4, .int mm)]) rfl ?_
    have k9 := k
    unfold gA at k9
    try rw [if_neg h1_] at k9
    exact k9
  ·
    refine pk_aload_n C 0 dX5_go_29 rfl rfl (pc2 := 30) rfl ?_
    refine pk_aload_n C 0 dX5_go_30 rfl rfl (pc2 := 31) rfl ?_
    refine pk_get (v := .ref (rf 0)) C i5_ (pw_atX 0 rfl) (ci := 5) rfl 2 (by decide) w1_ rfl rfl dX5_go_31 (pc2 := 34) rfl ?_
    refine pk_iload_n C 1 dX5_go_34 rfl rfl (pc2 := 35) rfl ?_
    refine pk_lald (v := ((T_cs T) (Int32.toNatClampNeg p))) C (pw_atX 1 rfl) hp rfl dX5_go_35 (pc2 := 36) rfl ?_
    refine pk_topl (fun n1_ en1_ => ?_)
    refine pk_putX (X' := ((m, kM rf (M_cd c) (M_pt c) (M_mn c) (M_ev c) n1_ (M_al c) (M_re c) (M_lo c) (M_rs c) (M_li c) (M_he c) (M_go c) (M_sp c) (M_ba c) (M_le c) (M_lf c) (M_mo c) (M_un c) (M_ch c) (M_lc c) (M_ac c) (M_bd c)) :: mT (zG Z) rf T)) C i5_ tyX5_ok nmX5 0 rfl (ci := 5) rfl 17 (by decide) w2_ rfl rfl rfl rfl rfl (Nat.le_of_ble_eq_true rfl) rfl dX5_go_36 (pc2 := 39) rfl ?_
    refine pk_aload_n C 0 dX5_go_39 rfl rfl (pc2 := 40) rfl ?_
    refine pk_aload_n C 0 dX5_go_40 rfl rfl (pc2 := 41) rfl ?_
    refine pk_get (v := .ref (rf 1)) C i5_ (pw_atX 0 rfl) (ci := 5) rfl 3 (by decide) w3_ rfl rfl dX5_go_41 (pc2 := 44) rfl ?_
    refine pk_iload_n C 1 dX5_go_44 rfl rfl (pc2 := 45) rfl ?_
    refine pk_lald (v := ((T_rs T) (Int32.toNatClampNeg p))) C (pw_atX 2 rfl) hp rfl dX5_go_45 (pc2 := 46) rfl ?_
    refine pk_topl (fun n2_ en2_ => ?_)
    refine pk_putX (X' := ((m, kM rf (M_cd c) (M_pt c) (M_mn c) (M_ev c) n1_ (M_al c) (M_re c) (M_lo c) n2_ (M_li c) (M_he c) (M_go c) (M_sp c) (M_ba c) (M_le c) (M_lf c) (M_mo c) (M_un c) (M_ch c) (M_lc c) (M_ac c) (M_bd c)) :: mT (zG Z) rf T)) C i5_ tyX5_ok nmX5 0 rfl (ci := 5) rfl 21 (by decide) w4_ rfl rfl rfl rfl rfl (Nat.le_of_ble_eq_true rfl) rfl dX5_go_46 (pc2 := 49) rfl ?_
    refine pk_aload_n C 0 dX5_go_49 rfl rfl (pc2 := 50) rfl ?_
    refine pk_aload_n C 0 dX5_go_50 rfl rfl (pc2 := 51) rfl ?_
    refine pk_get (v := .ref (rf 3)) C i5_ (pw_atX 0 rfl) (ci := 5) rfl 5 (by decide) w5_ rfl rfl dX5_go_51 (pc2 := 54) rfl ?_
    refine pk_iload_n C 1 dX5_go_54 rfl rfl (pc2 := 55) rfl ?_
    refine pk_iald (v := ((T_li T) (Int32.toNatClampNeg p))) C (pw_atX 4 rfl) hp rfl dX5_go_55 (pc2 := 56) rfl ?_
    refine pk_topi (fun n3_ en3_ => ?_)
    refine pk_putX (X' := ((m, kM rf (M_cd c) (M_pt c) (M_mn c) (M_ev c) n1_ (M_al c) (M_re c) (M_lo c) n2_ n3_ (M_he c) (M_go c) (M_sp c) (M_ba c) (M_le c) (M_lf c) (M_mo c) (M_un c) (M_ch c) (M_lc c) (M_ac c) (M_bd c)) :: mT (zG Z) rf T)) C i5_ tyX5_ok nmX5 0 rfl (ci := 5) rfl 22 (by decide) w6_ rfl rfl rfl rfl rfl (Nat.le_of_ble_eq_true rfl) rfl dX5_go_56 (pc2 := 59) rfl ?_
    refine pk_aload_n C 0 dX5_go_59 rfl rfl (pc2 := 60) rfl ?_
    refine pk_iload_n C 1 dX5_go_60 rfl rfl (pc2 := 61) rfl ?_
    refine pw_conv (X' := (mX (zG Z) m rf (M_mk (M_cd c) (M_pt c) (M_mn c) (M_ev c) n1_ (M_al c) (M_re c) (M_lo c) n2_ n3_ (M_he c) (M_go c) (M_sp c) (M_ba c) (M_le c) (M_lf c) (M_mo c) (M_un c) (M_ch c) (M_lc c) (M_ac c) (M_bd c)) T)) mX_mk ?_
    refine pk_dV (cx := (mX (zG Z) m rf (M_mk (M_cd c) (M_pt c) (M_mn c) (M_ev c) n1_ (M_al c) (M_re c) (M_lo c) n2_ n3_ (M_he c) (M_go c) (M_sp c) (M_ba c) (M_le c) (M_lf c) (M_mo c) (M_un c) (M_ch c) (M_lc c) (M_ac c) (M_bd c)) T)) (wr := []) (X2 := (mX (zG Z) m rf (m_X5_stretch (M_mk (M_cd c) (M_pt c) (M_mn c) (M_ev c) n1_ (M_al c) (M_re c) (M_lo c) n2_ n3_ (M_he c) (M_go c) (M_sp c) (M_ba c) (M_le c) (M_lf c) (M_mo c) (M_un c) (M_ch c) (M_lc c) (M_ac c) (M_bd c)) T p) T)) (st := []) (st2 := []) (As := [.int p]) C (c_X5_stretch (zl Z) (zG Z) L F m rf (M_mk (M_cd c) (M_pt c) (M_mn c) (M_ev c) n1_ (M_al c) (M_re c) (M_lo c) n2_ n3_ (M_he c) (M_go c) (M_sp c) (M_ba c) (M_le c) (M_lf c) (M_mo c) (M_un c) (M_ch c) (M_lc c) (M_ac c) (M_bd c)) T p hp) gX5_go_X5_stretch rfl rfl rfl 1 (by decide +kernel) ⟨Nat.le_of_ble_eq_true rfl, Nat.le_of_ble_eq_true rfl⟩ (pw_atX 0 rfl) rfl rfl rfl (Nat.le_of_ble_eq_true rfl) ⟨Nat.le_of_ble_eq_true rfl, Nat.le_of_ble_eq_true rfl⟩ [0, 1, 2, 3, 4, 5, 6, 7, 8, 9, 10, 11, 12, 13, 14, 15] [] [0, 1, 2, 3, 4, 5, 6, 7, 8, 9, 10, 11, 12, 13, 14, 15] rfl rfl rfl rfl (by decide) rfl rfl dX5_go_61 (pc2 := 64) rfl rfl ?_
    generalize en4_ : (m_X5_stretch (M_mk (M_cd c) (M_pt c) (M_mn c) (M_ev c) n1_ (M_al c) (M_re c) (M_lo c) n2_ n3_ (M_he c) (M_go c) (M_sp c) (M_ba c) (M_le c) (M_lf c) (M_mo c) (M_un c) (M_ch c) (M_lc c) (M_ac c) (M_bd c)) T p) = n4_
    refine pw_lv [0, 1, 2, 3, 4] (lv' := [(0, .ref m), (1, .int p), (2, .int un), (3, .int pl), (4, .int mm)]) rfl ?_
    subst en1_ en2_ en3_ en4_
    have k9 := k
    unfold gA at k9
    try rw [if_pos h1_] at k9
    exact k9
def gB (c : MR) (T : TR) (p pl mm : Int32) : Int32 :=
  if (m_X5_eventIn c T p mm) < 0 then 1 else if pl = 0 then 0 else if ((T_ki T) (Int32.toNatClampNeg (m_X5_eventIn c T p mm))) = 3 then 1 else if ((T_ki T) (Int32.toNatClampNeg (m_X5_eventIn c T p mm))) = 4 then 1 else 0

set_option maxRecDepth 100000 in
set_option maxHeartbeats 2000000 in
theorem s_go_B {Z : pw_Z} {Q : State → Prop} {L : List Nat} {F : Nat → va_E} {m : Nat} {rf : Nat → Nat} {c : MR} {T : TR} {p un pl mm : Int32} (C : pw_C Z cX5_go 7 RX5 wsX5_go ⟨4, 0, 0, 92⟩ (some .int)) {N : Nat} (hN : N ≤ 40) (hev : M_ev c = nI N) (k : PW Z (mX (zG Z) m rf c T) L F 0 0 Q 111 [(0, .ref m), (1, .int p), (2, .int un), (3, .int pl), (4, .int mm), (5, .int (m_X5_eventIn c T p mm)), (6, .int (gB c T p pl mm))] []) : PW Z (mX (zG Z) m rf c T) L F 0 0 Q 64 [(0, .ref m), (1, .int p), (2, .int un), (3, .int pl), (4, .int mm)] [] := by
  have i5_ : ∀ w ∈ wsX50, w ∈ wsX5_go := by decide +kernel
  have w0_ : Cond.fieldLink RX5 41 "AgedAssetsModel" "kinds" "[I" ∈ wsX5_go := by decide +kernel
  refine pk_aload_n C 0 dX5_go_64 rfl rfl (pc2 := 65) rfl ?_
  refine pk_iload_n C 1 dX5_go_65 rfl rfl (pc2 := 66) rfl ?_
  refine pk_iload C 4 dX5_go_66 rfl (pc2 := 68) rfl ?_
  refine pk_dV (cx := (mX (zG Z) m rf c T)) (wr := []) (X2 := (mX (zG Z) m rf c T)) (st := []) (st2 := [.int (m_X5_eventIn c T p mm)]) (As := [.int p, .int mm]) C (c_X5_eventIn (zl Z) (zG Z) L F m rf c T p mm N hN hev) gX5_go_X5_eventIn rfl rfl rfl 2 (by decide +kernel) ⟨Nat.le_of_ble_eq_true rfl, Nat.le_of_ble_eq_true rfl⟩ (pw_atX 0 rfl) rfl rfl rfl (Nat.le_of_ble_eq_true rfl) ⟨Nat.le_of_ble_eq_true rfl, Nat.le_of_ble_eq_true rfl⟩ [0, 1, 2, 3, 4, 5, 6, 7, 8, 9, 10, 11, 12, 13, 14, 15] [] [0, 1, 2, 3, 4, 5, 6, 7, 8, 9, 10, 11, 12, 13, 14, 15] rfl rfl rfl rfl (by decide) rfl rfl dX5_go_68 (pc2 := 71) rfl rfl ?_
  refine pk_topi (fun n1_ en1_ => ?_)
  refine pk_istore (lv' := [(5, .int n1_), (0, .ref m), (1, .int p), (2, .int un), (3, .int pl), (4, .int mm)]) C dX5_go_71 (by decide) rfl (pc2 := 73) rfl ?_
  have hein_ := ein_rng (T := T) (p := p) (mm := mm) hN hev
  rw [← en1_] at hein_
  refine pk_iload C 0 dX5_go_73 rfl (pc2 := 75) rfl ?_
  refine pk_if_lt (tgt := 104) C dX5_go_75 (by decide) (pc2 := 78) rfl (fun h1_ => ?_) (fun h1_ => ?_)
  ·
    refine pk_iconst (v := 1) C dX5_go_104 (by decide) (pc2 := 105) rfl ?_
    refine pk_goto (tgt := 109) C dX5_go_105 (by decide) ?_
    refine pk_istore (lv' := [(6, .int 1), (5, .int n1_), (0, .ref m), (1, .int p), (2, .int un), (3, .int pl), (4, .int mm)]) C dX5_go_109 (by decide) rfl (pc2 := 111) rfl ?_
    refine pw_lv [2, 3, 4, 5, 6, 1, 0] (lv' := [(0, .ref m), (1, .int p), (2, .int un), (3, .int pl), (4, .int mm), (5, .int n1_), (6, .int 1)]) rfl ?_
    subst en1_
    have k9 := k
    unfold gB at k9
    try rw [if_pos h1_] at k9
    exact k9
  ·
    have he40 : vp_in n1_ 40 := by (obtain ⟨j_, hj1, hj2⟩ := hein_ h1_; rw [hj2]; exact vp_in_nI (by omega) (by decide))
    refine pk_iload_n C 4 dX5_go_78 rfl rfl (pc2 := 79) rfl ?_
    refine pk_if_eq (tgt := 108) C dX5_go_79 (by decide) (pc2 := 82) rfl (fun h2_ => ?_) (fun h2_ => ?_)
    ·
      refine pk_iconst (v := 0) C dX5_go_108 (by decide) (pc2 := 109) rfl ?_
      refine pk_istore (lv' := [(6, .int 0), (5, .int n1_), (0, .ref m), (1, .int p), (2, .int un), (3, .int pl), (4, .int mm)]) C dX5_go_109 (by decide) rfl (pc2 := 111) rfl ?_
      refine pw_lv [2, 3, 4, 5, 6, 1, 0] (lv' := [(0, .ref m), (1, .int p), (2, .int un), (3, .int pl), (4, .int mm), (5, .int n1_), (6, .int 0)]) rfl ?_
      subst en1_
      have k9 := k
      unfold gB at k9
      try rw [if_neg h1_] at k9
      try rw [if_pos h2_] at k9
      exact k9
    ·
      refine pk_aload_n C 1 dX5_go_82 rfl rfl (pc2 := 83) rfl ?_
      refine pk_get (v := .ref (rf 10)) C i5_ (pw_atX 0 rfl) (ci := 5) rfl 14 (by decide) w0_ rfl rfl dX5_go_83 (pc2 := 86) rfl ?_
      refine pk_iload C 0 dX5_go_86 rfl (pc2 := 88) rfl ?_
      refine pk_iald (v := ((T_ki T) (Int32.toNatClampNeg n1_))) C (pw_atX 11 rfl) he40 rfl dX5_go_88 (pc2 := 89) rfl ?_
      refine pk_iconst (v := 3) C dX5_go_89 (by decide) (pc2 := 90) rfl ?_
      refine pk_icmp_eq (tgt := 104) C dX5_go_90 (by decide) (pc2 := 93) rfl (fun h3_ => ?_) (fun h3_ => ?_)
      ·
        refine pk_iconst (v := 1) C dX5_go_104 (by decide) (pc2 := 105) rfl ?_
        refine pk_goto (tgt := 109) C dX5_go_105 (by decide) ?_
        refine pk_istore (lv' := [(6, .int 1), (5, .int n1_), (0, .ref m), (1, .int p), (2, .int un), (3, .int pl), (4, .int mm)]) C dX5_go_109 (by decide) rfl (pc2 := 111) rfl ?_
        refine pw_lv [2, 3, 4, 5, 6, 1, 0] (lv' := [(0, .ref m), (1, .int p), (2, .int un), (3, .int pl), (4, .int mm), (5, .int n1_), (6, .int 1)]) rfl ?_
        subst en1_
        have k9 := k
        unfold gB at k9
        try rw [if_neg h1_] at k9
        try rw [if_neg h2_] at k9
        try rw [if_pos h3_] at k9
        exact k9
      ·
        refine pk_aload_n C 1 dX5_go_93 rfl rfl (pc2 := 94) rfl ?_
        refine pk_get (v := .ref (rf 10)) C i5_ (pw_atX 0 rfl) (ci := 5) rfl 14 (by decide) w0_ rfl rfl dX5_go_94 (pc2 := 97) rfl ?_
        refine pk_iload C 0 dX5_go_97 rfl (pc2 := 99) rfl ?_
        refine pk_iald (v := ((T_ki T) (Int32.toNatClampNeg n1_))) C (pw_atX 11 rfl) he40 rfl dX5_go_99 (pc2 := 100) rfl ?_
        refine pk_iconst (v := 4) C dX5_go_100 (by decide) (pc2 := 101) rfl ?_
        refine pk_icmp_ne (tgt := 108) C dX5_go_101 (by decide) (pc2 := 104) rfl (fun h4_ => ?_) (fun h4_ => ?_)
        ·
          refine pk_iconst (v := 0) C dX5_go_108 (by decide) (pc2 := 109) rfl ?_
          refine pk_istore (lv' := [(6, .int 0), (5, .int n1_), (0, .ref m), (1, .int p), (2, .int un), (3, .int pl), (4, .int mm)]) C dX5_go_109 (by decide) rfl (pc2 := 111) rfl ?_
          refine pw_lv [2, 3, 4, 5, 6, 1, 0] (lv' := [(0, .ref m), (1, .int p), (2, .int un), (3, .int pl), (4, .int mm), (5, .int n1_), (6, .int 0)]) rfl ?_
          subst en1_
          have k9 := k
          unfold gB at k9
          try rw [if_neg h1_] at k9
          try rw [if_neg h2_] at k9
          try rw [if_neg h3_] at k9
          try rw [if_neg h4_] at k9
          exact k9
        ·
          refine pk_iconst (v := 1) C dX5_go_104 (by decide) (pc2 := 105) rfl ?_
          refine pk_goto (tgt := 109) C dX5_go_105 (by decide) ?_
          refine pk_istore (lv' := [(6, .int 1), (5, .int n1_), (0, .ref m), (1, .int p), (2, .int un), (3, .int pl), (4, .int mm)]) C dX5_go_109 (by decide) rfl (pc2 := 111) rfl ?_
          refine pw_lv [2, 3, 4, 5, 6, 1, 0] (lv' := [(0, .ref m), (1, .int p), (2, .int un), (3, .int pl), (4, .int mm), (5, .int n1_), (6, .int 1)]) rfl ?_
          subst en1_
          have k9 := k
          unfold gB at k9
          try rw [if_neg h1_] at k9
          try rw [if_neg h2_] at k9
          try rw [if_neg h3_] at k9
          try rw [if_pos h4_] at k9
          exact k9
def gC (c : MR) (T : TR) (p e mm sk : Int32) : MR :=
  if sk = 0 then if 6 ≤ ((T_ki T) (Int32.toNatClampNeg e)) then ((m_X5_happens c T e mm).2) else (m_X5_stretch ((m_X5_happens c T e mm).2) T p) else c

set_option maxRecDepth 100000 in
set_option maxHeartbeats 2000000 in
theorem s_go_C {Z : pw_Z} {Q : State → Prop} {L : List Nat} {F : Nat → va_E} {m : Nat} {rf : Nat → Nat} {c : MR} {T : TR} {p un pl mm : Int32} {e sk : Int32} (C : pw_C Z cX5_go 7 RX5 wsX5_go ⟨4, 0, 0, 92⟩ (some .int)) (hp : vp_in p 6) (hmi : vp_in mm 36) (hhe : M_he c = 0 ∨ M_he c = 1) (hes : sk = 0 → vp_in e 40) (kr : sk = 0 → (m_X5_happens c T e mm).1 = 0 → PW Z (mX (zG Z) m rf (m_X5_happens c T e mm).2 T) L F 0 0 Q 127 [(0, .ref m), (1, .int p), (2, .int un), (3, .int pl), (4, .int mm)] []) (k : ¬ (sk = 0 ∧ (m_X5_happens c T e mm).1 = 0) → PW Z (mX (zG Z) m rf (gC c T p e mm sk) T) L F 0 0 Q 152 [(0, .ref m), (1, .int p), (2, .int un), (3, .int pl), (4, .int mm)] []) : PW Z (mX (zG Z) m rf c T) L F 0 0 Q 111 [(0, .ref m), (1, .int p), (2, .int un), (3, .int pl), (4, .int mm), (5, .int e), (6, .int sk)] [] := by
  have i5_ : ∀ w ∈ wsX50, w ∈ wsX5_go := by decide +kernel
  have w0_ : Cond.fieldLink RX5 41 "AgedAssetsModel" "kinds" "[I" ∈ wsX5_go := by decide +kernel
  refine pk_iload C 6 dX5_go_111 rfl (pc2 := 113) rfl ?_
  refine pk_if_ne (tgt := 130) C dX5_go_113 (by decide) (pc2 := 116) rfl (fun h1_ => ?_) (fun h1_ => ?_)
  ·
    refine pk_iload C 6 dX5_go_130 rfl (pc2 := 132) rfl ?_
    refine pk_if_ne (tgt := 152) C dX5_go_132 (by decide) (pc2 := 135) rfl (fun h2_ => ?_) (fun h2_ => ?_)
    rotate_left
    · first | exact absurd h2_ h1_ | exact absurd h1_ h2_
    refine pw_lv [0, 1, 2, 3, 4] (lv' := [(0, .ref m), (1, .int p), (2, .int un), (3, .int pl), (4, .int mm)]) rfl ?_
    have k9 := k (fun z => h1_ z.1)
    unfold gC at k9
    try rw [if_neg h1_] at k9
    exact k9
  ·
    have he40 := hes h1_
    refine pk_aload_n C 0 dX5_go_116 rfl rfl (pc2 := 117) rfl ?_
    refine pk_iload C 5 dX5_go_117 rfl (pc2 := 119) rfl ?_
    refine pk_iload C 4 dX5_go_119 rfl (pc2 := 121) rfl ?_
    refine pk_dV (cx := (mX (zG Z) m rf c T)) (wr := []) (X2 := (mX (zG Z) m rf ((m_X5_happens c T e mm).2) T)) (st := []) (st2 := [.int ((m_X5_happens c T e mm).1)]) (As := [.int e, .int mm]) C (c_X5_happens (zl Z) (zG Z) L F m rf c T e mm he40 hmi hhe) gX5_go_X5_happens rfl rfl rfl 2 (by decide +kernel) ⟨Nat.le_of_ble_eq_true rfl, Nat.le_of_ble_eq_true rfl⟩ (pw_atX 0 rfl) rfl rfl rfl (Nat.le_of_ble_eq_true rfl) ⟨Nat.le_of_ble_eq_true rfl, Nat.le_of_ble_eq_true rfl⟩ [0, 1, 2, 3, 4, 5, 6, 7, 8, 9, 10, 11, 12, 13, 14, 15] [] [0, 1, 2, 3, 4, 5, 6, 7, 8, 9, 10, 11, 12, 13, 14, 15] rfl rfl rfl rfl (by decide) rfl rfl dX5_go_121 (pc2 := 124) rfl rfl ?_
    generalize en1_ : ((m_X5_happens c T e mm).2) = n1_
    refine pk_topi (fun n2_ en2_ => ?_)
    skip
    refine pk_if_ne (tgt := 130) C dX5_go_124 (by decide) (pc2 := 127) rfl (fun h3_ => ?_) (fun h3_ => ?_)
    ·
      refine pk_iload C 6 dX5_go_130 rfl (pc2 := 132) rfl ?_
      refine pk_if_ne (tgt := 152) C dX5_go_132 (by decide) (pc2 := 135) rfl (fun h4_ => ?_) (fun h4_ => ?_)
      · first | exact absurd h4_ h1_ | exact absurd h1_ h4_
      refine pk_aload_n C 0 dX5_go_135 rfl rfl (pc2 := 136) rfl ?_
      refine pk_get (v := .ref (rf 10)) C i5_ (pw_atX 0 rfl) (ci := 5) rfl 14 (by decide) w0_ rfl rfl dX5_go_136 (pc2 := 139) rfl ?_
      refine pk_iload C 5 dX5_go_139 rfl (pc2 := 141) rfl ?_
      refine pk_iald (v := ((T_ki T) (Int32.toNatClampNeg e))) C (pw_atX 11 rfl) he40 rfl dX5_go_141 (pc2 := 142) rfl ?_
      refine pk_bipush (v := 6) C dX5_go_142 (by decide) (pc2 := 144) rfl ?_
      refine pk_icmp_ge (tgt := 152) C dX5_go_144 (by decide) (pc2 := 147) rfl (fun h5_ => ?_) (fun h5_ => ?_)
      ·
        refine pw_lv [0, 1, 2, 3, 4] (lv' := [(0, .ref m), (1, .int p), (2, .int un), (3, .int pl), (4, .int mm)]) rfl ?_
        subst en1_ en2_
        have k9 := k (fun z => h3_ z.2)
        unfold gC at k9
        try rw [if_pos h1_] at k9
        try rw [if_neg h3_] at k9
        try rw [if_pos h5_] at k9
        exact k9
      ·
        refine pk_aload_n C 0 dX5_go_147 rfl rfl (pc2 := 148) rfl ?_
        refine pk_iload_n C 1 dX5_go_148 rfl rfl (pc2 := 149) rfl ?_
        refine pk_dV (cx := (mX (zG Z) m rf n1_ T)) (wr := []) (X2 := (mX (zG Z) m rf (m_X5_stretch n1_ T p) T)) (st := []) (st2 := []) (As := [.int p]) C (c_X5_stretch (zl Z) (zG Z) L F m rf n1_ T p hp) gX5_go_X5_stretch rfl rfl rfl 1 (by decide +kernel) ⟨Nat.le_of_ble_eq_true rfl, Nat.le_of_ble_eq_true rfl⟩ (pw_atX 0 rfl) rfl rfl rfl (Nat.le_of_ble_eq_true rfl) ⟨Nat.le_of_ble_eq_true rfl, Nat.le_of_ble_eq_true rfl⟩ [0, 1, 2, 3, 4, 5, 6, 7, 8, 9, 10, 11, 12, 13, 14, 15] [] [0, 1, 2, 3, 4, 5, 6, 7, 8, 9, 10, 11, 12, 13, 14, 15] rfl rfl rfl rfl (by decide) rfl rfl dX5_go_149 (pc2 := 152) rfl rfl ?_
        generalize en3_ : (m_X5_stretch n1_ T p) = n3_
        refine pw_lv [0, 1, 2, 3, 4] (lv' := [(0, .ref m), (1, .int p), (2, .int un), (3, .int pl), (4, .int mm)]) rfl ?_
        subst en1_ en2_ en3_
        have k9 := k (fun z => h3_ z.2)
        unfold gC at k9
        try rw [if_pos h1_] at k9
        try rw [if_neg h3_] at k9
        try rw [if_neg h5_] at k9
        exact k9
    ·
      refine pw_lv [0, 1, 2, 3, 4] (lv' := [(0, .ref m), (1, .int p), (2, .int un), (3, .int pl), (4, .int mm)]) rfl ?_
      subst en1_ en2_
      have k9 := kr h1_ h3_
      exact k9
def gD (c : MR) (T : TR) (p pl mm : Int32) : MR × TR :=
  if pl = 0 then ((m_X5_writeOff c T p mm), T) else ((m_X5_writeOff c (T_s_bf T (vp_updL (T_bf T) (Int32.toNatClampNeg mm) (m_X5_book c T))) p mm), (T_s_bh (T_s_bf T (vp_updL (T_bf T) (Int32.toNatClampNeg mm) (m_X5_book c T))) (vp_updL (T_bh (T_s_bf T (vp_updL (T_bf T) (Int32.toNatClampNeg mm) (m_X5_book c T)))) (Int32.toNatClampNeg mm) (m_X5_book (m_X5_writeOff c (T_s_bf T (vp_updL (T_bf T) (Int32.toNatClampNeg mm) (m_X5_book c T))) p mm) (T_s_bf T (vp_updL (T_bf T) (Int32.toNatClampNeg mm) (m_X5_book c T)))))))

set_option maxRecDepth 100000 in
set_option maxHeartbeats 2000000 in
theorem s_go_D {Z : pw_Z} {Q : State → Prop} {L : List Nat} {F : Nat → va_E} {m : Nat} {rf : Nat → Nat} {c : MR} {T : TR} {p un pl mm : Int32} (C : pw_C Z cX5_go 7 RX5 wsX5_go ⟨4, 0, 0, 92⟩ (some .int)) (hp : vp_in p 6) (hmi : vp_in mm 36) (hpm : vp_in ((36 * p) + mm) 216) (hli : 0 ≤ (M_li c).toInt) (hle : ¬ M_li c = 0 → 1 ≤ (M_le c).toInt ∧ (M_le c).toInt ≤ 36) (k : PW Z (mX (zG Z) m rf (gD c T p pl mm).1 (gD c T p pl mm).2) L F 0 0 Q 189 [(0, .ref m), (1, .int p), (2, .int un), (3, .int pl), (4, .int mm)] []) : PW Z (mX (zG Z) m rf c T) L F 0 0 Q 152 [(0, .ref m), (1, .int p), (2, .int un), (3, .int pl), (4, .int mm)] [] := by
  have i5_ : ∀ w ∈ wsX50, w ∈ wsX5_go := by decide +kernel
  have w0_ : Cond.fieldLink RX5 50 "AgedAssetsModel" "before" "[J" ∈ wsX5_go := by decide +kernel
  have w1_ : Cond.fieldLink RX5 53 "AgedAssetsModel" "behind" "[J" ∈ wsX5_go := by decide +kernel
  refine pk_iload_n C 3 dX5_go_152 rfl rfl (pc2 := 153) rfl ?_
  refine pk_if_eq (tgt := 167) C dX5_go_153 (by decide) (pc2 := 156) rfl (fun h1_ => ?_) (fun h1_ => ?_)
  ·
    refine pk_aload_n C 0 dX5_go_167 rfl rfl (pc2 := 168) rfl ?_
    refine pk_iload_n C 1 dX5_go_168 rfl rfl (pc2 := 169) rfl ?_
    refine pk_iload C 4 dX5_go_169 rfl (pc2 := 171) rfl ?_
    refine pk_dV (cx := (mX (zG Z) m rf c T)) (wr := []) (X2 := (mX (zG Z) m rf (m_X5_writeOff c T p mm) T)) (st := []) (st2 := []) (As := [.int p, .int mm]) C (c_X5_writeOff (zl Z) (zG Z) L F m rf c T p mm hp hpm hli hle) gX5_go_X5_writeOff rfl rfl rfl 2 (by decide +kernel) ⟨Nat.le_of_ble_eq_true rfl, Nat.le_of_ble_eq_true rfl⟩ (pw_atX 0 rfl) rfl rfl rfl (Nat.le_of_ble_eq_true rfl) ⟨Nat.le_of_ble_eq_true rfl, Nat.le_of_ble_eq_true rfl⟩ [0, 1, 2, 3, 4, 5, 6, 7, 8, 9, 10, 11, 12, 13, 14, 15] [] [0, 1, 2, 3, 4, 5, 6, 7, 8, 9, 10, 11, 12, 13, 14, 15] rfl rfl rfl rfl (by decide) rfl rfl dX5_go_171 (pc2 := 174) rfl rfl ?_
    generalize en1_ : (m_X5_writeOff c T p mm) = n1_
    refine pk_iload_n C 3 dX5_go_174 rfl rfl (pc2 := 175) rfl ?_
    refine pk_if_eq (tgt := 189) C dX5_go_175 (by decide) (pc2 := 178) rfl (fun h2_ => ?_) (fun h2_ => ?_)
    rotate_left
    · first | exact absurd h2_ h1_ | exact absurd h1_ h2_
    refine pw_lv [0, 1, 2, 3, 4] (lv' := [(0, .ref m), (1, .int p), (2, .int un), (3, .int pl), (4, .int mm)]) rfl ?_
    subst en1_
    have k9 := k
    unfold gD at k9
    try rw [if_pos h1_] at k9
    exact k9
  ·
    refine pk_aload_n C 0 dX5_go_156 rfl rfl (pc2 := 157) rfl ?_
    refine pk_get (v := .ref (rf 13)) C i5_ (pw_atX 0 rfl) (ci := 5) rfl 34 (by decide) w0_ rfl rfl dX5_go_157 (pc2 := 160) rfl ?_
    refine pk_iload C 4 dX5_go_160 rfl (pc2 := 162) rfl ?_
    refine pk_aload_n C 0 dX5_go_162 rfl rfl (pc2 := 163) rfl ?_
    refine pk_dV (cx := (mX (zG Z) m rf c T)) (wr := []) (X2 := (mX (zG Z) m rf c T)) (st := [.int mm, .ref (rf 13)]) (st2 := [.long (m_X5_book c T), .int mm, .ref (rf 13)]) (As := []) C (c_X5_book (zl Z) (zG Z) L F m rf c T) gX5_go_X5_book rfl rfl rfl 0 (by decide +kernel) ⟨Nat.le_of_ble_eq_true rfl, Nat.le_of_ble_eq_true rfl⟩ (pw_atX 0 rfl) rfl rfl rfl (Nat.le_of_ble_eq_true rfl) ⟨Nat.le_of_ble_eq_true rfl, Nat.le_of_ble_eq_true rfl⟩ [0, 1, 2, 3, 4, 5, 6, 7, 8, 9, 10, 11, 12, 13, 14, 15] [] [0, 1, 2, 3, 4, 5, 6, 7, 8, 9, 10, 11, 12, 13, 14, 15] rfl rfl rfl rfl (by decide) rfl rfl dX5_go_163 (pc2 := 166) rfl rfl ?_
    refine pk_topl (fun n2_ en2_ => ?_)
    refine pk_lastX (X' := (mX (zG Z) m rf c (T_s_bf T (vp_updL (T_bf T) (Int32.toNatClampNeg mm) n2_)))) C 14 rfl hmi mT_s_bf dX5_go_166 (pc2 := 167) rfl ?_
    generalize en3_ : (T_s_bf T (vp_updL (T_bf T) (Int32.toNatClampNeg mm) n2_)) = n3_
    refine pk_aload_n C 0 dX5_go_167 rfl rfl (pc2 := 168) rfl ?_
    refine pk_iload_n C 1 dX5_go_168 rfl rfl (pc2 := 169) rfl ?_
    refine pk_iload C 4 dX5_go_169 rfl (pc2 := 171) rfl ?_
    refine pk_dV (cx := (mX (zG Z) m rf c n3_)) (wr := []) (X2 := (mX (zG Z) m rf (m_X5_writeOff c n3_ p mm) n3_)) (st := []) (st2 := []) (As := [.int p, .int mm]) C (c_X5_writeOff (zl Z) (zG Z) L F m rf c n3_ p mm hp hpm hli hle) gX5_go_X5_writeOff rfl rfl rfl 2 (by decide +kernel) ⟨Nat.le_of_ble_eq_true rfl, Nat.le_of_ble_eq_true rfl⟩ (pw_atX 0 rfl) rfl rfl rfl (Nat.le_of_ble_eq_true rfl) ⟨Nat.le_of_ble_eq_true rfl, Nat.le_of_ble_eq_true rfl⟩ [0, 1, 2, 3, 4, 5, 6, 7, 8, 9, 10, 11, 12, 13, 14, 15] [] [0, 1, 2, 3, 4, 5, 6, 7, 8, 9, 10, 11, 12, 13, 14, 15] rfl rfl rfl rfl (by decide) rfl rfl dX5_go_171 (pc2 := 174) rfl rfl ?_
    generalize en4_ : (m_X5_writeOff c n3_ p mm) = n4_
    refine pk_iload_n C 3 dX5_go_174 rfl rfl (pc2 := 175) rfl ?_
    refine pk_if_eq (tgt := 189) C dX5_go_175 (by decide) (pc2 := 178) rfl (fun h3_ => ?_) (fun h3_ => ?_)
    · first | exact absurd h3_ h1_ | exact absurd h1_ h3_
    refine pk_aload_n C 0 dX5_go_178 rfl rfl (pc2 := 179) rfl ?_
    refine pk_get (v := .ref (rf 14)) C i5_ (pw_atX 0 rfl) (ci := 5) rfl 35 (by decide) w1_ rfl rfl dX5_go_179 (pc2 := 182) rfl ?_
    refine pk_iload C 4 dX5_go_182 rfl (pc2 := 184) rfl ?_
    refine pk_aload_n C 0 dX5_go_184 rfl rfl (pc2 := 185) rfl ?_
    refine pk_dV (cx := (mX (zG Z) m rf n4_ n3_)) (wr := []) (X2 := (mX (zG Z) m rf n4_ n3_)) (st := [.int mm, .ref (rf 14)]) (st2 := [.long (m_X5_book n4_ n3_), .int mm, .ref (rf 14)]) (As := []) C (c_X5_book (zl Z) (zG Z) L F m rf n4_ n3_) gX5_go_X5_book rfl rfl rfl 0 (by decide +kernel) ⟨Nat.le_of_ble_eq_true rfl, Nat.le_of_ble_eq_true rfl⟩ (pw_atX 0 rfl) rfl rfl rfl (Nat.le_of_ble_eq_true rfl) ⟨Nat.le_of_ble_eq_true rfl, Nat.le_of_ble_eq_true rfl⟩ [0, 1, 2, 3, 4, 5, 6, 7, 8, 9, 10, 11, 12, 13, 14, 15] [] [0, 1, 2, 3, 4, 5, 6, 7, 8, 9, 10, 11, 12, 13, 14, 15] rfl rfl rfl rfl (by decide) rfl rfl dX5_go_185 (pc2 := 188) rfl rfl ?_
    refine pk_topl (fun n5_ en5_ => ?_)
    refine pk_lastX (X' := (mX (zG Z) m rf n4_ (T_s_bh n3_ (vp_updL (T_bh n3_) (Int32.toNatClampNeg mm) n5_)))) C 15 rfl hmi mT_s_bh dX5_go_188 (pc2 := 189) rfl ?_
    generalize en6_ : (T_s_bh n3_ (vp_updL (T_bh n3_) (Int32.toNatClampNeg mm) n5_)) = n6_
    refine pw_lv [0, 1, 2, 3, 4] (lv' := [(0, .ref m), (1, .int p), (2, .int un), (3, .int pl), (4, .int mm)]) rfl ?_
    subst en2_ en3_ en4_ en5_ en6_
    have k9 := k
    unfold gD at k9
    try rw [if_neg h1_] at k9
    exact k9
def m_X5_go_l (p un pl : Int32) : Nat → MR → TR → Int32 → Int32 × MR × TR
  | 0, c, T, _ => (0, c, T)
  | n + 1, c, T, mm => if un < mm then (36, c, T) else
    if gB (gA c T p mm) T p pl mm = 0 ∧ (m_X5_happens (gA c T p mm) T (m_X5_eventIn (gA c T p mm) T p mm) mm).1 = 0 then (mm, (m_X5_happens (gA c T p mm) T (m_X5_eventIn (gA c T p mm) T p mm) mm).2, T) else
    m_X5_go_l p un pl n (gD (gC (gA c T p mm) T p (m_X5_eventIn (gA c T p mm) T p mm) mm (gB (gA c T p mm) T p pl mm)) T p pl mm).1 (gD (gC (gA c T p mm) T p (m_X5_eventIn (gA c T p mm) T p mm) mm (gB (gA c T p mm) T p pl mm)) T p pl mm).2 (mm + 1)
theorem m_X5_go_l_s (p un pl : Int32) (n : Nat) (c : MR) (T : TR) (mm : Int32) : m_X5_go_l p un pl (n + 1) c T mm = (if un < mm then (36, c, T) else
    if gB (gA c T p mm) T p pl mm = 0 ∧ (m_X5_happens (gA c T p mm) T (m_X5_eventIn (gA c T p mm) T p mm) mm).1 = 0 then (mm, (m_X5_happens (gA c T p mm) T (m_X5_eventIn (gA c T p mm) T p mm) mm).2, T) else
    m_X5_go_l p un pl n (gD (gC (gA c T p mm) T p (m_X5_eventIn (gA c T p mm) T p mm) mm (gB (gA c T p mm) T p pl mm)) T p pl mm).1 (gD (gC (gA c T p mm) T p (m_X5_eventIn (gA c T p mm) T p mm) mm (gB (gA c T p mm) T p pl mm)) T p pl mm).2 (mm + 1)) := rfl
theorem gA_fr (c : MR) (T : TR) (p mm : Int32) : M_fr (gA c T p mm) = M_fr c := by
  unfold gA
  exact zi_ite (P := fun (x : MR) => M_fr x = M_fr c) (fun _ => (fr_stretch ..).trans (M_fr_mk ..)) (fun _ => rfl)
theorem gA_ic {c : MR} {T : TR} {p mm : Int32} {N : Nat} (h : IC c) (hG : GT T p N) : IC (gA c T p mm) := by
  unfold gA
  refine zi_ite (P := fun (x : MR) => IC x) (fun _ => ic_stretch ?_ ?_) (fun _ => h)
  · rw [M_he_mk]; exact h.1
  · rw [M_li_mk]; exact ⟨Int.le_trans (by decide) hG.1.1, hG.1.2⟩
theorem gB_e {c : MR} {T : TR} {p pl mm : Int32} (h : gB c T p pl mm = 0) : ¬ m_X5_eventIn c T p mm < 0 := by
  intro h9
  unfold gB at h
  rw [if_pos h9] at h
  exact absurd h (by decide)
theorem gC_fr (c : MR) (T : TR) (p e mm sk : Int32) : M_fr (gC c T p e mm sk) = M_fr c := by
  unfold gC
  repeat' (first | (with_reducible refine zi_ite (P := fun (x : MR) => M_fr x = M_fr c) (fun _ => ?_) (fun _ => ?_)) | (with_reducible exact rfl) | (with_reducible exact fr_happens ..) | (with_reducible exact (fr_stretch ..).trans (fr_happens ..)))
theorem gC_ic {c : MR} {T : TR} {p e mm sk : Int32} (h : IC c) (h2 : sk = 0 → T_ki T (Int32.toNatClampNeg e) = 1 → 1 ≤ (T_nu T (Int32.toNatClampNeg e)).toInt ∧ (T_nu T (Int32.toNatClampNeg e)).toInt ≤ 36) : IC (gC c T p e mm sk) := by
  have a1 := he_happens (T := T) (e := e) (mm := mm) h.1
  have a2 := fun z => li_happens (c := c) (T := T) (e := e) (mm := mm) ⟨h.2.1, h.2.2.1⟩ (h2 z)
  unfold gC
  repeat' (first | (with_reducible refine zi_ite (P := fun (x : MR) => IC x) (fun _ => ?_) (fun _ => ?_)) | (with_reducible exact h) | (with_reducible exact ic_happens6 h (by assumption)) | (with_reducible exact ic_stretch a1 (a2 (by assumption))))
theorem gD_fr (c : MR) (T : TR) (p pl mm : Int32) : M_fr (gD c T p pl mm).1 = M_fr c := by
  unfold gD
  repeat' (first | (with_reducible refine zi_ite (P := fun (x : MR × TR) => M_fr x.1 = M_fr c) (fun _ => ?_) (fun _ => ?_)) | (with_reducible exact fr_writeOff ..))
theorem gD_ic {c : MR} {T : TR} {p pl mm : Int32} (h : IC c) : IC (gD c T p pl mm).1 := by
  unfold gD
  repeat' (first | (with_reducible refine zi_ite (P := fun (x : MR × TR) => IC x.1) (fun _ => ?_) (fun _ => ?_)) | (with_reducible exact ic_writeOff h))
/-- the tables but for the two scratch rows -/
def T_st (T : TR) : (Nat → Int64) × (Nat → Int64) × (Nat → Int32) × (Nat → Int32) × (Nat → Int32) × (Nat → Int32) × (Nat → Int32) × (Nat → Int64) × (Nat → Int32) × (Nat → Int32) × (Nat → Int32) × (Nat → Int64) × (Nat → Int32) := (T_cs T, T_rs T, T_fi T, T_li T, T_me T, T_ra T, T_us T, T_po T, T_of T, T_wh T, T_ki T, T_am T, T_nu T)
theorem T_st_bf (T : TR) (v : Nat → Int64) : T_st (T_s_bf T v) = T_st T := rfl
theorem T_st_bh (T : TR) (v : Nat → Int64) : T_st (T_s_bh T v) = T_st T := rfl
theorem gD_st (c : MR) (T : TR) (p pl mm : Int32) : T_st (gD c T p pl mm).2 = T_st T := by
  unfold gD
  exact zi_ite (P := fun (x : MR × TR) => T_st x.2 = T_st T) (fun _ => rfl) (fun _ => (T_st_bh ..).trans (T_st_bf ..))
theorem GT_st {T T' : TR} {p : Int32} {N : Nat} (h : T_st T' = T_st T) (hG : GT T p N) : GT T' p N := by
  have e1 : T_li T' = T_li T := congrArg (fun z => z.2.2.2.1) h
  have e2 : T_ki T' = T_ki T := congrArg (fun z => z.2.2.2.2.2.2.2.2.2.2.1) h
  have e3 : T_nu T' = T_nu T := congrArg (fun z => z.2.2.2.2.2.2.2.2.2.2.2.2) h
  unfold GT
  rw [e1, e2, e3]
  exact hG
set_option maxRecDepth 100000 in
set_option maxHeartbeats 2000000 in
theorem l_X5_go {Z : pw_Z} {Q : State → Prop} {L : List Nat} {F : Nat → va_E} {m : Nat} {rf : Nat → Nat} {p un pl : Int32} {N a : Nat} {X9 : va_W} {R : Int32 × MR × TR} (C : pw_C Z cX5_go 7 RX5 wsX5_go ⟨4, 0, 0, 92⟩ (some .int)) (hE : pw_End Z Q X9 L F (po_d (some (.int R.1)) (mX (zG Z) m rf R.2.1 R.2.2) L F) 0 0) (hN : N ≤ 40) (ha : a < 6) (hpa : p = nI a) (hp : vp_in p 6) (hun : un.toInt ≤ 35) : ∀ (n k : Nat) (c : MR) (T : TR) (mm : Int32), 36 < k + n → k ≤ 36 → mm = nI k → IC c → M_ev c = nI N → GT T p N → m_X5_go_l p un pl n c T mm = R → PW Z (mX (zG Z) m rf c T) L F 0 0 Q 12 [(0, .ref m), (1, .int p), (2, .int un), (3, .int pl), (4, .int mm)] [] := by
  intro n
  induction n with
  | zero =>
    intro k c T mm h1 h2
    exact absurd h1 (by omega)
  | succ n ih =>
    intro k c T mm h1 h2 he hic hev hGT hR
    rw [m_X5_go_l_s] at hR
    refine pk_iload C 4 dX5_go_12 rfl (pc2 := 14) rfl ?_
    refine pk_iload_n C 2 dX5_go_14 rfl rfl (pc2 := 15) rfl ?_
    refine pk_icmp_gt (tgt := 195) C dX5_go_15 (by decide) (pc2 := 18) rfl (fun h9 => ?_) (fun h9 => ?_)
    · rw [if_pos h9] at hR
      subst hR
      refine pk_bipush (v := 36) C dX5_go_195 (by decide) (pc2 := 197) rfl ?_
      exact pr_int (ty := .int) C hE rfl rfl (po_d_rfl rfl rfl) dX5_go_197
    · rw [if_neg h9] at hR
      have hk : k < 36 := fl_lt he h2 hun h9
      have hmi : vp_in mm 36 := by rw [he]; exact vp_in_nI hk (by decide)
      have hpm : vp_in ((36 * p) + mm) 216 := ix_pm hpa ha he hk
      refine s_go_A C hp ?_
      have icA := gA_ic (mm := mm) hic hGT
      have evA : M_ev (gA c T p mm) = nI N := by rw [fr_ev (gA_fr ..)]; exact hev
      generalize gA c T p mm = cA at hR icA evA ⊢
      refine s_go_B C hN evA ?_
      have hes : gB cA T p pl mm = 0 → ∃ j, j < N ∧ m_X5_eventIn cA T p mm = nI j := fun h => ein_rng hN evA (gB_e h)
      generalize gB cA T p pl mm = sk at hR hes ⊢
      generalize m_X5_eventIn cA T p mm = e at hR hes ⊢
      refine s_go_C C hp hmi icA.1 (fun h => ?_) (fun h3 h4 => ?_) (fun h5 => ?_)
      · obtain ⟨j, hj1, hj2⟩ := hes h
        rw [hj2]
        exact vp_in_nI (by omega) (by decide)
      · rw [if_pos ⟨h3, h4⟩] at hR
        subst hR
        refine pk_iload C 4 dX5_go_127 rfl (pc2 := 129) rfl ?_
        exact pr_int (ty := .int) C hE rfl rfl (po_d_rfl rfl rfl) dX5_go_129
      · rw [if_neg h5] at hR
        have icC := gC_ic (p := p) (mm := mm) (sk := sk) (e := e) icA (fun h3 => by
          obtain ⟨j, hj1, hj2⟩ := hes h3
          rw [hj2, nI_clamp (by omega)]
          exact hGT.2 j hj1)
        have evC : M_ev (gC cA T p e mm sk) = nI N := by rw [fr_ev (gC_fr ..)]; exact evA
        generalize gC cA T p e mm sk = cC at hR icC evC ⊢
        refine s_go_D C hp hmi hpm icC.2.1 icC.2.2.2 ?_
        have icD := gD_ic (T := T) (p := p) (pl := pl) (mm := mm) icC
        have evD : M_ev (gD cC T p pl mm).1 = nI N := by rw [fr_ev (gD_fr ..)]; exact evC
        have gtD : GT (gD cC T p pl mm).2 p N := GT_st (gD_st ..) hGT
        generalize (gD cC T p pl mm).1 = cD at hR icD evD ⊢
        generalize (gD cC T p pl mm).2 = TD at hR gtD ⊢
        refine pk_iinc (v := (mm + 1)) (lv' := [(4, .int (mm + 1)), (0, .ref m), (1, .int p), (2, .int un), (3, .int pl)]) C 4 dX5_go_189 rfl rfl (by decide) rfl (pc2 := 192) rfl ?_
        refine pk_goto (tgt := 12) C dX5_go_192 (by decide) ?_
        refine pw_lv [1, 2, 3, 4, 0] (lv' := [(0, .ref m), (1, .int p), (2, .int un), (3, .int pl), (4, .int (mm + 1))]) rfl ?_
        exact ih (k + 1) cD TD (mm + 1) (by omega) (by omega) (by rw [he, nI_1]) icD evD gtD hR
def m_X5_go (c : MR) (T : TR) (p un pl : Int32) : Int32 × MR × TR := m_X5_go_l p un pl 37 (m_X5_clear c T) T ((T_fi T) (Int32.toNatClampNeg p))
/-- when a part can be gone along -/
def GO (ev : Int32) (T : TR) (p un : Int32) : Prop := vp_in p 6 ∧ un.toInt ≤ 35 ∧ ∃ N a fm : Nat, N ≤ 40 ∧ a < 6 ∧ p = nI a ∧ ev = nI N ∧ GT T p N ∧ fm ≤ 35 ∧ T_fi T (Int32.toNatClampNeg p) = nI fm
set_option maxRecDepth 100000 in
set_option maxHeartbeats 2000000 in
theorem c_X5_go (l : Launch) (G : pw_G) (L : List Nat) (F : Nat → va_E) (m : Nat) (rf : Nat → Nat) (c : MR) (T : TR) (p un pl : Int32) (hgo : GO (M_ev c) T p un) : PM l yX5_go wsX5_go ⟨4, 0, 0, 92⟩ G [.ref m, .int p, .int un, .int pl] (mX G m rf c T) L F 0 0 (po_d (some (.int (m_X5_go c T p un pl).1)) (mX G m rf (m_X5_go c T p un pl).2.1 (m_X5_go c T p un pl).2.2) L F) := by
  obtain ⟨hp, hun, N, a, fm, hN, ha, hpa, hev, hGT, hfm, hfi⟩ := hgo
  refine pm_entry (by decide) rfl rfl (Nat.le_of_ble_eq_true rfl) ?_
  intro Z Q C hl0 hG0 hnm hE
  subst hl0
  subst hG0
  have i5_ : ∀ w ∈ wsX50, w ∈ wsX5_go := by decide +kernel
  have w0_ : Cond.fieldLink RX5 16 "AgedAssetsModel" "firsts" "[I" ∈ wsX5_go := by decide +kernel
  show PW Z (mX (zG Z) m rf c T) L F 0 0 Q 0 [(0, .ref m), (1, .int p), (2, .int un), (3, .int pl)] []
  refine pk_aload_n C 0 dX5_go_0 rfl rfl (pc2 := 1) rfl ?_
  refine pk_dV (cx := (mX (zG Z) m rf c T)) (wr := []) (X2 := (mX (zG Z) m rf (m_X5_clear c T) T)) (st := []) (st2 := []) (As := []) C (c_X5_clear (zl Z) (zG Z) L F m rf c T) gX5_go_X5_clear rfl rfl rfl 0 (by decide +kernel) ⟨Nat.le_of_ble_eq_true rfl, Nat.le_of_ble_eq_true rfl⟩ (pw_atX 0 rfl) rfl rfl rfl (Nat.le_of_ble_eq_true rfl) ⟨Nat.le_of_ble_eq_true rfl, Nat.le_of_ble_eq_true rfl⟩ [0, 1, 2, 3, 4, 5, 6, 7, 8, 9, 10, 11, 12, 13, 14, 15] [] [0, 1, 2, 3, 4, 5, 6, 7, 8, 9, 10, 11, 12, 13, 14, 15] rfl rfl rfl rfl (by decide) rfl rfl dX5_go_1 (pc2 := 4) rfl rfl ?_
  generalize en1_ : (m_X5_clear c T) = n1_
  refine pk_aload_n C 0 dX5_go_4 rfl rfl (pc2 := 5) rfl ?_
  refine pk_get (v := .ref (rf 2)) C i5_ (pw_atX 0 rfl) (ci := 5) rfl 4 (by decide) w0_ rfl rfl dX5_go_5 (pc2 := 8) rfl ?_
  refine pk_iload_n C 1 dX5_go_8 rfl rfl (pc2 := 9) rfl ?_
  refine pk_iald (v := ((T_fi T) (Int32.toNatClampNeg p))) C (pw_atX 3 rfl) hp rfl dX5_go_9 (pc2 := 10) rfl ?_
  refine pk_topi (fun n2_ en2_ => ?_)
  refine pk_istore (lv' := [(4, .int n2_), (0, .ref m), (1, .int p), (2, .int un), (3, .int pl)]) C dX5_go_10 (by decide) rfl (pc2 := 12) rfl ?_
  refine pw_lv [1, 2, 3, 4, 0] (lv' := [(0, .ref m), (1, .int p), (2, .int un), (3, .int pl), (4, .int n2_)]) rfl ?_
  subst en1_ en2_
  exact l_X5_go C hE hN ha hpa hp hun 37 fm _ _ _ (by omega) (by omega) hfi (ic_clear ..) (by rw [fr_ev (fr_clear ..)]; exact hev) hGT rfl

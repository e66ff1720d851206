theorem go_l_fr (p un pl : Int32) : ∀ (n : Nat) (c : MR) (T : TR) (mm : Int32), M_fr (m_X5_go_l p un pl n c T mm).2.1 = M_fr c ∧ T_st (m_X5_go_l p un pl n c T mm).2.2 = T_st T := by
  intro n
  induction n with
  | zero => intro c T mm; exact ⟨rfl, rfl⟩
  | succ n ih =>
    intro c T mm
    rw [m_X5_go_l_s]
    refine zi_ite (P := fun (x : Int32 × MR × TR) => M_fr x.2.1 = M_fr c ∧ T_st x.2.2 = T_st T) (fun _ => ⟨rfl, rfl⟩) (fun _ => ?_)
    refine zi_ite (P := fun (x : Int32 × MR × TR) => M_fr x.2.1 = M_fr c ∧ T_st x.2.2 = T_st T) (fun _ => ⟨(fr_happens ..).trans (gA_fr ..), rfl⟩) (fun _ => ?_)
    · · obtain ⟨a, b⟩ := ih (gD (gC (gA c T p mm) T p (m_X5_eventIn (gA c T p mm) T p mm) mm (gB (gA c T p mm) T p pl mm)) T p pl mm).1 (gD (gC (gA c T p mm) T p (m_X5_eventIn (gA c T p mm) T p mm) mm (gB (gA c T p mm) T p pl mm)) T p pl mm).2 (mm + 1)
        exact ⟨a.trans ((gD_fr ..).trans ((gC_fr ..).trans (gA_fr ..))), b.trans (gD_st ..)⟩
theorem go_fr (c : MR) (T : TR) (p un pl : Int32) : M_fr (m_X5_go c T p un pl).2.1 = M_fr c := (go_l_fr p un pl 37 (m_X5_clear c T) T _).1.trans (fr_clear c T)
theorem go_st (c : MR) (T : TR) (p un pl : Int32) : T_st (m_X5_go c T p un pl).2.2 = T_st T := (go_l_fr p un pl 37 (m_X5_clear c T) T _).2
theorem st_fi {T T' : TR} (h : T_st T' = T_st T) : T_fi T' = T_fi T := congrArg (fun z => z.2.2.1) h
theorem st_li9 {T T' : TR} (h : T_st T' = T_st T) : T_li T' = T_li T := congrArg (fun z => z.2.2.2.1) h
theorem st_us {T T' : TR} (h : T_st T' = T_st T) : T_us T' = T_us T := congrArg (fun z => z.2.2.2.2.2.2.1) h
theorem st_po {T T' : TR} (h : T_st T' = T_st T) : T_po T' = T_po T := congrArg (fun z => z.2.2.2.2.2.2.2.1) h
theorem st_of {T T' : TR} (h : T_st T' = T_st T) : T_of T' = T_of T := congrArg (fun z => z.2.2.2.2.2.2.2.2.1) h
theorem st_ki {T T' : TR} (h : T_st T' = T_st T) : T_ki T' = T_ki T := congrArg (fun z => z.2.2.2.2.2.2.2.2.2.2.1) h
theorem st_nu {T T' : TR} (h : T_st T' = T_st T) : T_nu T' = T_nu T := congrArg (fun z => z.2.2.2.2.2.2.2.2.2.2.2.2) h
theorem GO_4 {ev : Int32} {T T' : TR} {p un : Int32} (h1 : T_fi T' = T_fi T) (h2 : T_li T' = T_li T) (h3 : T_ki T' = T_ki T) (h4 : T_nu T' = T_nu T) (h : GO ev T p un) : GO ev T' p un := by
  unfold GO GT at h ⊢
  rw [h1, h2, h3, h4]
  exact h
theorem GO_mv {ev ev' : Int32} {T T' : TR} {p un : Int32} (h : GO ev T p un) (he : ev' = ev) (hT : T_st T' = T_st T) : GO ev' T' p un := by
  rw [he]
  exact GO_4 (st_fi hT) (st_li9 hT) (st_ki hT) (st_nu hT) h
/-- what always holds of the reference -/
def RI (c : MR) (T : TR) (NP NE NM : Nat) : Prop := (NP ≤ 6 ∧ M_pt c = nI NP) ∧ (NE ≤ 40 ∧ M_ev c = nI NE) ∧ (NM ≤ 36 ∧ M_mn c = nI NM) ∧ (∀ a, a < NP → (∃ fm : Nat, fm ≤ 35 ∧ T_fi T a = nI fm) ∧ 1 ≤ (T_li T a).toInt ∧ (T_li T a).toInt ≤ 36) ∧ ∀ j, j < NE → (T_ki T j = 1 → 1 ≤ (T_nu T j).toInt ∧ (T_nu T j).toInt ≤ 36) ∧ (T_of T j = 0 ∨ ∃ a, a < NP ∧ T_of T j = nI (a + 1))
theorem RI_go {c : MR} {T : TR} {NP NE NM a : Nat} {p un : Int32} (h : RI c T NP NE NM) (ha : a < NP) (hp : p = nI a) (hu : un.toInt ≤ 35) : GO (M_ev c) T p un := by
  obtain ⟨h1, h2, h3, h4, h5⟩ := h
  obtain ⟨⟨fm, hf, hfi⟩, hl⟩ := h4 a ha
  have e : Int32.toNatClampNeg p = a := by rw [hp, nI_clamp (by omega)]
  refine ⟨by rw [hp]; exact vp_in_nI (by omega) (by decide), hu, NE, a, fm, h2.1, by omega, hp, h2.2, ⟨by rw [e]; exact hl, fun j hj => (h5 j hj).1⟩, hf, by rw [e]; exact hfi⟩
theorem re_int {x : Int32} {N : Nat} (h0 : ¬ x < 0) (h1 : ¬ nI N ≤ x) (hN : N < 2 ^ 31) : ∃ a, a < N ∧ x = nI a := by
  have g0 : 0 ≤ x.toInt := by
    rw [Int32.lt_iff_toInt_lt] at h0
    have : (0 : Int32).toInt = 0 := rfl
    omega
  have g1 : x.toInt < N := by
    rw [Int32.le_iff_toInt_le, nI_toInt hN] at h1
    omega
  exact ⟨x.toInt.toNat, by omega, Int32.toInt_inj.mp (by rw [nI_toInt (by omega)]; omega)⟩
theorem isPart_in {c : MR} {T : TR} {NP NE NM : Nat} {p : Int32} (h : RI c T NP NE NM) (hp : ¬ m_X5_isPart c T p = 0) : ∃ a, a < NP ∧ p = nI a := by
  obtain ⟨⟨h1, h2⟩, -⟩ := h
  unfold m_X5_isPart at hp
  by_cases a0 : p < 0
  · rw [if_pos a0] at hp; exact absurd rfl hp
  · rw [if_neg a0] at hp
    by_cases a1 : (M_pt c) ≤ p
    · rw [if_pos a1] at hp; exact absurd rfl hp
    · rw [h2] at a1
      exact re_int a0 a1 (by omega)
theorem isMonth_in {p : Int32} (hp : ¬ m_X5_isMonth p = 0) : ∃ a, a < 36 ∧ p = nI a := by
  unfold m_X5_isMonth at hp
  by_cases a0 : p < 0
  · rw [if_pos a0] at hp; exact absurd rfl hp
  · rw [if_neg a0] at hp
    by_cases a1 : 36 ≤ p
    · rw [if_pos a1] at hp; exact absurd rfl hp
    · exact re_int a0 a1 (by decide)
def f0_X5_reckon (c : MR) (T : TR) (p : Int32) (un : Int32) : MR × TR :=
  ((M_mk (M_cd ((m_X5_go c T p 35 1).2.1)) (M_pt ((m_X5_go c T p 35 1).2.1)) (M_mn ((m_X5_go c T p 35 1).2.1)) (M_ev ((m_X5_go c T p 35 1).2.1)) (M_co ((m_X5_go c T p 35 1).2.1)) (M_al ((m_X5_go c T p 35 1).2.1)) (M_re ((m_X5_go c T p 35 1).2.1)) (M_lo ((m_X5_go c T p 35 1).2.1)) (M_rs ((m_X5_go c T p 35 1).2.1)) (M_li ((m_X5_go c T p 35 1).2.1)) (M_he ((m_X5_go c T p 35 1).2.1)) (M_go ((m_X5_go c T p 35 1).2.1)) (M_sp ((m_X5_go c T p 35 1).2.1)) (M_ba ((m_X5_go c T p 35 1).2.1)) (M_le ((m_X5_go c T p 35 1).2.1)) (M_lf ((m_X5_go c T p 35 1).2.1)) (M_mo ((m_X5_go c T p 35 1).2.1)) (M_un ((m_X5_go c T p 35 1).2.1)) (M_ch ((m_X5_go c T p 35 1).2.1)) (M_lc ((m_X5_go c T p 35 1).2.1)) (M_ac ((m_X5_go c T p 35 1).2.1)) ((m_X5_go c T p 35 1).1)), ((m_X5_go c T p 35 1).2.2))
theorem f0_X5_reckon_h (c : MR) (T : TR) (p un : Int32) : M_cd (f0_X5_reckon c T p un).1 = M_cd c ∧ M_pt (f0_X5_reckon c T p un).1 = M_pt c ∧ M_mn (f0_X5_reckon c T p un).1 = M_mn c ∧ M_ev (f0_X5_reckon c T p un).1 = M_ev c ∧ T_st (f0_X5_reckon c T p un).2 = T_st T := by
  unfold f0_X5_reckon
  rw [M_cd_mk, M_pt_mk, M_mn_mk, M_ev_mk]
  exact ⟨fr_cd (go_fr ..), fr_pt (go_fr ..), fr_mn (go_fr ..), fr_ev (go_fr ..), go_st ..⟩
set_option maxRecDepth 100000 in
set_option maxHeartbeats 2000000 in
theorem s0_X5_reckon {Z : pw_Z} {Q : State → Prop} {L : List Nat} {F : Nat → va_E} {m : Nat} {rf : Nat → Nat}  {c : MR} {T : TR} {p : Int32} {un : Int32} (C : pw_C Z cX5_reckon 3 RX5 wsX5_reckon ⟨5, 0, 0, 118⟩ (some .boolean)) (hgo35 : GO (M_ev c) T p 35) (hgo : GO (M_ev c) T p un) (k : PW Z (mX (zG Z) m rf ((f0_X5_reckon c T p un).1) ((f0_X5_reckon c T p un).2)) L F 0 0 Q 12 [(0, .ref m), (1, .int p), (2, .int un)] []) : PW Z (mX (zG Z) m rf c T) L F 0 0 Q 0 [(0, .ref m), (1, .int p), (2, .int un)] [] := by
  have i5_ : ∀ w ∈ wsX50, w ∈ wsX5_reckon := by decide +kernel
  have w0_ : Cond.fieldLink RX5 116 "AgedAssetsModel" "bad" "I" ∈ wsX5_reckon := by decide +kernel
  refine pk_aload_n C 0 dX5_reckon_0 rfl rfl (pc2 := 1) rfl ?_
  refine pk_aload_n C 0 dX5_reckon_1 rfl rfl (pc2 := 2) rfl ?_
  refine pk_iload_n C 1 dX5_reckon_2 rfl rfl (pc2 := 3) rfl ?_
  refine pk_bipush (v := 35) C dX5_reckon_3 (by decide) (pc2 := 5) rfl ?_
  refine pk_iconst (v := 1) C dX5_reckon_5 (by decide) (pc2 := 6) rfl ?_
  refine pk_dV (cx := (mX (zG Z) m rf c T)) (wr := []) (X2 := (mX (zG Z) m rf ((m_X5_go c T p 35 1).2.1) ((m_X5_go c T p 35 1).2.2))) (st := [.ref m]) (st2 := [.int ((m_X5_go c T p 35 1).1), .ref m]) (As := [.int p, .int 35, .int 1]) C (c_X5_go (zl Z) (zG Z) L F m rf c T p 35 1 hgo35) gX5_reckon_X5_go rfl rfl rfl 3 (by decide +kernel) ⟨Nat.le_of_ble_eq_true rfl, Nat.le_of_ble_eq_true rfl⟩ (pw_atX 0 rfl) rfl rfl rfl (Nat.le_of_ble_eq_true rfl) ⟨Nat.le_of_ble_eq_true rfl, Nat.le_of_ble_eq_true rfl⟩ [0, 1, 2, 3, 4, 5, 6, 7, 8, 9, 10, 11, 12, 13, 14, 15] [] [0, 1, 2, 3, 4, 5, 6, 7, 8, 9, 10, 11, 12, 13, 14, 15] rfl rfl rfl rfl (by decide) rfl rfl dX5_reckon_6 (pc2 := 9) rfl rfl ?_
  generalize en1_ : ((m_X5_go c T p 35 1).2.1) = n1_
  generalize en2_ : ((m_X5_go c T p 35 1).2.2) = n2_
  refine pk_topi (fun n3_ en3_ => ?_)
  refine pk_putX (X' := ((m, kM rf (M_cd n1_) (M_pt n1_) (M_mn n1_) (M_ev n1_) (M_co n1_) (M_al n1_) (M_re n1_) (M_lo n1_) (M_rs n1_) (M_li n1_) (M_he n1_) (M_go n1_) (M_sp n1_) (M_ba n1_) (M_le n1_) (M_lf n1_) (M_mo n1_) (M_un n1_) (M_ch n1_) (M_lc n1_) (M_ac n1_) n3_) :: mT (zG Z) rf n2_)) C i5_ tyX5_ok nmX5 0 rfl (ci := 5) rfl 36 (by decide) w0_ rfl rfl rfl rfl rfl (Nat.le_of_ble_eq_true rfl) rfl dX5_reckon_9 (pc2 := 12) rfl ?_
  refine pw_conv (X' := (mX (zG Z) m rf (M_mk (M_cd n1_) (M_pt n1_) (M_mn n1_) (M_ev n1_) (M_co n1_) (M_al n1_) (M_re n1_) (M_lo n1_) (M_rs n1_) (M_li n1_) (M_he n1_) (M_go n1_) (M_sp n1_) (M_ba n1_) (M_le n1_) (M_lf n1_) (M_mo n1_) (M_un n1_) (M_ch n1_) (M_lc n1_) (M_ac n1_) n3_) n2_)) mX_mk ?_
  refine pw_lv [0, 1, 2] (lv' := [(0, .ref m), (1, .int p), (2, .int un)]) rfl ?_
  subst en1_ en2_ en3_
  have k9 := k
  unfold f0_X5_reckon at k9
  exact k9
def m_X5_reckon_1 (c : MR) (T : TR) (p : Int32) (un : Int32) (c1 : MR) (T1 : TR) : Int32 × MR × TR :=
  if ((m_X5_go c1 T1 p un 0).1) = 36 then (1, ((m_X5_go c1 T1 p un 0).2.1), ((m_X5_go c1 T1 p un 0).2.2)) else (0, ((m_X5_go c1 T1 p un 0).2.1), ((m_X5_go c1 T1 p un 0).2.2))
def m_X5_reckon_0 (c : MR) (T : TR) (p : Int32) (un : Int32) : Int32 × MR × TR := m_X5_reckon_1 c T p un ((f0_X5_reckon c T p un).1) ((f0_X5_reckon c T p un).2)
def m_X5_reckon (c : MR) (T : TR) (p : Int32) (un : Int32) : Int32 × MR × TR := m_X5_reckon_0 c T p un
set_option maxRecDepth 100000 in
set_option maxHeartbeats 2000000 in
theorem t1_X5_reckon {Z : pw_Z} {Q : State → Prop} {L : List Nat} {F : Nat → va_E} {m : Nat} {rf : Nat → Nat}  {c : MR} {T : TR} {p : Int32} {un : Int32} {c1 : MR} {T1 : TR} (C : pw_C Z cX5_reckon 3 RX5 wsX5_reckon ⟨5, 0, 0, 118⟩ (some .boolean)) {X9 : va_W} {R : Int32 × MR × TR} (hE : pw_End Z Q X9 L F (po_d (some (.int (R.1))) (mX (zG Z) m rf (R.2.1) (R.2.2)) L F) 0 0) (hgo35 : GO (M_ev c) T p 35) (hgo : GO (M_ev c) T p un) (hgo2 : GO (M_ev c1) T1 p un) (hR : m_X5_reckon_1 c T p un c1 T1 = R) : PW Z (mX (zG Z) m rf c1 T1) L F 0 0 Q 12 [(0, .ref m), (1, .int p), (2, .int un)] [] := by
  refine pk_aload_n C 0 dX5_reckon_12 rfl rfl (pc2 := 13) rfl ?_
  refine pk_iload_n C 1 dX5_reckon_13 rfl rfl (pc2 := 14) rfl ?_
  refine pk_iload_n C 2 dX5_reckon_14 rfl rfl (pc2 := 15) rfl ?_
  refine pk_iconst (v := 0) C dX5_reckon_15 (by decide) (pc2 := 16) rfl ?_
  refine pk_dV (cx := (mX (zG Z) m rf c1 T1)) (wr := []) (X2 := (mX (zG Z) m rf ((m_X5_go c1 T1 p un 0).2.1) ((m_X5_go c1 T1 p un 0).2.2))) (st := []) (st2 := [.int ((m_X5_go c1 T1 p un 0).1)]) (As := [.int p, .int un, .int 0]) C (c_X5_go (zl Z) (zG Z) L F m rf c1 T1 p un 0 hgo2) gX5_reckon_X5_go rfl rfl rfl 3 (by decide +kernel) ⟨Nat.le_of_ble_eq_true rfl, Nat.le_of_ble_eq_true rfl⟩ (pw_atX 0 rfl) rfl rfl rfl (Nat.le_of_ble_eq_true rfl) ⟨Nat.le_of_ble_eq_true rfl, Nat.le_of_ble_eq_true rfl⟩ [0, 1, 2, 3, 4, 5, 6, 7, 8, 9, 10, 11, 12, 13, 14, 15] [] [0, 1, 2, 3, 4, 5, 6, 7, 8, 9, 10, 11, 12, 13, 14, 15] rfl rfl rfl rfl (by decide) rfl rfl dX5_reckon_16 (pc2 := 19) rfl rfl ?_
  generalize en1_ : ((m_X5_go c1 T1 p un 0).2.1) = n1_
  generalize en2_ : ((m_X5_go c1 T1 p un 0).2.2) = n2_
  refine pk_topi (fun n3_ en3_ => ?_)
  refine pk_bipush (v := 36) C dX5_reckon_19 (by decide) (pc2 := 21) rfl ?_
  refine pk_icmp_ne (tgt := 28) C dX5_reckon_21 (by decide) (pc2 := 24) rfl (fun h1_ => ?_) (fun h1_ => ?_)
  ·
    refine pk_iconst (v := 0) C dX5_reckon_28 (by decide) (pc2 := 29) rfl ?_
    subst en1_ en2_ en3_
    unfold m_X5_reckon_1 at hR
    try rw [if_neg h1_] at hR
    subst hR
    exact pr_int (ty := .boolean) C hE rfl rfl (po_d_rfl rfl rfl) dX5_reckon_29
  ·
    refine pk_iconst (v := 1) C dX5_reckon_24 (by decide) (pc2 := 25) rfl ?_
    refine pk_goto (tgt := 29) C dX5_reckon_25 (by decide) ?_
    subst en1_ en2_ en3_
    unfold m_X5_reckon_1 at hR
    try rw [if_pos h1_] at hR
    subst hR
    exact pr_int (ty := .boolean) C hE rfl rfl (po_d_rfl rfl rfl) dX5_reckon_29
set_option maxRecDepth 100000 in
set_option maxHeartbeats 2000000 in
theorem t0_X5_reckon {Z : pw_Z} {Q : State → Prop} {L : List Nat} {F : Nat → va_E} {m : Nat} {rf : Nat → Nat}  {c : MR} {T : TR} {p : Int32} {un : Int32} (C : pw_C Z cX5_reckon 3 RX5 wsX5_reckon ⟨5, 0, 0, 118⟩ (some .boolean)) {X9 : va_W} {R : Int32 × MR × TR} (hE : pw_End Z Q X9 L F (po_d (some (.int (R.1))) (mX (zG Z) m rf (R.2.1) (R.2.2)) L F) 0 0) (hgo35 : GO (M_ev c) T p 35) (hgo : GO (M_ev c) T p un) (hR : m_X5_reckon_0 c T p un = R) : PW Z (mX (zG Z) m rf c T) L F 0 0 Q 0 [(0, .ref m), (1, .int p), (2, .int un)] [] := by
  refine s0_X5_reckon C hgo35 hgo ?_
  exact t1_X5_reckon C hE hgo35 hgo (GO_mv hgo (f0_X5_reckon_h ..).2.2.2.1 (f0_X5_reckon_h ..).2.2.2.2) hR
set_option maxRecDepth 100000 in
set_option maxHeartbeats 2000000 in
theorem c_X5_reckon (l : Launch) (G : pw_G) (L : List Nat) (F : Nat → va_E) (m : Nat) (rf : Nat → Nat)  (c : MR) (T : TR) (p : Int32) (un : Int32) (hgo35 : GO (M_ev c) T p 35) (hgo : GO (M_ev c) T p un) : PM l yX5_reckon wsX5_reckon ⟨5, 0, 0, 118⟩ G [.ref m, .int p, .int un] (mX G m rf c T) L F 0 0 (po_d (some (.int ((m_X5_reckon c T p un).1))) (mX G m rf ((m_X5_reckon c T p un).2.1) ((m_X5_reckon c T p un).2.2)) L F) := by
  refine pm_entry (by decide) rfl rfl (Nat.le_of_ble_eq_true rfl) ?_
  intro Z Q C hl0 hG0 hnm hE
  subst hl0
  subst hG0
  exact t0_X5_reckon C hE hgo35 hgo rfl
theorem re_f4 (c : MR) (T : TR) (p un : Int32) : M_cd (m_X5_reckon c T p un).2.1 = M_cd c ∧ M_pt (m_X5_reckon c T p un).2.1 = M_pt c ∧ M_mn (m_X5_reckon c T p un).2.1 = M_mn c ∧ M_ev (m_X5_reckon c T p un).2.1 = M_ev c ∧ T_st (m_X5_reckon c T p un).2.2 = T_st T := by
  obtain ⟨a1, a2, a3, a4, a5⟩ := f0_X5_reckon_h c T p un
  show M_cd (m_X5_reckon_1 c T p un (f0_X5_reckon c T p un).1 (f0_X5_reckon c T p un).2).2.1 = _ ∧ M_pt (m_X5_reckon_1 c T p un (f0_X5_reckon c T p un).1 (f0_X5_reckon c T p un).2).2.1 = _ ∧ M_mn (m_X5_reckon_1 c T p un (f0_X5_reckon c T p un).1 (f0_X5_reckon c T p un).2).2.1 = _ ∧ M_ev (m_X5_reckon_1 c T p un (f0_X5_reckon c T p un).1 (f0_X5_reckon c T p un).2).2.1 = _ ∧ T_st (m_X5_reckon_1 c T p un (f0_X5_reckon c T p un).1 (f0_X5_reckon c T p un).2).2.2 = _
  generalize (f0_X5_reckon c T p un).1 = c1 at *
  generalize (f0_X5_reckon c T p un).2 = T1 at *
  unfold m_X5_reckon_1
  refine zi_ite (P := fun (x : Int32 × MR × TR) => M_cd x.2.1 = M_cd c ∧ M_pt x.2.1 = M_pt c ∧ M_mn x.2.1 = M_mn c ∧ M_ev x.2.1 = M_ev c ∧ T_st x.2.2 = T_st T) (fun _ => ?_) (fun _ => ?_)
  · exact ⟨(fr_cd (go_fr ..)).trans a1, (fr_pt (go_fr ..)).trans a2, (fr_mn (go_fr ..)).trans a3, (fr_ev (go_fr ..)).trans a4, (go_st ..).trans a5⟩
  · exact ⟨(fr_cd (go_fr ..)).trans a1, (fr_pt (go_fr ..)).trans a2, (fr_mn (go_fr ..)).trans a3, (fr_ev (go_fr ..)).trans a4, (go_st ..).trans a5⟩
theorem zb_m_X5_reckon (c : MR) (T : TR) (p un : Int32) : (m_X5_reckon c T p un).1 = 0 ∨ (m_X5_reckon c T p un).1 = 1 := by
  unfold m_X5_reckon m_X5_reckon_0 m_X5_reckon_1
  exact zi_ite (P := fun (x : Int32 × MR × TR) => x.1 = 0 ∨ x.1 = 1) (fun _ => Or.inr rfl) (fun _ => Or.inl rfl)
theorem cd_n0 {x : Int32} (h : x = 1) (h2 : x ≤ 0) : False := by rw [h] at h2; exact absurd h2 (by decide)

/-! what holds between two calls of the law -/
def cntN (f : Nat → Int32) (a : Nat) : Nat → Nat
  | 0 => 0
  | n + 1 => if f n = nI (a + 1) then cntN f a n + 1 else cntN f a n
def totN (f : Nat → Int64) (a : Nat) : Nat → Int64
  | 0 => 0
  | n + 1 => totN f a n + f (36 * a + n)
theorem cnt_l {c : MR} {T : TR} {NE a : Nat} (hev : M_ev c = nI NE) (hN : NE ≤ 40) : ∀ (n k : Nat), k ≤ NE → NE < n + k → m_X5_countOf_l c T (nI a) n (nI (cntN (T_of T) a k)) (nI k) = nI (cntN (T_of T) a NE) := by
  intro n
  induction n with
  | zero => intro k h1 h2; exact absurd h2 (by omega)
  | succ n ih =>
    intro k h1 h2
    rw [m_X5_countOf_l_s, hev]
    by_cases g : k = NE
    · subst g
      rw [if_pos (nI_le (Nat.le_refl _) (by omega))]
    · rw [if_neg (nI_ge (by omega) (by omega)), nI_clamp (by omega), nI_1 a, nI_1 k, nI_1 (cntN (T_of T) a k)]
      have := ih (k + 1) (by omega) (by omega)
      rw [show cntN (T_of T) a (k + 1) = if T_of T k = nI (a + 1) then cntN (T_of T) a k + 1 else cntN (T_of T) a k from rfl] at this
      by_cases q : T_of T k = nI (a + 1)
      · rw [if_pos q] at this ⊢
        exact this
      · rw [if_neg q] at this ⊢
        exact this
theorem cnt_eq {c : MR} {T : TR} {NE a : Nat} (hev : M_ev c = nI NE) (hN : NE ≤ 40) : m_X5_countOf c T (nI a) = nI (cntN (T_of T) a NE) := cnt_l hev hN 41 0 (by omega) (by omega)
theorem tot_l {c : MR} {T : TR} {NM a : Nat} (hmn : M_mn c = nI NM) (hN : NM ≤ 36) (ha : a < 6) : ∀ (n k : Nat), k ≤ NM → NM < n + k → m_X5_totalOf_l c T (nI a) n (totN (T_po T) a k) (nI k) = totN (T_po T) a NM := by
  intro n
  induction n with
  | zero => intro k h1 h2; exact absurd h2 (by omega)
  | succ n ih =>
    intro k h1 h2
    rw [m_X5_totalOf_l_s, hmn]
    by_cases g : k = NM
    · subst g
      rw [if_pos (nI_le (Nat.le_refl _) (by omega))]
    · have hix : Int32.toNatClampNeg (36 * nI a + nI k) = 36 * a + k := by
        rw [show (36 : Int32) = nI 36 from rfl, pk_mul, nI_add]
        exact nI_clamp (by omega)
      rw [if_neg (nI_ge (by omega) (by omega)), hix, nI_1]
      exact ih (k + 1) (by omega) (by omega)
theorem tot_eq {c : MR} {T : TR} {NM a : Nat} (hmn : M_mn c = nI NM) (hN : NM ≤ 36) (ha : a < 6) : m_X5_totalOf c T (nI a) = totN (T_po T) a NM := tot_l hmn hN ha 37 0 (by omega) (by omega)
theorem ein_none {c : MR} {T : TR} {NE : Nat} {p mm : Int32} (hev : M_ev c = nI NE) (hN : NE ≤ 40) : ∀ (n k : Nat) (fd : Int32), k ≤ NE → NE < n + k → (∀ i, k ≤ i → i < NE → ¬ (T_of T i = p + 1 ∧ T_wh T i = mm)) → m_X5_eventIn_l c T p mm n fd (nI k) = fd := by
  intro n
  induction n with
  | zero => intro k fd h1 h2; exact absurd h2 (by omega)
  | succ n ih =>
    intro k fd h1 h2 hno
    rw [m_X5_eventIn_l_s, hev]
    by_cases g : k = NE
    · subst g
      rw [if_pos (nI_le (Nat.le_refl _) (by omega))]
    · rw [if_neg (nI_ge (by omega) (by omega)), nI_clamp (by omega), nI_1]
      have hi := ih (k + 1) fd (by omega) (by omega) (fun i q1 q2 => hno i (by omega) q2)
      by_cases q : T_of T k = p + 1
      · rw [if_pos q, if_neg (fun z => hno k (Nat.le_refl _) (by omega) ⟨q, z⟩)]
        exact hi
      · rw [if_neg q]
        exact hi
theorem ein_one {c : MR} {T : TR} {NE i0 : Nat} {p mm : Int32} (hev : M_ev c = nI NE) (hN : NE ≤ 40) (h1 : T_of T i0 = p + 1) (h2 : T_wh T i0 = mm) (h0 : i0 < NE) (hno : ∀ i, i < NE → T_of T i = p + 1 → T_wh T i = mm → i = i0) : ∀ (n k : Nat) (fd : Int32), k ≤ i0 → NE < n + k → m_X5_eventIn_l c T p mm n fd (nI k) = nI i0 := by
  intro n
  induction n with
  | zero => intro k fd h1 h2; exact absurd h2 (by omega)
  | succ n ih =>
    intro k fd g1 g2
    rw [m_X5_eventIn_l_s, hev, if_neg (nI_ge (by omega) (by omega)), nI_clamp (by omega), nI_1]
    by_cases g : k = i0
    · subst g
      rw [if_pos h1, if_pos h2]
      exact ein_none hev hN n (k + 1) (nI k) (by omega) (by omega) (fun i q1 q2 q3 => by
        have := hno i q2 q3.1 q3.2
        omega)
    · have hi := fun fd => ih (k + 1) fd (by omega) (by omega)
      by_cases q : T_of T k = p + 1
      · rw [if_pos q]
        by_cases r : T_wh T k = mm
        · rw [if_pos r]; exact hi _
        · rw [if_neg r]; exact hi _
      · rw [if_neg q]; exact hi _
/-- the parts' own data -/
def PRM (T : TR) (a : Nat) (pt : PR) (us : Nat → Int32) : Prop := (∃ fm : Nat, fm ≤ 35 ∧ P_fi pt = nI fm) ∧ (P_co pt = T_cs T a ∧ P_rs pt = T_rs T a ∧ P_fi pt = T_fi T a ∧ P_li pt = T_li T a ∧ P_me pt = T_me T a ∧ P_ra pt = T_ra T a) ∧
  ((1 ≤ (P_co pt).toInt ∧ (P_co pt).toInt ≤ 1000000000) ∧ (0 ≤ (P_rs pt).toInt ∧ (P_rs pt).toInt ≤ 1000000000) ∧ (1 ≤ (P_li pt).toInt ∧ (P_li pt).toInt ≤ 36) ∧ (P_me pt = 0 ∨ P_me pt = 1 ∨ P_me pt = 2 ∨ P_me pt = 3) ∧ (0 ≤ (P_ra pt).toInt ∧ (P_ra pt).toInt ≤ 1000000)) ∧ ∀ j, j < 36 → us j = T_us T (36 * a + j) ∧ 0 ≤ (us j).toInt ∧ (us j).toInt ≤ 1000000
/-- an event's row -/
def ERW (L : List Nat) (F : Nat → va_E) (er : Nat → Option Nat) (D : pw_D) (evf : Nat → ER) (T : TR) (NP i : Nat) : Prop := EV (T_ki T i) (T_am T i) (T_nu T i) ∧ ((er i = none ∧ T_of T i = 0) ∨ ∃ e a j, er i = some e ∧ (e ∈ L ∧ F e = cE (evf e)) ∧ a < NP ∧ j < 36 ∧ T_of T i = nI (a + 1) ∧ T_wh T i = nI j ∧ des D a j = some e ∧ evf e = E_mk (nI a) (nI j) (T_ki T i) (T_am T i) (T_nu T i))
def LDI (D : pw_D) (NP : Nat) : Prop := ∀ a b, a < NP → b < NP → a ≠ b → dP D a ≠ dP D b ∧ dU D a ≠ dU D b ∧ dW D a ≠ dW D b ∧ dQ D a ≠ dQ D b
def LI (G : pw_G) (L : List Nat) (F : Nat → va_E) (ar : AR) (pr er : Nat → Option Nat) (D : pw_D) (evf : Nat → ER) (c : MR) (T : TR) (NP NE NM : Nat) : Prop :=
  RI c T NP NE NM ∧ (A_pc ar = nI NP ∧ A_ec ar = nI NE ∧ A_mc ar = nI NM) ∧ (∀ a, a < NP → pr a = some (dP D a) ∧ pD G L F D evf a) ∧ LDI D NP ∧
  (∀ a, a < NP → PRM T a (dT D a) (dus D a)) ∧
  (∀ a, a < NP → ∀ cf tf cb tb, C_br (m_X4_follow (dT D a) (dus D a) (des D a) evf cf tf cb tb (nI 35)).1 = 0) ∧
  (∀ i, i < NE → ERW L F er D evf T NP i) ∧
  (∀ a j, a < NP → j < 36 → ∀ e, des D a j = some e → ∃ i, i < NE ∧ er i = some e ∧ T_of T i = nI (a + 1) ∧ T_wh T i = nI j) ∧
  (∀ i i', i < NE → i' < NE → ∀ e, er i = some e → er i' = some e → i = i') ∧
  (∀ a, a < NP → P_ec (dT D a) = nI (cntN (T_of T) a NE) ∧ cntN (T_of T) a NE ≤ 8) ∧
  (∀ a, a < NP → P_pa (dT D a) = totN (T_po T) a NM ∧ ∀ j, j < 36 → dps D a j = T_po T (36 * a + j)) ∧
  (∀ a j, a < NP → NM ≤ j → j < 36 → T_po T (36 * a + j) = 0) ∧
  (∀ a j, NP ≤ a → a < 6 → j < 36 → T_us T (36 * a + j) = 0 ∧ T_po T (36 * a + j) = 0)
/-- the reference's scratch may change -/
theorem LI_mv {G : pw_G} {L : List Nat} {F : Nat → va_E} {ar : AR} {pr er : Nat → Option Nat} {D : pw_D} {evf : Nat → ER} {c : MR} {T : TR} {NP NE NM : Nat} {c' : MR} {T' : TR} (h : LI G L F ar pr er D evf c T NP NE NM) (hc : M_nc c' = M_nc c) (hT : T_st T' = T_st T) : LI G L F ar pr er D evf c' T' NP NE NM := by
  obtain ⟨h1, h2, h3, h4, h5, h6, h7, h8, h9, h10, h11, h12, h13⟩ := h
  refine ⟨RI_st (RI_nc h1 hc) hT, h2, h3, h4, ?_, h6, ?_, ?_, h9, ?_, ?_, ?_, ?_⟩
  · unfold PRM
    rw [st_cs hT, st_rs hT, st_fi hT, st_li9 hT, st_me hT, st_ra hT, st_us hT]
    exact h5
  · unfold ERW
    rw [st_ki hT, st_am hT, st_nu hT, st_of hT, st_wh hT]
    exact h7
  · rw [st_of hT, st_wh hT]
    exact h8
  · rw [st_of hT]
    exact h10
  · rw [st_po hT]
    exact h11
  · rw [st_po hT]
    exact h12
  · rw [st_us hT, st_po hT]
    exact h13
theorem DRx {L : List Nat} {F : Nat → va_E} {er : Nat → Option Nat} {D : pw_D} {evf : Nat → ER} {T : TR} {NP NE : Nat} (r3 : NE ≤ 40) (rN : NP ≤ 6) (h5 : ∀ a, a < NP → PRM T a (dT D a) (dus D a)) (h7 : ∀ i, i < NE → ERW L F er D evf T NP i) (h8 : ∀ a j, a < NP → j < 36 → ∀ e, des D a j = some e → ∃ i, i < NE ∧ er i = some e ∧ T_of T i = nI (a + 1) ∧ T_wh T i = nI j) (h9 : ∀ i i', i < NE → i' < NE → ∀ e, er i = some e → er i' = some e → i = i') {a : Nat} (ha : a < NP) : ∃ fm, DR (nI NE) T a fm (dT D a) (dus D a) (des D a) evf := by
  obtain ⟨⟨fm, p1, p2⟩, p3, p4, p5⟩ := h5 a ha
  refine ⟨fm, ⟨by omega, p1, p2⟩, p3, p4, p5, fun j hj => ?_⟩
  have hp1 : nI a + 1 = nI (a + 1) := nI_1 a
  have un : ∀ i i', i < NE → i' < NE → T_of T i = nI (a + 1) → T_wh T i = nI j → T_of T i' = nI (a + 1) → T_wh T i' = nI j → i = i' := by
    have key : ∀ i, i < NE → T_of T i = nI (a + 1) → T_wh T i = nI j → ∃ e, er i = some e ∧ des D a j = some e := by
      intro i hi g1 g2
      obtain ⟨-, g | ⟨e, a', j', g3, g4, g5, g6, g7, g8, g9, g10⟩⟩ := h7 i hi
      · rw [g.2] at g1
        exact absurd g1.symm (nI_ne0 (by omega) (by omega))
      · rw [g7] at g1
        rw [g8] at g2
        have e1 : a' = a := by have := (nI_eq (by omega) (by omega)).mp g1; omega
        have e2 : j' = j := (nI_eq (by omega) (by omega)).mp g2
        subst e1 e2
        exact ⟨e, g3, g9⟩
    intro i i' hi hi' g1 g2 g3 g4
    obtain ⟨e, k1, k2⟩ := key i hi g1 g2
    obtain ⟨e', k3, k4⟩ := key i' hi' g3 g4
    rw [k2] at k4
    have : e = e' := Option.some.inj k4
    subst this
    exact h9 i i' hi hi' e k1 k3
  rcases he : des D a j with _ | e
  · refine Or.inl ⟨rfl, fun m hm => ?_⟩
    unfold m_X5_eventIn
    rw [← nI_0, ein_none hm r3 41 0 (-1) (by omega) (by omega) (fun i q1 q2 q3 => ?_)]
    · decide
    · obtain ⟨-, g | ⟨e, a', j', g3, g4, g5, g6, g7, g8, g9, g10⟩⟩ := h7 i q2
      · rw [hp1, g.2] at q3
        exact absurd q3.1.symm (nI_ne0 (by omega) (by omega))
      · rw [hp1, g7, g8] at q3
        have e1 : a' = a := by have := (nI_eq (by omega) (by omega)).mp q3.1; omega
        have e2 : j' = j := (nI_eq (by omega) (by omega)).mp q3.2
        subst e1 e2
        rw [he] at g9
        cases g9
  · obtain ⟨i, i1, i2, i3, i4⟩ := h8 a j ha hj e he
    obtain ⟨v, g | ⟨e', a', j', g3, g4, g5, g6, g7, g8, g9, g10⟩⟩ := h7 i i1
    · rw [g.1] at i2
      cases i2
    · rw [i2] at g3
      have e9 : e = e' := Option.some.inj g3
      subst e9
      refine Or.inr ⟨e, i, rfl, by omega, fun m hm => ?_, ?_, v⟩
      · unfold m_X5_eventIn
        rw [← nI_0]
        exact ein_one hm r3 (by rw [hp1]; exact i3) i4 i1 (fun k q1 q2 q3 => un k i q1 i1 (by rw [← hp1]; exact q2) q3 i3 i4) 41 0 (-1) (by omega) (by omega)
      · rw [g10, E_ki_mk, E_am_mk, E_nu_mk]
        exact ⟨rfl, rfl, rfl⟩
theorem LI_DR {G : pw_G} {L : List Nat} {F : Nat → va_E} {ar : AR} {pr er : Nat → Option Nat} {D : pw_D} {evf : Nat → ER} {c : MR} {T : TR} {NP NE NM : Nat} (h : LI G L F ar pr er D evf c T NP NE NM) {a : Nat} (ha : a < NP) : ∃ fm, DR (nI NE) T a fm (dT D a) (dus D a) (des D a) evf := by
  obtain ⟨⟨⟨r1, r2⟩, ⟨r3, r4⟩, -⟩, h2, h3, h4, h5, h6, h7, h8, h9, h10, h11, h12, h13⟩ := h
  exact DRx r3 r1 h5 h7 h8 h9 ha
theorem LI_part {G : pw_G} {L : List Nat} {F : Nat → va_E} {ar : AR} {pr er : Nat → Option Nat} {D : pw_D} {evf : Nat → ER} {c : MR} {T : TR} {NP NE NM : Nat} (h : LI G L F ar pr er D evf c T NP NE NM) (cf : CR) (tf : SR) (cb : CR) (tb : SR) (i : Int32) : (∃ a, a < NP ∧ i = nI a ∧ m_X4_partOf ar pr er cf tf cb tb i = some (dP D a) ∧ m_X5_isPart c T i = 1) ∨ (m_X4_partOf ar pr er cf tf cb tb i = none ∧ m_X5_isPart c T i = 0) := by
  obtain ⟨⟨⟨r1, r2⟩, -⟩, ⟨a1, -⟩, h3, -⟩ := h
  unfold m_X4_partOf m_X5_isPart
  rw [r2, a1]
  by_cases g : i < 0
  · rw [if_pos g, if_pos g]
    exact Or.inr ⟨rfl, rfl⟩
  · rw [if_neg g, if_neg g]
    by_cases g2 : nI NP ≤ i
    · rw [if_pos g2, if_pos g2]
      exact Or.inr ⟨rfl, rfl⟩
    · rw [if_neg g2, if_neg g2]
      obtain ⟨a, ha, rfl⟩ := nI_of g
      have hlt : a < NP := by
        rcases Nat.lt_or_ge a NP with q | q
        · exact q
        · exact absurd (nI_le q ha) g2
      exact Or.inl ⟨a, hlt, rfl, by rw [nI_clamp ha]; exact (h3 a hlt).1, rfl⟩
theorem month_eq (mm : Int32) : m_X4_isMonth mm = m_X5_isMonth mm := rfl
theorem within_eq (v lo hi : Int64) : m_X4_isWithin v lo hi = m_X5_isIn v lo hi := rfl

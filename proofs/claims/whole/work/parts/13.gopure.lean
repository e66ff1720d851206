/-- what the reference's walks leave alone -/
def M_fr (c : MR) : Int32 × Int32 × Int32 × Int32 × Int32 := (M_cd c, M_pt c, M_mn c, M_ev c, M_bd c)
def M_fi (c : MR) : (Int32 × Int32 × Int32 × Int32 × Int32) × Int32 × Int32 × Int32 := (M_fr c, M_li c, M_le c, M_he c)
theorem fi_fall (c : MR) (T : TR) (y : Int64) : M_fi (m_X5_fall c T y) = M_fi c := by unfold m_X5_fall; repeat (first | split | rfl)
theorem fi_values (c : MR) (T : TR) (v : Int64) : M_fi (m_X5_values c T v) = M_fi c := by
  unfold m_X5_values
  split
  · exact fi_fall c T _
  · rfl
theorem fi_impairs (c : MR) (T : TR) (v : Int64) : M_fi (m_X5_impairs c T v).2 = M_fi c := by
  unfold m_X5_impairs
  split
  · exact fi_fall c T _
  · rfl
theorem fi_restores (c : MR) (T : TR) (v : Int64) (mm : Int32) : M_fi (m_X5_restores c T v mm).2 = M_fi c := by unfold m_X5_restores; repeat (first | split | rfl)
theorem fi_sells (c : MR) (T : TR) (n : Int32) : M_fi (m_X5_sells c T n) = M_fi c := by unfold m_X5_sells; repeat (first | split | rfl)
set_option maxRecDepth 100000 in
theorem fr_happens (c : MR) (T : TR) (e mm : Int32) : M_fr (m_X5_happens c T e mm).2 = M_fr c := by
  unfold m_X5_happens
  repeat' (first | (refine zi_ite (P := fun (x : Int32 × MR) => M_fr x.2 = M_fr c) (fun _ => ?_) (fun _ => ?_)) | rfl | exact congrArg Prod.fst (fi_values c T _) | exact congrArg Prod.fst (fi_impairs c T _) | exact congrArg Prod.fst (fi_restores c T _ _) | exact congrArg Prod.fst (fi_sells c T _))
theorem fr_stretch (c : MR) (T : TR) (p : Int32) : M_fr (m_X5_stretch c T p) = M_fr c := by unfold m_X5_stretch; repeat (first | split | rfl)
theorem fr_writeOff (c : MR) (T : TR) (p mm : Int32) : M_fr (m_X5_writeOff c T p mm) = M_fr c := by unfold m_X5_writeOff; repeat (first | split | rfl)
theorem fr_clear (c : MR) (T : TR) : M_fr (m_X5_clear c T) = M_fr c := rfl
theorem fr_ev {c c' : MR} (h : M_fr c' = M_fr c) : M_ev c' = M_ev c := congrArg (fun z => z.2.2.2.1) h
theorem fr_bd {c c' : MR} (h : M_fr c' = M_fr c) : M_bd c' = M_bd c := congrArg (fun z => z.2.2.2.2) h
theorem fr_cd {c c' : MR} (h : M_fr c' = M_fr c) : M_cd c' = M_cd c := congrArg (fun z => z.1) h
theorem fr_pt {c c' : MR} (h : M_fr c' = M_fr c) : M_pt c' = M_pt c := congrArg (fun z => z.2.1) h
theorem fr_mn {c c' : MR} (h : M_fr c' = M_fr c) : M_mn c' = M_mn c := congrArg (fun z => z.2.2.1) h
def IC (c : MR) : Prop := (M_he c = 0 ∨ M_he c = 1) ∧ 0 ≤ (M_li c).toInt ∧ (M_li c).toInt ≤ 36 ∧ (¬ M_li c = 0 → 1 ≤ (M_le c).toInt ∧ (M_le c).toInt ≤ 36)
def GT (T : TR) (p : Int32) (N : Nat) : Prop := (1 ≤ (T_li T (Int32.toNatClampNeg p)).toInt ∧ (T_li T (Int32.toNatClampNeg p)).toInt ≤ 36) ∧ ∀ j, j < N → T_ki T j = 1 → 1 ≤ (T_nu T j).toInt ∧ (T_nu T j).toInt ≤ 36
theorem li_pos {x : Int32} (h : 0 ≤ x.toInt) (h2 : ¬ x = 0) : 1 ≤ x.toInt := by
  have h8 : ¬ x.toInt = 0 := fun z => h2 (Int32.toInt_inj.mp (by rw [z]; rfl))
  omega
theorem st_li (c : MR) (T : TR) (p : Int32) : M_li (m_X5_stretch c T p) = M_li c ∧ M_le (m_X5_stretch c T p) = M_li c ∧ M_he (m_X5_stretch c T p) = M_he c := by unfold m_X5_stretch; repeat (first | split | exact ⟨rfl, rfl, rfl⟩)
theorem ic_stretch {c : MR} {T : TR} {p : Int32} (h1 : M_he c = 0 ∨ M_he c = 1) (h2 : 0 ≤ (M_li c).toInt ∧ (M_li c).toInt ≤ 36) : IC (m_X5_stretch c T p) := by
  obtain ⟨a, b, d⟩ := st_li c T p
  unfold IC
  rw [a, b, d]
  exact ⟨h1, h2.1, h2.2, fun h => ⟨li_pos h2.1 h, h2.2⟩⟩
theorem ic_clear (c : MR) (T : TR) : IC (m_X5_clear c T) := ⟨Or.inl rfl, by show 0 ≤ (0 : Int32).toInt; decide, by show (0 : Int32).toInt ≤ 36; decide, fun h => absurd rfl h⟩
theorem wo_li (c : MR) (T : TR) (p mm : Int32) : M_he (m_X5_writeOff c T p mm) = M_he c ∧ M_le (m_X5_writeOff c T p mm) = M_le c ∧ (M_li (m_X5_writeOff c T p mm) = M_li c ∨ (¬ M_li c = 0 ∧ M_li (m_X5_writeOff c T p mm) = M_li c - 1)) := by
  unfold m_X5_writeOff
  repeat (first | split | exact ⟨rfl, rfl, Or.inl rfl⟩ | exact ⟨rfl, rfl, Or.inr ⟨by assumption, rfl⟩⟩)
theorem ic_writeOff {c : MR} {T : TR} {p mm : Int32} (h : IC c) : IC (m_X5_writeOff c T p mm) := by
  obtain ⟨a, b, d⟩ := wo_li c T p mm
  obtain ⟨h1, h2, h3, h4⟩ := h
  unfold IC
  rw [a, b]
  rcases d with d | ⟨d0, d⟩
  · rw [d]
    exact ⟨h1, h2, h3, h4⟩
  · have e1 : (M_li c - 1).toInt = (M_li c).toInt - 1 := by
      have := li_pos h2 d0
      have h9 := (M_li c).toInt_lt
      rw [Int32.toInt_sub]
      have e2 : (1 : Int32).toInt = 1 := rfl
      rw [e2, Int.bmod_def]
      omega
    have := li_pos h2 d0
    rw [d, e1]
    exact ⟨h1, by omega, by omega, fun _ => h4 d0⟩
set_option maxRecDepth 100000 in
theorem he_happens {c : MR} {T : TR} {e mm : Int32} (h : M_he c = 0 ∨ M_he c = 1) : M_he (m_X5_happens c T e mm).2 = 0 ∨ M_he (m_X5_happens c T e mm).2 = 1 := by
  have key : ∀ {c' : MR}, M_fi c' = M_fi c → M_he c' = 0 ∨ M_he c' = 1 := fun e => by rw [show M_he _ = M_he c from congrArg (fun z => z.2.2.2) e]; exact h
  unfold m_X5_happens
  repeat' (first | (refine zi_ite (P := fun (x : Int32 × MR) => M_he x.2 = 0 ∨ M_he x.2 = 1) (fun _ => ?_) (fun _ => ?_)) | exact h | exact Or.inl rfl | exact Or.inr rfl | exact key (fi_values c T _) | exact key (fi_impairs c T _) | exact key (fi_restores c T _ _) | exact key (fi_sells c T _))
set_option maxRecDepth 100000 in
theorem li_happens {c : MR} {T : TR} {e mm : Int32} (h : 0 ≤ (M_li c).toInt ∧ (M_li c).toInt ≤ 36) (h1 : T_ki T (Int32.toNatClampNeg e) = 1 → 1 ≤ (T_nu T (Int32.toNatClampNeg e)).toInt ∧ (T_nu T (Int32.toNatClampNeg e)).toInt ≤ 36) : 0 ≤ (M_li (m_X5_happens c T e mm).2).toInt ∧ (M_li (m_X5_happens c T e mm).2).toInt ≤ 36 := by
  have key : ∀ {c' : MR}, M_fi c' = M_fi c → 0 ≤ (M_li c').toInt ∧ (M_li c').toInt ≤ 36 := fun e => by rw [show M_li _ = M_li c from congrArg (fun z => z.2.1) e]; exact h
  have k2 : T_ki T (Int32.toNatClampNeg e) = 1 → 0 ≤ (T_nu T (Int32.toNatClampNeg e)).toInt ∧ (T_nu T (Int32.toNatClampNeg e)).toInt ≤ 36 := fun z => ⟨Int.le_trans (by decide) (h1 z).1, (h1 z).2⟩
  unfold m_X5_happens
  repeat' (first | (refine zi_ite (P := fun (x : Int32 × MR) => 0 ≤ (M_li x.2).toInt ∧ (M_li x.2).toInt ≤ 36) (fun _ => ?_) (fun _ => ?_)) | exact h | exact k2 (by assumption) | exact key (fi_values c T _) | exact key (fi_impairs c T _) | exact key (fi_restores c T _ _) | exact key (fi_sells c T _))
set_option maxRecDepth 100000 in
theorem ic_happens6 {c : MR} {T : TR} {e mm : Int32} (h : IC c) (h6 : 6 ≤ T_ki T (Int32.toNatClampNeg e)) : IC (m_X5_happens c T e mm).2 := by
  obtain ⟨h1, h2, h3, h4⟩ := h
  have no : ∀ (v : Int32), T_ki T (Int32.toNatClampNeg e) = v → 6 ≤ v := fun v z => by rw [← z]; exact h6
  have key : M_li (m_X5_happens c T e mm).2 = M_li c ∧ M_le (m_X5_happens c T e mm).2 = M_le c := by
    unfold m_X5_happens
    repeat' (first | (refine zi_ite (P := fun (x : Int32 × MR) => M_li x.2 = M_li c ∧ M_le x.2 = M_le c) (fun _ => ?_) (fun _ => ?_)) | exact ⟨rfl, rfl⟩ | exact absurd (no _ (by assumption)) (by decide))
  refine ⟨he_happens h1, ?_⟩
  rw [key.1, key.2]
  exact ⟨h2, h3, h4⟩
theorem ein_l {c : MR} {T : TR} {p mm : Int32} {N : Nat} (hN : N ≤ 40) (hev : M_ev c = nI N) : ∀ (n k : Nat) (fd e : Int32), k ≤ N → N < k + n → e = nI k → (fd < 0 ∨ ∃ j, j < N ∧ fd = nI j) → m_X5_eventIn_l c T p mm n fd e < 0 ∨ ∃ j, j < N ∧ m_X5_eventIn_l c T p mm n fd e = nI j := by
  intro n
  induction n with
  | zero => intro k fd e h1 h2; exact absurd h2 (by omega)
  | succ n ih =>
    intro k fd e h1 h2 he hf
    rw [m_X5_eventIn_l_s]
    split
    · exact hf
    · rename_i h9
      have hlt := lp_lt hev (by omega) he h1 h9
      repeat (first | split | exact ih (k + 1) _ _ (by omega) (by omega) (by rw [he, nI_1]) hf | exact ih (k + 1) _ _ (by omega) (by omega) (by rw [he, nI_1]) (Or.inr ⟨k, hlt, he⟩))
theorem ein_rng {c : MR} {T : TR} {p mm : Int32} {N : Nat} (hN : N ≤ 40) (hev : M_ev c = nI N) (h : ¬ m_X5_eventIn c T p mm < 0) : ∃ j, j < N ∧ m_X5_eventIn c T p mm = nI j := by
  rcases ein_l (T := T) (p := p) (mm := mm) hN hev 41 0 (-1) 0 (Nat.zero_le _) (by omega) rfl (Or.inl (by decide)) with q | q
  · exact absurd q h
  · exact q

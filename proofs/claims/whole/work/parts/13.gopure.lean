/-- what the reference's walks leave alone -/
def M_fr (c : MR) : Int32 × Int32 × Int32 × Int32 × Int32 := (M_cd c, M_pt c, M_mn c, M_ev c, M_bd c)
def M_fi (c : MR) : (Int32 × Int32 × Int32 × Int32 × Int32) × Int32 × Int32 × Int32 := (M_fr c, M_li c, M_le c, M_he c)
theorem M_fr_mk (f_cd : Int32) (f_pt : Int32) (f_mn : Int32) (f_ev : Int32) (f_co : Int64) (f_al : Int64) (f_re : Int64) (f_lo : Int64) (f_rs : Int64) (f_li : Int32) (f_he : Int32) (f_go : Int32) (f_sp : Int32) (f_ba : Int64) (f_le : Int32) (f_lf : Int32) (f_mo : Int32) (f_un : Int32) (f_ch : Int64) (f_lc : Int64) (f_ac : Int64) (f_bd : Int32) : M_fr (M_mk f_cd f_pt f_mn f_ev f_co f_al f_re f_lo f_rs f_li f_he f_go f_sp f_ba f_le f_lf f_mo f_un f_ch f_lc f_ac f_bd) = (f_cd, f_pt, f_mn, f_ev, f_bd) := rfl
theorem M_fi_mk (f_cd : Int32) (f_pt : Int32) (f_mn : Int32) (f_ev : Int32) (f_co : Int64) (f_al : Int64) (f_re : Int64) (f_lo : Int64) (f_rs : Int64) (f_li : Int32) (f_he : Int32) (f_go : Int32) (f_sp : Int32) (f_ba : Int64) (f_le : Int32) (f_lf : Int32) (f_mo : Int32) (f_un : Int32) (f_ch : Int64) (f_lc : Int64) (f_ac : Int64) (f_bd : Int32) : M_fi (M_mk f_cd f_pt f_mn f_ev f_co f_al f_re f_lo f_rs f_li f_he f_go f_sp f_ba f_le f_lf f_mo f_un f_ch f_lc f_ac f_bd) = ((f_cd, f_pt, f_mn, f_ev, f_bd), f_li, f_le, f_he) := rfl
theorem fi_fall (c : MR) (T : TR) (y : Int64) : M_fi (m_X5_fall c T y) = M_fi c := by
  unfold m_X5_fall
  exact zi_ite (P := fun (x : MR) => M_fi x = M_fi c) (fun _ => M_fi_mk ..) (fun _ => M_fi_mk ..)
theorem fi_values (c : MR) (T : TR) (v : Int64) : M_fi (m_X5_values c T v) = M_fi c := by
  unfold m_X5_values
  exact zi_ite (P := fun (x : MR) => M_fi x = M_fi c) (fun _ => (M_fi_mk ..).trans (fi_fall c T _)) (fun _ => M_fi_mk ..)
theorem fi_impairs (c : MR) (T : TR) (v : Int64) : M_fi (m_X5_impairs c T v).2 = M_fi c := by
  unfold m_X5_impairs
  exact zi_ite (P := fun (x : Int32 × MR) => M_fi x.2 = M_fi c) (fun _ => (M_fi_mk ..).trans (fi_fall c T _)) (fun _ => rfl)
theorem fi_restores (c : MR) (T : TR) (v : Int64) (mm : Int32) : M_fi (m_X5_restores c T v mm).2 = M_fi c := by
  unfold m_X5_restores
  repeat' (first | (with_reducible refine zi_ite (P := fun (x : Int32 × MR) => M_fi x.2 = M_fi c) (fun _ => ?_) (fun _ => ?_)) | (with_reducible exact rfl) | (exact M_fi_mk ..))
theorem fi_sells (c : MR) (T : TR) (n : Int32) : M_fi (m_X5_sells c T n) = M_fi c := by
  unfold m_X5_sells
  exact zi_ite (P := fun (x : MR) => M_fi x = M_fi c) (fun _ => M_fi_mk ..) (fun _ => M_fi_mk ..)
theorem fr_values (c : MR) (T : TR) (v : Int64) : M_fr (m_X5_values c T v) = M_fr c := congrArg Prod.fst (fi_values c T v)
theorem fr_impairs (c : MR) (T : TR) (v : Int64) : M_fr (m_X5_impairs c T v).2 = M_fr c := congrArg Prod.fst (fi_impairs c T v)
theorem fr_restores (c : MR) (T : TR) (v : Int64) (mm : Int32) : M_fr (m_X5_restores c T v mm).2 = M_fr c := congrArg Prod.fst (fi_restores c T v mm)
theorem fr_sells (c : MR) (T : TR) (n : Int32) : M_fr (m_X5_sells c T n) = M_fr c := congrArg Prod.fst (fi_sells c T n)
def M_lh (c : MR) : Int32 × Int32 × Int32 := (M_li c, M_le c, M_he c)
theorem M_lh_mk (f_cd : Int32) (f_pt : Int32) (f_mn : Int32) (f_ev : Int32) (f_co : Int64) (f_al : Int64) (f_re : Int64) (f_lo : Int64) (f_rs : Int64) (f_li : Int32) (f_he : Int32) (f_go : Int32) (f_sp : Int32) (f_ba : Int64) (f_le : Int32) (f_lf : Int32) (f_mo : Int32) (f_un : Int32) (f_ch : Int64) (f_lc : Int64) (f_ac : Int64) (f_bd : Int32) : M_lh (M_mk f_cd f_pt f_mn f_ev f_co f_al f_re f_lo f_rs f_li f_he f_go f_sp f_ba f_le f_lf f_mo f_un f_ch f_lc f_ac f_bd) = (f_li, f_le, f_he) := rfl
theorem lh_values (c : MR) (T : TR) (v : Int64) : M_lh (m_X5_values c T v) = M_lh c := congrArg Prod.snd (fi_values c T v)
theorem lh_impairs (c : MR) (T : TR) (v : Int64) : M_lh (m_X5_impairs c T v).2 = M_lh c := congrArg Prod.snd (fi_impairs c T v)
theorem lh_restores (c : MR) (T : TR) (v : Int64) (mm : Int32) : M_lh (m_X5_restores c T v mm).2 = M_lh c := congrArg Prod.snd (fi_restores c T v mm)
theorem lh_sells (c : MR) (T : TR) (n : Int32) : M_lh (m_X5_sells c T n) = M_lh c := congrArg Prod.snd (fi_sells c T n)
set_option maxRecDepth 100000 in
theorem fr_happens (c : MR) (T : TR) (e mm : Int32) : M_fr (m_X5_happens c T e mm).2 = M_fr c := by
  unfold m_X5_happens
  repeat' (first | (with_reducible refine zi_ite (P := fun (x : Int32 × MR) => M_fr x.2 = M_fr c) (fun _ => ?_) (fun _ => ?_)) | (with_reducible exact fr_values ..) | (with_reducible exact fr_impairs ..) | (with_reducible exact fr_restores ..) | (with_reducible exact fr_sells ..) | (with_reducible exact rfl) | (exact M_fr_mk ..))
theorem fr_stretch (c : MR) (T : TR) (p : Int32) : M_fr (m_X5_stretch c T p) = M_fr c := by
  unfold m_X5_stretch
  repeat' (first | (with_reducible refine zi_ite (P := fun (x : MR) => M_fr x = M_fr c) (fun _ => ?_) (fun _ => ?_)) | (exact M_fr_mk ..))
theorem fr_writeOff (c : MR) (T : TR) (p mm : Int32) : M_fr (m_X5_writeOff c T p mm) = M_fr c := by
  unfold m_X5_writeOff
  repeat' (first | (with_reducible refine zi_ite (P := fun (x : MR) => M_fr x = M_fr c) (fun _ => ?_) (fun _ => ?_)) | (exact M_fr_mk ..))
theorem fr_clear (c : MR) (T : TR) : M_fr (m_X5_clear c T) = M_fr c := by unfold m_X5_clear; exact M_fr_mk ..
set_option maxRecDepth 100000 in
set_option maxHeartbeats 2000000 in
/-- what happens says of life, length and held: as before; or life by an outlook; or held -/
theorem lh_happens (c : MR) (T : TR) (e mm : Int32) : M_lh (m_X5_happens c T e mm).2 = M_lh c ∨ (T_ki T (Int32.toNatClampNeg e) = 1 ∧ M_lh (m_X5_happens c T e mm).2 = (T_nu T (Int32.toNatClampNeg e), M_le c, M_he c)) ∨ (¬ T_ki T (Int32.toNatClampNeg e) = 1 ∧ ∃ h, (h = 0 ∨ h = 1) ∧ M_lh (m_X5_happens c T e mm).2 = (M_li c, M_le c, h)) := by
  have key : ∀ (k : Int32), k = T_ki T (Int32.toNatClampNeg e) → M_lh (m_X5_happens c T e mm).2 = M_lh c ∨ (k = 1 ∧ M_lh (m_X5_happens c T e mm).2 = (T_nu T (Int32.toNatClampNeg e), M_le c, M_he c)) ∨ (¬ k = 1 ∧ ∃ h, (h = 0 ∨ h = 1) ∧ M_lh (m_X5_happens c T e mm).2 = (M_li c, M_le c, h)) := by
    intro k hk
    unfold m_X5_happens
    rw [← hk]
    repeat' (first | (with_reducible refine zi_ite (P := fun (x : Int32 × MR) => M_lh x.2 = M_lh c ∨ (k = 1 ∧ M_lh x.2 = (T_nu T (Int32.toNatClampNeg e), M_le c, M_he c)) ∨ (¬ k = 1 ∧ ∃ h, (h = 0 ∨ h = 1) ∧ M_lh x.2 = (M_li c, M_le c, h))) (fun _ => ?_) (fun _ => ?_)) | (with_reducible exact Or.inl (lh_values ..)) | (with_reducible exact Or.inl (lh_impairs ..)) | (with_reducible exact Or.inl (lh_restores ..)) | (with_reducible exact Or.inl (lh_sells ..)) | (with_reducible exact Or.inl rfl) | (exact Or.inr (Or.inl ⟨by assumption, M_lh_mk ..⟩)) | (exact Or.inl (M_lh_mk ..)) | (exact Or.inr (Or.inr ⟨by assumption, 1, Or.inr rfl, M_lh_mk ..⟩)) | (exact Or.inr (Or.inr ⟨by assumption, 0, Or.inl rfl, M_lh_mk ..⟩)))
  exact key _ rfl
theorem fr_ev {c c' : MR} (h : M_fr c' = M_fr c) : M_ev c' = M_ev c := congrArg (fun z => z.2.2.2.1) h
theorem fr_bd {c c' : MR} (h : M_fr c' = M_fr c) : M_bd c' = M_bd c := congrArg (fun z => z.2.2.2.2) h
theorem fr_cd {c c' : MR} (h : M_fr c' = M_fr c) : M_cd c' = M_cd c := congrArg (fun z => z.1) h
theorem fr_pt {c c' : MR} (h : M_fr c' = M_fr c) : M_pt c' = M_pt c := congrArg (fun z => z.2.1) h
theorem fr_mn {c c' : MR} (h : M_fr c' = M_fr c) : M_mn c' = M_mn c := congrArg (fun z => z.2.2.1) h
def IC (c : MR) : Prop := (M_he c = 0 ∨ M_he c = 1) ∧ 0 ≤ (M_li c).toInt ∧ (M_li c).toInt ≤ 36 ∧ (¬ M_li c = 0 → 1 ≤ (M_le c).toInt ∧ (M_le c).toInt ≤ 36)
def GT (T : TR) (p : Int32) (N : Nat) : Prop := (1 ≤ (T_li T (Int32.toNatClampNeg p)).toInt ∧ (T_li T (Int32.toNatClampNeg p)).toInt ≤ 36) ∧ ∀ j, j < N → T_ki T j = 1 → 1 ≤ (T_nu T j).toInt ∧ (T_nu T j).toInt ≤ 36
theorem li_pos {x : Int32} (h : 0 ≤ x.toInt) (h2 : ¬ x = 0) : 1 ≤ x.toInt := by
  have h8 : ¬ x.toInt = 0 := fun z => h2 (Int32.toInt_inj.mp (by rw [z]; rfl))
  omega
theorem st_li (c : MR) (T : TR) (p : Int32) : M_lh (m_X5_stretch c T p) = (M_li c, M_li c, M_he c) := by
  unfold m_X5_stretch
  repeat' (first | (with_reducible refine zi_ite (P := fun (x : MR) => M_lh x = (M_li c, M_li c, M_he c)) (fun _ => ?_) (fun _ => ?_)) | (exact M_lh_mk ..))
theorem ic_stretch {c : MR} {T : TR} {p : Int32} (h1 : M_he c = 0 ∨ M_he c = 1) (h2 : 0 ≤ (M_li c).toInt ∧ (M_li c).toInt ≤ 36) : IC (m_X5_stretch c T p) := by
  have q := st_li c T p
  have a : M_li (m_X5_stretch c T p) = M_li c := congrArg (fun z => z.1) q
  have b : M_le (m_X5_stretch c T p) = M_li c := congrArg (fun z => z.2.1) q
  have d : M_he (m_X5_stretch c T p) = M_he c := congrArg (fun z => z.2.2) q
  unfold IC
  rw [a, b, d]
  exact ⟨h1, h2.1, h2.2, fun h => ⟨li_pos h2.1 h, h2.2⟩⟩
theorem ic_clear (c : MR) (T : TR) : IC (m_X5_clear c T) := ⟨Or.inl rfl, by show 0 ≤ (0 : Int32).toInt; decide, by show (0 : Int32).toInt ≤ 36; decide, fun h => absurd rfl h⟩
theorem wo_lh (c : MR) (T : TR) (p mm : Int32) : M_lh (m_X5_writeOff c T p mm) = M_lh c ∨ (¬ M_li c = 0 ∧ M_lh (m_X5_writeOff c T p mm) = (M_li c - 1, M_le c, M_he c)) := by
  unfold m_X5_writeOff
  repeat' (first | (with_reducible refine zi_ite (P := fun (x : MR) => M_lh x = M_lh c ∨ (¬ M_li c = 0 ∧ M_lh x = (M_li c - 1, M_le c, M_he c))) (fun _ => ?_) (fun _ => ?_)) | (exact Or.inl (M_lh_mk ..)) | (exact Or.inr ⟨by assumption, M_lh_mk ..⟩))
theorem wo_li (c : MR) (T : TR) (p mm : Int32) : M_he (m_X5_writeOff c T p mm) = M_he c ∧ M_le (m_X5_writeOff c T p mm) = M_le c ∧ (M_li (m_X5_writeOff c T p mm) = M_li c ∨ (¬ M_li c = 0 ∧ M_li (m_X5_writeOff c T p mm) = M_li c - 1)) := by
  rcases wo_lh c T p mm with q | ⟨k, q⟩
  · exact ⟨congrArg (fun z => z.2.2) q, congrArg (fun z => z.2.1) q, Or.inl (congrArg (fun z => z.1) q)⟩
  · exact ⟨congrArg (fun z => z.2.2) q, congrArg (fun z => z.2.1) q, Or.inr ⟨k, congrArg (fun z => z.1) q⟩⟩
theorem ic_writeOff {c : MR} {T : TR} {p mm : Int32} (h : IC c) : IC (m_X5_writeOff c T p mm) := by
  obtain ⟨a, b, d⟩ := wo_li c T p mm
  obtain ⟨h1, h2, h3, h4⟩ := h
  unfold IC
  rw [a, b]
  rcases d with d | ⟨d0, d⟩
  · rw [d]
    exact ⟨h1, h2, h3, h4⟩
  · have e1 : (M_li c - 1).toInt = (M_li c).toInt - 1 := by
      have := li_pos h2 d0
      have h9 := (M_li c).toInt_lt
      rw [Int32.toInt_sub]
      have e2 : (1 : Int32).toInt = 1 := rfl
      rw [e2, Int.bmod_def]
      omega
    have := li_pos h2 d0
    rw [d, e1]
    exact ⟨h1, by omega, by omega, fun _ => h4 d0⟩
theorem he_happens {c : MR} {T : TR} {e mm : Int32} (h : M_he c = 0 ∨ M_he c = 1) : M_he (m_X5_happens c T e mm).2 = 0 ∨ M_he (m_X5_happens c T e mm).2 = 1 := by
  have g : ∀ {c' : MR} {a b d : Int32}, M_lh c' = (a, b, d) → M_he c' = d := fun e => congrArg (fun z => z.2.2) e
  rcases lh_happens c T e mm with q | ⟨-, q⟩ | ⟨-, x, hx, q⟩
  · rw [show M_he (m_X5_happens c T e mm).2 = M_he c from g q]; exact h
  · rw [g q]; exact h
  · rw [g q]; exact hx
theorem li_happens {c : MR} {T : TR} {e mm : Int32} (h : 0 ≤ (M_li c).toInt ∧ (M_li c).toInt ≤ 36) (h1 : T_ki T (Int32.toNatClampNeg e) = 1 → 1 ≤ (T_nu T (Int32.toNatClampNeg e)).toInt ∧ (T_nu T (Int32.toNatClampNeg e)).toInt ≤ 36) : 0 ≤ (M_li (m_X5_happens c T e mm).2).toInt ∧ (M_li (m_X5_happens c T e mm).2).toInt ≤ 36 := by
  have g : ∀ {c' : MR} {a b d : Int32}, M_lh c' = (a, b, d) → M_li c' = a := fun e => congrArg (fun z => z.1) e
  rcases lh_happens c T e mm with q | ⟨k, q⟩ | ⟨-, x, hx, q⟩
  · rw [show M_li (m_X5_happens c T e mm).2 = M_li c from g q]; exact h
  · rw [g q]; exact ⟨Int.le_trans (by decide) (h1 k).1, (h1 k).2⟩
  · rw [g q]; exact h
theorem ic_happens6 {c : MR} {T : TR} {e mm : Int32} (h : IC c) (h6 : 6 ≤ T_ki T (Int32.toNatClampNeg e)) : IC (m_X5_happens c T e mm).2 := by
  obtain ⟨h1, h2, h3, h4⟩ := h
  have g1 : ∀ {c' : MR} {a b d : Int32}, M_lh c' = (a, b, d) → M_li c' = a ∧ M_le c' = b := fun e => ⟨congrArg (fun z => z.1) e, congrArg (fun z => z.2.1) e⟩
  have key : M_li (m_X5_happens c T e mm).2 = M_li c ∧ M_le (m_X5_happens c T e mm).2 = M_le c := by
    rcases lh_happens c T e mm with q | ⟨k, q⟩ | ⟨-, x, hx, q⟩
    · exact g1 q
    · rw [k] at h6; exact absurd h6 (by decide)
    · exact g1 q
  refine ⟨he_happens h1, ?_⟩
  rw [key.1, key.2]
  exact ⟨h2, h3, h4⟩
theorem ein_l {c : MR} {T : TR} {p mm : Int32} {N : Nat} (hN : N ≤ 40) (hev : M_ev c = nI N) : ∀ (n k : Nat) (fd e : Int32), k ≤ N → N < k + n → e = nI k → (fd < 0 ∨ ∃ j, j < N ∧ fd = nI j) → m_X5_eventIn_l c T p mm n fd e < 0 ∨ ∃ j, j < N ∧ m_X5_eventIn_l c T p mm n fd e = nI j := by
  intro n
  induction n with
  | zero => intro k fd e h1 h2; exact absurd h2 (by omega)
  | succ n ih =>
    intro k fd e h1 h2 he hf
    rw [m_X5_eventIn_l_s]
    split
    · exact hf
    · rename_i h9
      have hlt := lp_lt hev (by omega) he h1 h9
      repeat (first | split | exact ih (k + 1) _ _ (by omega) (by omega) (by rw [he, nI_1]) hf | exact ih (k + 1) _ _ (by omega) (by omega) (by rw [he, nI_1]) (Or.inr ⟨k, hlt, he⟩))
theorem ein_rng {c : MR} {T : TR} {p mm : Int32} {N : Nat} (hN : N ≤ 40) (hev : M_ev c = nI N) (h : ¬ m_X5_eventIn c T p mm < 0) : ∃ j, j < N ∧ m_X5_eventIn c T p mm = nI j := by
  rcases ein_l (T := T) (p := p) (mm := mm) hN hev 41 0 (-1) 0 (Nat.zero_le _) (by omega) rfl (Or.inl (by decide)) with q | q
  · exact absurd q h
  · exact q

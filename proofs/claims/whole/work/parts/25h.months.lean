theorem st_cs {T T' : TR} (h : T_st T' = T_st T) : T_cs T' = T_cs T := congrArg (fun z => z.1) h
theorem st_rs {T T' : TR} (h : T_st T' = T_st T) : T_rs T' = T_rs T := congrArg (fun z => z.2.1) h
theorem st_me {T T' : TR} (h : T_st T' = T_st T) : T_me T' = T_me T := congrArg (fun z => z.2.2.2.2.1) h
theorem st_ra {T T' : TR} (h : T_st T' = T_st T) : T_ra T' = T_ra T := congrArg (fun z => z.2.2.2.2.2.1) h
theorem st_wh {T T' : TR} (h : T_st T' = T_st T) : T_wh T' = T_wh T := congrArg (fun z => z.2.2.2.2.2.2.2.2.2.1) h
theorem st_am {T T' : TR} (h : T_st T' = T_st T) : T_am T' = T_am T := congrArg (fun z => z.2.2.2.2.2.2.2.2.2.2.2.1) h
theorem ein_cg {m m' : MR} {T T' : TR} {p mm : Int32} (h : M_ev m' = M_ev m) (h1 : T_of T' = T_of T) (h2 : T_wh T' = T_wh T) : m_X5_eventIn m' T' p mm = m_X5_eventIn m T p mm := by
  unfold m_X5_eventIn
  have key : ∀ (n : Nat) (fd e : Int32), m_X5_eventIn_l m' T' p mm n fd e = m_X5_eventIn_l m T p mm n fd e := by
    intro n
    induction n with
    | zero => intro fd e; rfl
    | succ n ih => intro fd e; rw [m_X5_eventIn_l_s, m_X5_eventIn_l_s, h, h1, h2, ih, ih]
  exact key 41 (-1) 0
/-- what the component keeps of a part, and what the reference keeps -/
def DR (ev : Int32) (T : TR) (a fm : Nat) (pt : PR) (us : Nat → Int32) (es : Nat → Option Nat) (evf : Nat → ER) : Prop :=
  (a < 6 ∧ fm ≤ 35 ∧ P_fi pt = nI fm) ∧
  (P_co pt = T_cs T a ∧ P_rs pt = T_rs T a ∧ P_fi pt = T_fi T a ∧ P_li pt = T_li T a ∧ P_me pt = T_me T a ∧ P_ra pt = T_ra T a) ∧
  ((1 ≤ (P_co pt).toInt ∧ (P_co pt).toInt ≤ 1000000000) ∧ (0 ≤ (P_rs pt).toInt ∧ (P_rs pt).toInt ≤ 1000000000) ∧ (1 ≤ (P_li pt).toInt ∧ (P_li pt).toInt ≤ 36) ∧ (P_me pt = 0 ∨ P_me pt = 1 ∨ P_me pt = 2 ∨ P_me pt = 3) ∧ (0 ≤ (P_ra pt).toInt ∧ (P_ra pt).toInt ≤ 1000000)) ∧
  (∀ j, j < 36 → us j = T_us T (36 * a + j) ∧ 0 ≤ (us j).toInt ∧ (us j).toInt ≤ 1000000) ∧
  (∀ j, j < 36 → (es j = none ∧ ∀ m, M_ev m = ev → m_X5_eventIn m T (nI a) (nI j) < 0) ∨ ∃ e i, es j = some e ∧ i < 40 ∧ (∀ m, M_ev m = ev → m_X5_eventIn m T (nI a) (nI j) = nI i) ∧ (E_ki (evf e) = T_ki T i ∧ E_am (evf e) = T_am T i ∧ E_nu (evf e) = T_nu T i) ∧ EV (T_ki T i) (T_am T i) (T_nu T i))
theorem DR_cg {ev : Int32} {T T' : TR} {a fm : Nat} {pt : PR} {us : Nat → Int32} {es : Nat → Option Nat} {evf : Nat → ER} (h : T_st T' = T_st T) (hD : DR ev T a fm pt us es evf) : DR ev T' a fm pt us es evf := by
  have e1 : ∀ (m : MR) (j : Nat), m_X5_eventIn m T' (nI a) (nI j) = m_X5_eventIn m T (nI a) (nI j) := fun m j => ein_cg rfl (st_of h) (st_wh h)
  unfold DR at *
  rw [st_cs h, st_rs h, st_fi h, st_li9 h, st_me h, st_ra h, st_us h, st_ki h, st_am h, st_nu h]
  simp only [e1]
  exact hD
def B_s (us : Nat → Int32) (es : Nat → Option Nat) (evf : Nat → ER) (i : Nat) (x : CR × SR) : CR × SR :=
  match es i with
  | none => m_X0_chargeMonth x.1 x.2 (us i)
  | some e => if E_ki (evf e) = 3 then m_X0_chargeMonth x.1 x.2 (us i) else if E_ki (evf e) = 4 then m_X0_chargeMonth x.1 x.2 (us i) else m_X0_chargeMonth (m_X0_meet x.1 x.2 (evf e) (-1)).1 (m_X0_meet x.1 x.2 (evf e) (-1)).2 (us i)
def F_s (us : Nat → Int32) (es : Nat → Option Nat) (evf : Nat → ER) (i : Nat) (mr : Int64) (x : CR × SR) : CR × SR :=
  match es i with
  | none => m_X0_chargeMonth x.1 x.2 (us i)
  | some e => m_X0_chargeMonth (m_X0_meet x.1 x.2 (evf e) mr).1 (m_X0_meet x.1 x.2 (evf e) mr).2 (us i)
theorem B_none {us : Nat → Int32} {es : Nat → Option Nat} {evf : Nat → ER} {i : Nat} {x : CR × SR} (h : es i = none) : B_s us es evf i x = m_X0_chargeMonth x.1 x.2 (us i) := by unfold B_s; rw [h]
theorem B_34 {us : Nat → Int32} {es : Nat → Option Nat} {evf : Nat → ER} {i e : Nat} {x : CR × SR} (h : es i = some e) (h2 : E_ki (evf e) = 3 ∨ E_ki (evf e) = 4) : B_s us es evf i x = m_X0_chargeMonth x.1 x.2 (us i) := by
  unfold B_s
  rw [h]
  show (if E_ki (evf e) = 3 then m_X0_chargeMonth x.1 x.2 (us i) else if E_ki (evf e) = 4 then m_X0_chargeMonth x.1 x.2 (us i) else m_X0_chargeMonth (m_X0_meet x.1 x.2 (evf e) (-1)).1 (m_X0_meet x.1 x.2 (evf e) (-1)).2 (us i)) = _
  by_cases g : E_ki (evf e) = 3
  · rw [if_pos g]
  · rw [if_neg g, if_pos (by rcases h2 with z | z; exact absurd z g; exact z)]
theorem B_some {us : Nat → Int32} {es : Nat → Option Nat} {evf : Nat → ER} {i e : Nat} {x : CR × SR} (h : es i = some e) (h2 : ¬ E_ki (evf e) = 3) (h3 : ¬ E_ki (evf e) = 4) : B_s us es evf i x = m_X0_chargeMonth (m_X0_meet x.1 x.2 (evf e) (-1)).1 (m_X0_meet x.1 x.2 (evf e) (-1)).2 (us i) := by
  unfold B_s
  rw [h]
  show (if E_ki (evf e) = 3 then m_X0_chargeMonth x.1 x.2 (us i) else if E_ki (evf e) = 4 then m_X0_chargeMonth x.1 x.2 (us i) else m_X0_chargeMonth (m_X0_meet x.1 x.2 (evf e) (-1)).1 (m_X0_meet x.1 x.2 (evf e) (-1)).2 (us i)) = _
  rw [if_neg h2, if_neg h3]
theorem F_none {us : Nat → Int32} {es : Nat → Option Nat} {evf : Nat → ER} {i : Nat} {mr : Int64} {x : CR × SR} (h : es i = none) : F_s us es evf i mr x = m_X0_chargeMonth x.1 x.2 (us i) := by unfold F_s; rw [h]
theorem F_some {us : Nat → Int32} {es : Nat → Option Nat} {evf : Nat → ER} {i e : Nat} {mr : Int64} {x : CR × SR} (h : es i = some e) : F_s us es evf i mr x = m_X0_chargeMonth (m_X0_meet x.1 x.2 (evf e) mr).1 (m_X0_meet x.1 x.2 (evf e) mr).2 (us i) := by unfold F_s; rw [h]
theorem br_B {us : Nat → Int32} {es : Nat → Option Nat} {evf : Nat → ER} {i : Nat} {x : CR × SR} (h : C_br x.1 = 1) : C_br (B_s us es evf i x).1 = 1 := by
  have key : ∀ ev, C_br (m_X0_meet x.1 x.2 ev (-1)).1 = 1 := fun ev => by rcases br_meet x.1 x.2 ev (-1) with q | q; exact q; rw [q]; exact h
  rcases he : es i with _ | e
  · rw [B_none he, br_charge]; exact h
  · by_cases g3 : E_ki (evf e) = 3
    · rw [B_34 he (Or.inl g3), br_charge]; exact h
    · by_cases g4 : E_ki (evf e) = 4
      · rw [B_34 he (Or.inr g4), br_charge]; exact h
      · rw [B_some he g3 g4, br_charge]; exact key _
theorem br_F {us : Nat → Int32} {es : Nat → Option Nat} {evf : Nat → ER} {i : Nat} {mr : Int64} {x : CR × SR} (h : C_br x.1 = 1) : C_br (F_s us es evf i mr x).1 = 1 := by
  rcases he : es i with _ | e
  · rw [F_none he, br_charge]; exact h
  · rw [F_some he, br_charge]
    rcases br_meet x.1 x.2 (evf e) mr with q | q
    · exact q
    · rw [q]; exact h
/-- the two courses, month by month -/
def FB (us : Nat → Int32) (es : Nat → Option Nat) (evf : Nat → ER) (fm : Nat) (x y : CR × SR) : Nat → (CR × SR) × (CR × SR)
  | 0 => (x, y)
  | j + 1 => (F_s us es evf (fm + j) (m_X0_bookOrNone (FB us es evf fm x y j).2.1 (FB us es evf fm x y j).2.2) (FB us es evf fm x y j).1, B_s us es evf (fm + j) (FB us es evf fm x y j).2)
theorem FB_l (us : Nat → Int32) (es : Nat → Option Nat) (evf : Nat → ER) (fm : Nat) (x y : CR × SR) {L : Nat} (hL : L ≤ 35) : ∀ (n j : Nat), fm + j ≤ L + 1 → L + 1 < n + (fm + j) → m_X4_follow_l us es evf (nI L) n (FB us es evf fm x y j).1.1 (FB us es evf fm x y j).1.2 (FB us es evf fm x y j).2.1 (FB us es evf fm x y j).2.2 (nI (fm + j)) = ((FB us es evf fm x y (L + 1 - fm)).1.1, (FB us es evf fm x y (L + 1 - fm)).1.2, (FB us es evf fm x y (L + 1 - fm)).2.1, (FB us es evf fm x y (L + 1 - fm)).2.2) := by
  intro n
  induction n with
  | zero => intro j h1 h2; exact absurd h2 (by omega)
  | succ n ih =>
    intro j h1 h2
    rw [m_X4_follow_l_s]
    by_cases g : fm + j = L + 1
    · rw [if_pos (by rw [g]; exact nI_lt (by omega) (by omega)), show L + 1 - fm = j by omega]
    · rw [if_neg (nI_nlt (by omega) (by omega)), nI_clamp (by omega), nI_1]
      have hi := ih (j + 1) (by omega) (by omega)
      rw [show fm + (j + 1) = fm + j + 1 by omega] at hi
      have eF : FB us es evf fm x y (j + 1) = (F_s us es evf (fm + j) (m_X0_bookOrNone (FB us es evf fm x y j).2.1 (FB us es evf fm x y j).2.2) (FB us es evf fm x y j).1, B_s us es evf (fm + j) (FB us es evf fm x y j).2) := rfl
      rw [eF] at hi
      rcases he : es (fm + j) with _ | e
      · rw [F_none he, B_none he] at hi
        exact hi
      · show (if E_ki (evf e) = 3 then _ else if E_ki (evf e) = 4 then _ else _) = _
        rw [F_some he] at hi
        by_cases g3 : E_ki (evf e) = 3
        · rw [if_pos g3]
          rw [B_34 he (Or.inl g3)] at hi
          exact hi
        · rw [if_neg g3]
          by_cases g4 : E_ki (evf e) = 4
          · rw [if_pos g4]
            rw [B_34 he (Or.inr g4)] at hi
            exact hi
          · rw [if_neg g4]
            rw [B_some he g3 g4] at hi
            exact hi

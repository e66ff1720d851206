theorem wz (v lo hi : Int64) : m_X4_isWithin v lo hi = m_X5_isIn v lo hi := rfl
set_option maxHeartbeats 2000000 in
theorem ev_ok (c : MR) (T : TR) (i mm ki : Int32) (v : Int64) (n : Int32) : m_X4_isEvent ki v n = (if m_X5_isIn (Int32.toInt64 ki) 0 7 = 0 then 0 else f2_X5_event c T i mm ki v n 1 (f1_X5_event c T i mm ki v n 1)) := by
  have e1 : m_X5_isIn (Int32.toInt64 ki) 0 7 = if ki < 0 then 0 else if 7 < ki then 0 else 1 := wi_in ki 0 7
  have c7 : (7 : Int32).toInt = 7 := rfl
  unfold m_X4_isEvent f2_X5_event f1_X5_event
  rw [e1]
  rw [show m_X4_isWithin = m_X5_isIn from rfl]
  generalize m_X5_isIn v 1 1000000000 = x1
  generalize m_X5_isIn v 0 1000000000 = x2
  generalize m_X5_isIn (Int32.toInt64 n) 1 36 = x3
  generalize m_X5_isIn (Int32.toInt64 n) 1 1000000 = x4
  by_cases m0 : ki = 0
  · subst m0
    by_cases y1 : x1 = 0 <;> by_cases y2 : x2 = 0 <;> by_cases y3 : x3 = 0 <;> by_cases y4 : x4 = 0 <;> by_cases y5 : n = 0 <;> by_cases y6 : v = 0 <;> simp (decide := true) only [y1, y2, y3, y4, y5, y6, ↓reduceIte]
  rw [if_neg m0]
  by_cases m1 : ki = 1
  · subst m1
    by_cases y1 : x1 = 0 <;> by_cases y2 : x2 = 0 <;> by_cases y3 : x3 = 0 <;> by_cases y4 : x4 = 0 <;> by_cases y5 : n = 0 <;> by_cases y6 : v = 0 <;> simp (decide := true) only [y1, y2, y3, y4, y5, y6, ↓reduceIte]
  rw [if_neg m1]
  by_cases m2 : ki = 2
  · subst m2
    by_cases y1 : x1 = 0 <;> by_cases y2 : x2 = 0 <;> by_cases y3 : x3 = 0 <;> by_cases y4 : x4 = 0 <;> by_cases y5 : n = 0 <;> by_cases y6 : v = 0 <;> simp (decide := true) only [y1, y2, y3, y4, y5, y6, ↓reduceIte]
  rw [if_neg m2]
  by_cases m3 : ki = 3
  · subst m3
    by_cases y1 : x1 = 0 <;> by_cases y2 : x2 = 0 <;> by_cases y3 : x3 = 0 <;> by_cases y4 : x4 = 0 <;> by_cases y5 : n = 0 <;> by_cases y6 : v = 0 <;> simp (decide := true) only [y1, y2, y3, y4, y5, y6, ↓reduceIte]
  rw [if_neg m3]
  by_cases m4 : ki = 4
  · subst m4
    by_cases y1 : x1 = 0 <;> by_cases y2 : x2 = 0 <;> by_cases y3 : x3 = 0 <;> by_cases y4 : x4 = 0 <;> by_cases y5 : n = 0 <;> by_cases y6 : v = 0 <;> simp (decide := true) only [y1, y2, y3, y4, y5, y6, ↓reduceIte]
  rw [if_neg m4]
  by_cases m5 : ki = 5
  · subst m5
    by_cases y1 : x1 = 0 <;> by_cases y2 : x2 = 0 <;> by_cases y3 : x3 = 0 <;> by_cases y4 : x4 = 0 <;> by_cases y5 : n = 0 <;> by_cases y6 : v = 0 <;> simp (decide := true) only [y1, y2, y3, y4, y5, y6, ↓reduceIte]
  rw [if_neg m5]
  by_cases m6 : ki = 6
  · subst m6
    by_cases y1 : x1 = 0 <;> by_cases y2 : x2 = 0 <;> by_cases y3 : x3 = 0 <;> by_cases y4 : x4 = 0 <;> by_cases y5 : n = 0 <;> by_cases y6 : v = 0 <;> simp (decide := true) only [y1, y2, y3, y4, y5, y6, ↓reduceIte]
  rw [if_neg m6]
  by_cases m7 : ki = 7
  · subst m7
    by_cases y1 : x1 = 0 <;> by_cases y2 : x2 = 0 <;> by_cases y3 : x3 = 0 <;> by_cases y4 : x4 = 0 <;> by_cases y5 : n = 0 <;> by_cases y6 : v = 0 <;> simp (decide := true) only [y1, y2, y3, y4, y5, y6, ↓reduceIte]
  rw [if_neg m7]
  have hq : ∀ z : Int32, ¬ ki = z → ¬ ki.toInt = z.toInt := fun z h q => h (i32_eq q)
  have q0 := hq 0 m0
  have q1 := hq 1 m1
  have q2 := hq 2 m2
  have q3 := hq 3 m3
  have q4 := hq 4 m4
  have q5 := hq 5 m5
  have q6 := hq 6 m6
  have q7 := hq 7 m7
  rw [i32_0] at q0
  rw [i32_1] at q1
  rw [show (2 : Int32).toInt = 2 from rfl] at q2
  rw [show (3 : Int32).toInt = 3 from rfl] at q3
  rw [show (4 : Int32).toInt = 4 from rfl] at q4
  rw [show (5 : Int32).toInt = 5 from rfl] at q5
  rw [show (6 : Int32).toInt = 6 from rfl] at q6
  rw [c7] at q7
  by_cases y : ki < 0
  · rw [if_pos y, if_pos rfl]
  · have y2 := y
    rw [Int32.lt_iff_toInt_lt, i32_0] at y2
    have y3 : 7 < ki := by rw [Int32.lt_iff_toInt_lt, c7]; omega
    rw [if_neg y, if_pos y3, if_pos rfl]
set_option maxHeartbeats 2000000 in
/-- what a good event says -/
theorem ev_EV {ki : Int32} {v : Int64} {n : Int32} (h : ¬ m_X4_isEvent ki v n = 0) : EV ki v n := by
  unfold m_X4_isEvent at h
  rw [show m_X4_isWithin = m_X5_isIn from rfl] at h
  have bv : ∀ lo : Int64, 0 ≤ lo.toInt → ¬ m_X5_isIn v lo 1000000000 = 0 → 0 ≤ v.toInt ∧ v.toInt ≤ 1000000000 := fun lo hlo z => by
    obtain ⟨y1, y2⟩ := isIn_in z
    rw [Int64.le_iff_toInt_le] at y1 y2
    rw [show (1000000000 : Int64).toInt = 1000000000 from rfl] at y2
    omega
  have b0 : v = 0 → 0 ≤ v.toInt ∧ v.toInt ≤ 1000000000 := fun z => by rw [z, i64_0]; omega
  have bn : ∀ hi : Int64, ∀ H : Int, hi.toInt = H → ¬ m_X5_isIn (Int32.toInt64 n) 1 hi = 0 → 1 ≤ n.toInt ∧ n.toInt ≤ H := fun hi H hH z => by
    obtain ⟨y1, y2⟩ := isIn_in z
    rw [Int64.le_iff_toInt_le, Int32.toInt_toInt64] at y1 y2
    rw [i64_1] at y1
    rw [hH] at y2
    exact ⟨y1, y2⟩
  have fin : ∀ k : Int32, ki = k → (k = 0 ∨ k = 1 ∨ k = 2 ∨ k = 3 ∨ k = 4 ∨ k = 5 ∨ k = 6 ∨ k = 7) → (0 ≤ v.toInt ∧ v.toInt ≤ 1000000000) → (k = 1 → 1 ≤ n.toInt ∧ n.toInt ≤ 36) → (k = 5 → 1 ≤ n.toInt ∧ n.toInt ≤ 1000000) → EV ki v n := fun k hk a b c d => by rw [hk]; exact ⟨a, b, c, d⟩
  by_cases m0 : ki = 0
  · rw [if_pos m0] at h
    have y : ¬ m_X5_isIn v 1 1000000000 = 0 := fun z => by rw [if_pos z] at h; exact h rfl
    exact fin 0 m0 (by decide) (bv _ (by decide) y) (fun z => absurd z (by decide)) (fun z => absurd z (by decide))
  by_cases m1 : ki = 1
  · rw [if_neg m0, if_pos m1] at h
    have y : ¬ m_X5_isIn v 0 1000000000 = 0 := fun z => by rw [if_pos z] at h; exact h rfl
    rw [if_neg y] at h
    have y3 : ¬ m_X5_isIn (Int32.toInt64 n) 1 36 = 0 := fun z => by rw [if_pos z] at h; exact h rfl
    exact fin 1 m1 (by decide) (bv _ (by decide) y) (fun _ => bn _ _ rfl y3) (fun z => absurd z (by decide))
  by_cases m2 : ki = 2
  · rw [if_neg m0, if_neg m1, if_pos m2] at h
    have y : ¬ m_X5_isIn v 0 1000000000 = 0 := fun z => by rw [if_pos z] at h; exact h rfl
    exact fin 2 m2 (by decide) (bv _ (by decide) y) (fun z => absurd z (by decide)) (fun z => absurd z (by decide))
  by_cases m3 : ki = 3
  · rw [if_neg m0, if_neg m1, if_neg m2, if_pos m3] at h
    have y : ¬ m_X5_isIn v 0 1000000000 = 0 := fun z => by rw [if_pos z] at h; exact h rfl
    exact fin 3 m3 (by decide) (bv _ (by decide) y) (fun z => absurd z (by decide)) (fun z => absurd z (by decide))
  by_cases m4 : ki = 4
  · rw [if_neg m0, if_neg m1, if_neg m2, if_neg m3, if_pos m4] at h
    have y : ¬ m_X5_isIn v 0 1000000000 = 0 := fun z => by rw [if_pos z] at h; exact h rfl
    exact fin 4 m4 (by decide) (bv _ (by decide) y) (fun z => absurd z (by decide)) (fun z => absurd z (by decide))
  by_cases m5 : ki = 5
  · rw [if_neg m0, if_neg m1, if_neg m2, if_neg m3, if_neg m4, if_pos m5] at h
    have y : v = 0 := by
      by_cases z : v = 0
      · exact z
      · rw [if_neg z] at h; exact absurd rfl h
    rw [if_pos y] at h
    have y3 : ¬ m_X5_isIn (Int32.toInt64 n) 1 1000000 = 0 := fun z => by rw [if_pos z] at h; exact h rfl
    exact fin 5 m5 (by decide) (b0 y) (fun z => absurd z (by decide)) (fun _ => bn _ _ rfl y3)
  by_cases m6 : ki = 6
  · rw [if_neg m0, if_neg m1, if_neg m2, if_neg m3, if_neg m4, if_neg m5, if_pos m6] at h
    have y : v = 0 := by
      by_cases z : v = 0
      · exact z
      · rw [if_neg z] at h; exact absurd rfl h
    exact fin 6 m6 (by decide) (b0 y) (fun z => absurd z (by decide)) (fun z => absurd z (by decide))
  by_cases m7 : ki = 7
  · rw [if_neg m0, if_neg m1, if_neg m2, if_neg m3, if_neg m4, if_neg m5, if_neg m6, if_pos m7] at h
    have y : v = 0 := by
      by_cases z : v = 0
      · exact z
      · rw [if_neg z] at h; exact absurd rfl h
    exact fin 7 m7 (by decide) (b0 y) (fun z => absurd z (by decide)) (fun z => absurd z (by decide))
  rw [if_neg m0, if_neg m1, if_neg m2, if_neg m3, if_neg m4, if_neg m5, if_neg m6, if_neg m7] at h
  exact absurd rfl h
theorem fol_ev {pt : PR} {us : Nat → Int32} {es : Nat → Option Nat} {evf evf2 : Nat → ER} {fm : Nat} (h : P_fi pt = nI fm) (hf : fm ≤ 35) (he : ∀ k, k < 36 → ∀ x, es k = some x → evf2 x = evf x) (cf : CR) (tf : SR) (cb : CR) (tb : SR) : (m_X4_follow pt us es evf2 cf tf cb tb (nI 35)) = (m_X4_follow pt us es evf cf tf cb tb (nI 35)) := by
  rw [FO h cf tf cb tb (Nat.le_refl _) hf, FO h cf tf cb tb (Nat.le_refl _) hf]
  have key : ∀ j, fm + j ≤ 36 → FB us es evf2 fm (m_X0_open cf tf pt) (m_X0_open cb tb pt) j = FB us es evf fm (m_X0_open cf tf pt) (m_X0_open cb tb pt) j := by
    intro j
    induction j with
    | zero => intro _; rfl
    | succ j ih =>
      intro hj
      have e2 : ∀ ev : Nat → ER, FB us es ev fm (m_X0_open cf tf pt) (m_X0_open cb tb pt) (j + 1) = (F_s us es ev (fm + j) (m_X0_bookOrNone (FB us es ev fm (m_X0_open cf tf pt) (m_X0_open cb tb pt) j).2.1 (FB us es ev fm (m_X0_open cf tf pt) (m_X0_open cb tb pt) j).2.2) (FB us es ev fm (m_X0_open cf tf pt) (m_X0_open cb tb pt) j).1, B_s us es ev (fm + j) (FB us es ev fm (m_X0_open cf tf pt) (m_X0_open cb tb pt) j).2) := fun ev => rfl
      rw [e2, e2, ih (by omega)]
      generalize FB us es evf fm (m_X0_open cf tf pt) (m_X0_open cb tb pt) j = z
      rcases hes : es (fm + j) with _ | x
      · rw [F_none hes, F_none hes, B_none hes, B_none hes]
      · have hx := he (fm + j) (by omega) x hes
        rw [F_some hes, F_some hes, hx]
        by_cases g3 : E_ki (evf x) = 3
        · rw [B_34 hes (Or.inl g3), B_34 hes (Or.inl (by rw [hx]; exact g3))]
        · by_cases g4 : E_ki (evf x) = 4
          · rw [B_34 hes (Or.inr g4), B_34 hes (Or.inr (by rw [hx]; exact g4))]
          · rw [B_some hes g3 g4, B_some hes (by rw [hx]; exact g3) (by rw [hx]; exact g4), hx]
  rw [key (35 + 1 - fm) (by omega)]

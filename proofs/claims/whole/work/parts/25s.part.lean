theorem wi_in (x : Int32) (lo hi : Int32) : m_X5_isIn (Int32.toInt64 x) (Int32.toInt64 lo) (Int32.toInt64 hi) = if x < lo then 0 else if hi < x then 0 else 1 := by
  unfold m_X5_isIn
  by_cases g : x < lo
  · rw [if_pos g, if_pos (l_lt.mpr g)]
  · rw [if_neg g, if_neg (fun z => g (l_lt.mp z))]
    by_cases g2 : hi < x
    · rw [if_pos g2, if_pos (l_lt.mpr g2)]
    · rw [if_neg g2, if_neg (fun z => g2 (l_lt.mp z))]
theorem rate_eq (me ra : Int32) : m_X4_isRateOf me ra = (if m_X5_isIn (Int32.toInt64 me) 0 3 = 0 then 0 else if me = 1 then (if m_X5_isIn (Int32.toInt64 ra) 1 1000000 = 0 then 0 else 1) else if me = 3 then (if m_X5_isIn (Int32.toInt64 ra) 1 1000000 = 0 then 0 else 1) else if ra = 0 then 1 else 0) := by
  have e1 : m_X5_isIn (Int32.toInt64 me) 0 3 = if me < 0 then 0 else if 3 < me then 0 else 1 := wi_in me 0 3
  have hz : ∀ v lo hi : Int64, m_X4_isWithin v lo hi = if m_X5_isIn v lo hi = 0 then 0 else 1 := fun v lo hi => by
    rw [within_eq]
    rcases zb_m_X5_isIn v lo hi with q | q
    · rw [q]; rfl
    · rw [q]; rfl
  unfold m_X4_isRateOf
  rw [e1, hz]
  have c3 : (3 : Int32).toInt = 3 := rfl
  by_cases m0 : me = 0
  · subst m0
    rfl
  · rw [if_neg m0]
    by_cases m1 : me = 1
    · subst m1
      rfl
    · rw [if_neg m1]
      by_cases m2 : me = 2
      · subst m2
        rfl
      · rw [if_neg m2]
        by_cases m3 : me = 3
        · subst m3
          rfl
        · rw [if_neg m3]
          have q0 : ¬ me.toInt = 0 := fun z => m0 (i32_eq (by rw [z]; rfl))
          have q1 : ¬ me.toInt = 1 := fun z => m1 (i32_eq (by rw [z]; rfl))
          have q2 : ¬ me.toInt = 2 := fun z => m2 (i32_eq (by rw [z]; rfl))
          have q3 : ¬ me.toInt = 3 := fun z => m3 (i32_eq (by rw [z]; rfl))
          by_cases y : me < 0
          · rw [if_pos y]; rfl
          · have y2 := y
            rw [Int32.lt_iff_toInt_lt, i32_0] at y2
            have y3 : 3 < me := by rw [Int32.lt_iff_toInt_lt, c3]; omega
            rw [if_neg y, if_pos y3]
            rfl
theorem part_q (ar : AR) (pr er : Nat → Option Nat) (cf : CR) (tf : SR) (cb : CR) (tb : SR) (c : MR) (T : TR) (co rs : Int64) (mm li me ra : Int32) : (q_X4_part ar pr er cf tf cb tb co rs mm li me ra) = if f0_X5_part c T co rs mm li me ra = 0 then 1 else if A_pc ar < 6 then 0 else 2 := by
  unfold q_X4_part f0_X5_part
  rw [rate_eq, month_eq, within_eq, within_eq, within_eq]
  by_cases a1 : m_X5_isIn co 1 1000000000 = 0
  · simp only [a1, ↓reduceIte, ite_self]
  · by_cases a2 : m_X5_isIn rs 0 co = 0
    · simp only [a1, a2, ↓reduceIte, ite_self]
    · by_cases a3 : m_X5_isMonth mm = 0
      · simp only [a1, a2, a3, ↓reduceIte, ite_self]
      · by_cases a4 : m_X5_isIn (Int32.toInt64 li) 1 36 = 0
        · simp only [a1, a2, a3, a4, ↓reduceIte, ite_self]
        · simp only [a1, a2, a3, a4, ↓reduceIte]
theorem part_v {c : MR} {T : TR} {co rs : Int64} {mm li me ra : Int32} (h : ¬ f0_X5_part c T co rs mm li me ra = 0) : (1 ≤ co.toInt ∧ co.toInt ≤ 1000000000) ∧ (0 ≤ rs.toInt ∧ rs.toInt ≤ 1000000000) ∧ (∃ fm, fm < 36 ∧ mm = nI fm) ∧ (1 ≤ li.toInt ∧ li.toInt ≤ 36) ∧ (me = 0 ∨ me = 1 ∨ me = 2 ∨ me = 3) ∧ (0 ≤ ra.toInt ∧ ra.toInt ≤ 1000000) := by
  unfold f0_X5_part at h
  by_cases a1 : m_X5_isIn co 1 1000000000 = 0
  · rw [if_pos a1] at h; exact absurd rfl h
  rw [if_neg a1] at h
  by_cases a2 : m_X5_isIn rs 0 co = 0
  · rw [if_pos a2] at h; exact absurd rfl h
  rw [if_neg a2] at h
  by_cases a3 : m_X5_isMonth mm = 0
  · rw [if_pos a3] at h; exact absurd rfl h
  rw [if_neg a3] at h
  by_cases a4 : m_X5_isIn (Int32.toInt64 li) 1 36 = 0
  · rw [if_pos a4] at h; exact absurd rfl h
  rw [if_neg a4] at h
  by_cases a5 : m_X5_isIn (Int32.toInt64 me) 0 3 = 0
  · rw [if_pos a5] at h; exact absurd rfl h
  rw [if_neg a5] at h
  obtain ⟨b1, b2⟩ := isIn_in a1
  obtain ⟨b3, b4⟩ := isIn_in a2
  obtain ⟨b5, b6⟩ := isIn_in a4
  obtain ⟨b7, b8⟩ := isIn_in a5
  rw [Int64.le_iff_toInt_le] at b1 b2 b3 b4 b5 b6 b7 b8
  rw [Int32.toInt_toInt64] at b5 b6 b7 b8
  have n1 : (1 : Int64).toInt = 1 := rfl
  have n2 : (1000000000 : Int64).toInt = 1000000000 := rfl
  have n3 : (36 : Int64).toInt = 36 := rfl
  have n4 : (3 : Int64).toInt = 3 := rfl
  rw [n1] at b1 b5
  rw [n2] at b2
  rw [i64_0] at b3 b7
  rw [n3] at b6
  rw [n4] at b8
  have hra : 0 ≤ ra.toInt ∧ ra.toInt ≤ 1000000 := by
    have key : ¬ m_X5_isIn (Int32.toInt64 ra) 1 1000000 = 0 → 0 ≤ ra.toInt ∧ ra.toInt ≤ 1000000 := fun z => by
      obtain ⟨y1, y2⟩ := isIn_in z
      rw [Int64.le_iff_toInt_le, Int32.toInt_toInt64] at y1 y2
      rw [n1] at y1
      rw [i64_M] at y2
      omega
    by_cases e1 : me = 1
    · rw [if_pos e1] at h
      exact key (fun z => by rw [if_pos z] at h; exact h rfl)
    · rw [if_neg e1] at h
      by_cases e3 : me = 3
      · rw [if_pos e3] at h
        exact key (fun z => by rw [if_pos z] at h; exact h rfl)
      · rw [if_neg e3] at h
        by_cases e4 : ra = 0
        · rw [e4, i32_0]; omega
        · rw [if_neg e4] at h; exact absurd rfl h
  refine ⟨⟨b1, b2⟩, ⟨b3, by omega⟩, isMonth_in a3, ⟨b5, b6⟩, ?_, hra⟩
  have : me.toInt = 0 ∨ me.toInt = 1 ∨ me.toInt = 2 ∨ me.toInt = 3 := by omega
  rcases this with q | q | q | q
  · exact Or.inl (i32_eq (by rw [q]; rfl))
  · exact Or.inr (Or.inl (i32_eq (by rw [q]; rfl)))
  · exact Or.inr (Or.inr (Or.inl (i32_eq (by rw [q]; rfl))))
  · exact Or.inr (Or.inr (Or.inr (i32_eq (by rw [q]; rfl))))
theorem nb_none (us : Nat → Int32) (evf : Nat → ER) (last : Int32) : ∀ (n : Nat) (c1 : CR) (t1 : SR) (c2 : CR) (t2 : SR) (mm : Int32), C_br (m_X4_follow_l us (fun _ => none) evf last n c1 t1 c2 t2 mm).1 = C_br c1 := by
  intro n
  induction n with
  | zero => intro c1 t1 c2 t2 mm; rfl
  | succ n ih =>
    intro c1 t1 c2 t2 mm
    rw [m_X4_follow_l_s]
    refine zi_ite (P := fun (z : CR × SR × CR × SR) => C_br z.1 = C_br c1) (fun _ => rfl) (fun _ => ?_)
    exact (ih _ _ _ _ _).trans (br_charge ..)
theorem cnt_zero (f : Nat → Int32) (a : Nat) : ∀ n, (∀ i, i < n → ¬ f i = nI (a + 1)) → cntN f a n = 0 := by
  intro n
  induction n with
  | zero => intro _; rfl
  | succ n ih =>
    intro h
    show (if f n = nI (a + 1) then cntN f a n + 1 else cntN f a n) = 0
    rw [if_neg (h n (by omega))]
    exact ih (fun i hi => h i (by omega))
theorem tot_zero (f : Nat → Int64) (a : Nat) : ∀ n, (∀ i, i < n → f (36 * a + i) = 0) → totN f a n = 0 := by
  intro n
  induction n with
  | zero => intro _; rfl
  | succ n ih =>
    intro h
    show totN f a n + f (36 * a + n) = 0
    rw [h n (by omega), ih (fun i hi => h i (by omega))]
    rfl
theorem vpl_s {f : Nat → Int64} {k : Nat} {x : Int64} : vp_updL f k x k = x := by unfold vp_updL; rw [if_pos rfl]
theorem vpl_n {f : Nat → Int64} {k j : Nat} {x : Int64} (h : j ≠ k) : vp_updL f k x j = f j := by unfold vp_updL; rw [if_neg h]

theorem i32_nat {x : Int32} (h : 0 ≤ x.toInt) : x = nI x.toInt.toNat := i32_eq (by rw [nI_toInt (by have := x.toInt_lt; omega)]; omega)
set_option maxHeartbeats 2000000 in
/-- the charges of a stretch, together: methods 0 and 2 -/
theorem tg_02 {me ra : Int32} {c : CR} {t : SR} {m : MR} {T : TR} {p us : Int32} {ju : Int} (h : RS me ra c t m) (s : NS me ju m) (hM : T_me T (Int32.toNatClampNeg p) = me) (hme : me = 0 ∨ me = 2) (hli : 0 < (M_li m).toInt) : (m_X3_chargesTogether (S_mk (S_ba t) (S_le t) (S_ul t) (S_mo t + 1) (S_un t + Int32.toInt64 us) (S_ch t)) me) = (m_X5_together (M_mk (M_cd m) (M_pt m) (M_mn m) (M_ev m) (M_co m) (M_al m) (M_re m) (M_lo m) (M_rs m) (M_li m - 1) (M_he m) (M_go m) (M_sp m) (M_ba m) (M_le m) (M_lf m) (M_mo m + 1) (M_un m) (M_ch m) 0 (M_ac m) (M_bd m)) T p) ∧ 0 ≤ (m_X5_together (M_mk (M_cd m) (M_pt m) (M_mn m) (M_ev m) (M_co m) (M_al m) (M_re m) (M_lo m) (M_rs m) (M_li m - 1) (M_he m) (M_go m) (M_sp m) (M_ba m) (M_le m) (M_lf m) (M_mo m + 1) (M_un m) (M_ch m) 0 (M_ac m) (M_bd m)) T p).toInt ∧ (m_X5_together (M_mk (M_cd m) (M_pt m) (M_mn m) (M_ev m) (M_co m) (M_al m) (M_re m) (M_lo m) (M_rs m) (M_li m - 1) (M_he m) (M_go m) (M_sp m) (M_ba m) (M_le m) (M_lf m) (M_mo m + 1) (M_un m) (M_ch m) 0 (M_ac m) (M_bd m)) T p).toInt ≤ (M_ba m).toInt := by
  obtain ⟨-, ⟨h1, h2⟩, h3, -⟩ := h
  obtain ⟨h3, h4⟩ := h3 (by rcases hme with e | e <;> rw [e] <;> decide)
  obtain ⟨⟨s1, s2⟩, -, ⟨s3, s4, s5⟩, -⟩ := s
  have hle : 0 < (Int32.toInt64 (M_le m)).toInt ∧ (Int32.toInt64 (M_le m)).toInt ≤ 36 := by rw [Int32.toInt_toInt64]; omega
  have emo : S_mo t + 1 = Int32.toInt64 (M_mo m + 1) := by rw [l_add (by rw [i32_1]; omega) (by rw [i32_1]; omega), h3, l_1]
  have emi : (M_mo m + 1).toInt = (M_mo m).toInt + 1 := by rw [i32_add, i32_1] <;> rw [i32_1] <;> omega
  rcases hme with e | e
  · subst e
    unfold m_X3_chargesTogether m_X5_together
    rw [if_pos rfl, if_pos hM, S_ba_mk, S_mo_mk, S_le_mk, M_ba_mk, M_mo_mk, M_le_mk, h1, h2, emo, rd_eq hle.1]
    have ek : (M_ba m * Int32.toInt64 (M_mo m + 1)).toInt = (M_ba m).toInt * ((M_mo m).toInt + 1) ∧ (M_ba m).toInt * ((M_mo m).toInt + 1) ≤ 4000000000000000000 := by
      have q1 : (M_ba m).toInt * ((M_mo m).toInt + 1) ≤ (M_ba m).toInt * 37 := Int.mul_le_mul_of_nonneg_left (by omega) s1
      have q0 : 0 ≤ (M_ba m).toInt * ((M_mo m).toInt + 1) := Int.mul_nonneg s1 (by omega)
      refine ⟨?_, by omega⟩
      rw [i64_mul, Int32.toInt_toInt64, emi] <;> rw [Int32.toInt_toInt64, emi] <;> omega
    exact ⟨rfl, rd_part (k := (M_mo m).toInt + 1) (by omega) s1 ek.1 ek.2 hle.1 (by omega) (by rw [Int32.toInt_toInt64]; omega)⟩
  · subst e
    obtain ⟨d1, d2, d3, d4⟩ := dig_eq (M_le m).toInt.toNat (by omega) (M_mo m + 1).toInt.toNat (by omega)
    have ele : nI (M_le m).toInt.toNat = M_le m := (i32_nat (by omega)).symm
    have emq : nI (M_mo m + 1).toInt.toNat = M_mo m + 1 := (i32_nat (by omega)).symm
    rw [ele, emq] at d1 d4
    rw [ele] at d2 d3
    obtain ⟨d5, d6⟩ := d3 (by omega)
    obtain ⟨d7, d8⟩ := d4 (by omega)
    unfold m_X3_chargesTogether m_X5_together
    rw [if_neg (by decide), if_pos rfl, hM, if_neg (by decide), if_pos rfl, S_ba_mk, S_mo_mk, S_le_mk, M_ba_mk, M_mo_mk, M_le_mk, h1, h2, emo, d1, d2]
    generalize ((Int32.toInt64 (M_le m) * Int32.toInt64 (M_le m + 1)) / 2 : Int64) = Y at *
    generalize (Int32.toInt64 (M_mo m + 1) * Int32.toInt64 (M_le m) - Int32.toInt64 (M_mo m + 1) * Int32.toInt64 (M_mo m + 1 - 1) / 2 : Int64) = K at *
    rw [rd_eq d5]
    have ek : (M_ba m * K).toInt = (M_ba m).toInt * K.toInt ∧ (M_ba m).toInt * K.toInt ≤ 4000000000000000000 := by
      have q1 : (M_ba m).toInt * K.toInt ≤ (M_ba m).toInt * 666 := Int.mul_le_mul_of_nonneg_left (by omega) s1
      have q0 : 0 ≤ (M_ba m).toInt * K.toInt := Int.mul_nonneg s1 d7
      exact ⟨i64_mul (by omega) (by omega), by omega⟩
    exact ⟨rfl, rd_part (k := K.toInt) d7 s1 ek.1 ek.2 d5 (by omega) d8⟩
set_option maxHeartbeats 2000000 in
/-- the charges of a stretch, together: method 3 -/
theorem tg_3 {ra : Int32} {c : CR} {t : SR} {m : MR} {T : TR} {p us : Int32} {ju : Int} (h : RS 3 ra c t m) (s : NS 3 ju m) (hM : T_me T (Int32.toNatClampNeg p) = 3) (hu : ju ≤ 36) (hus : 0 ≤ us.toInt ∧ us.toInt ≤ 1000000) : (m_X3_chargesTogether (S_mk (S_ba t) (S_le t) (S_ul t) (S_mo t + 1) (S_un t + Int32.toInt64 us) (S_ch t)) 3) = (m_X5_together (M_mk (M_cd m) (M_pt m) (M_mn m) (M_ev m) (M_co m) (M_al m) (M_re m) (M_lo m) (M_rs m) (M_li m - 1) (M_he m) (M_go m) (M_sp m + us) (M_ba m) (M_le m) (M_lf m) (M_mo m + 1) (M_un m + us) (M_ch m) 0 (M_ac m) (M_bd m)) T p) ∧ 0 ≤ (m_X5_together (M_mk (M_cd m) (M_pt m) (M_mn m) (M_ev m) (M_co m) (M_al m) (M_re m) (M_lo m) (M_rs m) (M_li m - 1) (M_he m) (M_go m) (M_sp m + us) (M_ba m) (M_le m) (M_lf m) (M_mo m + 1) (M_un m + us) (M_ch m) 0 (M_ac m) (M_bd m)) T p).toInt ∧ (m_X5_together (M_mk (M_cd m) (M_pt m) (M_mn m) (M_ev m) (M_co m) (M_al m) (M_re m) (M_lo m) (M_rs m) (M_li m - 1) (M_he m) (M_go m) (M_sp m + us) (M_ba m) (M_le m) (M_lf m) (M_mo m + 1) (M_un m + us) (M_ch m) 0 (M_ac m) (M_bd m)) T p).toInt ≤ (M_ba m).toInt := by
  obtain ⟨-, ⟨h1, h2⟩, h3, h4⟩ := h
  obtain ⟨h5, h6⟩ := h4 rfl
  obtain ⟨⟨s1, s2⟩, -, -, ⟨s6, s7⟩, ⟨s8, s9⟩⟩ := s
  have eun : S_un t + Int32.toInt64 us = Int32.toInt64 (M_un m + us) := by rw [l_add (by omega) (by omega), h6]
  have eui : (M_un m + us).toInt = (M_un m).toInt + us.toInt := i32_add (by omega) (by omega)
  unfold m_X3_chargesTogether m_X5_together
  have h30 : ¬ (3 : Int32) = 0 := by decide
  have h32 : ¬ (3 : Int32) = 2 := by decide
  rw [if_neg h30, if_neg h32, hM, if_neg h30, if_neg h32, S_ba_mk, S_ul_mk, S_un_mk, M_ba_mk, M_lf_mk, M_un_mk, h1, h5, eun]
  by_cases z : M_lf m = 0
  · rw [if_pos (by rw [z]; rfl)]
    simp only [z, ↓reduceIte, ite_self]
    exact ⟨trivial, s1, Int.le_refl _⟩
  · rw [if_neg (by rw [← l_0, l_inj]; exact z)]
    have hl := i32_pos s8 z
    have hL : 0 < (Int32.toInt64 (M_lf m)).toInt ∧ (Int32.toInt64 (M_lf m)).toInt ≤ 1000000 := by rw [Int32.toInt_toInt64]; omega
    have ej : jmin (Int32.toInt64 (M_un m + us)) (Int32.toInt64 (M_lf m)) = if M_lf m ≤ (M_un m + us) then Int32.toInt64 (M_lf m) else Int32.toInt64 (M_un m + us) := by
      unfold jmin
      by_cases g : M_lf m < (M_un m + us)
      · rw [if_pos (l_lt.mpr g), if_pos (by rw [Int32.lt_iff_toInt_lt] at g; rw [Int32.le_iff_toInt_le]; omega)]
      · rw [if_neg (fun q => g (l_lt.mp q))]
        by_cases g2 : M_lf m ≤ (M_un m + us)
        · rw [if_pos g2, l_inj]
          rw [Int32.lt_iff_toInt_lt] at g
          rw [Int32.le_iff_toInt_le] at g2
          exact i32_eq (by omega)
        · rw [if_neg g2]
    rw [ej, rd_eq hL.1]
    have part : ∀ x : Int32, 0 ≤ x.toInt → x.toInt ≤ (M_lf m).toInt → 0 ≤ (m_X5_rounded (M_ba m * Int32.toInt64 x) (Int32.toInt64 (M_lf m))).toInt ∧ (m_X5_rounded (M_ba m * Int32.toInt64 x) (Int32.toInt64 (M_lf m))).toInt ≤ (M_ba m).toInt := fun x hx0 hx1 => by
      have q1 : (M_ba m).toInt * x.toInt ≤ (M_ba m).toInt * 1000000 := Int.mul_le_mul_of_nonneg_left (by omega) s1
      have q0 : 0 ≤ (M_ba m).toInt * x.toInt := Int.mul_nonneg s1 hx0
      have ek : (M_ba m * Int32.toInt64 x).toInt = (M_ba m).toInt * x.toInt := by rw [i64_mul, Int32.toInt_toInt64] <;> rw [Int32.toInt_toInt64] <;> omega
      exact rd_part (k := x.toInt) hx0 s1 ek (by omega) hL.1 (by omega) (by rw [Int32.toInt_toInt64]; exact hx1)
    by_cases g : M_lf m ≤ (M_un m + us)
    · simp only [g, z, ↓reduceIte]
      exact ⟨trivial, part _ s8 (Int.le_refl _)⟩
    · simp only [g, z, ↓reduceIte]
      rw [Int32.le_iff_toInt_le] at g
      exact ⟨trivial, part _ (by omega) (by omega)⟩

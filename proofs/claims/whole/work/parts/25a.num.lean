/-! numbers: longs that don't overflow, and the two ways of rounding -/
theorem i64_add {a b : Int64} (h1 : -9223372036854775808 ≤ a.toInt + b.toInt) (h2 : a.toInt + b.toInt < 9223372036854775808) : (a + b).toInt = a.toInt + b.toInt := by
  rw [Int64.toInt_add, Int.bmod_def]
  omega
theorem i64_sub {a b : Int64} (h1 : -9223372036854775808 ≤ a.toInt - b.toInt) (h2 : a.toInt - b.toInt < 9223372036854775808) : (a - b).toInt = a.toInt - b.toInt := by
  rw [Int64.toInt_sub, Int.bmod_def]
  omega
theorem i64_mul {a b : Int64} (h1 : -9223372036854775808 ≤ a.toInt * b.toInt) (h2 : a.toInt * b.toInt < 9223372036854775808) : (a * b).toInt = a.toInt * b.toInt := by
  rw [Int64.toInt_mul, Int.bmod_def]
  generalize a.toInt * b.toInt = z at *
  omega
theorem i64_div {a b : Int64} (ha : 0 ≤ a.toInt) (hb : 0 < b.toInt) : (a / b).toInt = a.toInt / b.toInt := by
  have hne : b ≠ -1 := fun e => by
    rw [e] at hb
    have h1 : (-1 : Int64).toInt = -1 := rfl
    omega
  rw [Int64.toInt_div_of_ne_right _ _ hne, Int.tdiv_eq_ediv_of_nonneg ha]
theorem i32_add {a b : Int32} (h1 : -2147483648 ≤ a.toInt + b.toInt) (h2 : a.toInt + b.toInt < 2147483648) : (a + b).toInt = a.toInt + b.toInt := by
  rw [Int32.toInt_add, Int.bmod_def]
  omega
theorem i32_sub {a b : Int32} (h1 : -2147483648 ≤ a.toInt - b.toInt) (h2 : a.toInt - b.toInt < 2147483648) : (a - b).toInt = a.toInt - b.toInt := by
  rw [Int32.toInt_sub, Int.bmod_def]
  omega
theorem i64_eq {a b : Int64} (h : a.toInt = b.toInt) : a = b := Int64.toInt_inj.mp h
theorem i32_eq {a b : Int32} (h : a.toInt = b.toInt) : a = b := Int32.toInt_inj.mp h
theorem i64_0 : (0 : Int64).toInt = 0 := rfl
theorem i64_1 : (1 : Int64).toInt = 1 := rfl
theorem i64_2 : (2 : Int64).toInt = 2 := rfl
theorem i64_M : (1000000 : Int64).toInt = 1000000 := rfl
theorem i64_m1 : (-1 : Int64).toInt = -1 := rfl
theorem i32_0 : (0 : Int32).toInt = 0 := rfl
theorem i32_1 : (1 : Int32).toInt = 1 := rfl
theorem i32_M : (1000000 : Int32).toInt = 1000000 := rfl
theorem i32_36 : (36 : Int32).toInt = 36 := rfl
/-- an int's sum, taken in longs -/
theorem l_add {a b : Int32} (h1 : -2147483648 ≤ a.toInt + b.toInt) (h2 : a.toInt + b.toInt < 2147483648) : Int32.toInt64 (a + b) = Int32.toInt64 a + Int32.toInt64 b := by
  apply i64_eq
  rw [Int32.toInt_toInt64, i32_add h1 h2, i64_add, Int32.toInt_toInt64, Int32.toInt_toInt64] <;> rw [Int32.toInt_toInt64, Int32.toInt_toInt64] <;> omega
theorem l_sub {a b : Int32} (h1 : -2147483648 ≤ a.toInt - b.toInt) (h2 : a.toInt - b.toInt < 2147483648) : Int32.toInt64 (a - b) = Int32.toInt64 a - Int32.toInt64 b := by
  apply i64_eq
  rw [Int32.toInt_toInt64, i32_sub h1 h2, i64_sub, Int32.toInt_toInt64, Int32.toInt_toInt64] <;> rw [Int32.toInt_toInt64, Int32.toInt_toInt64] <;> omega
theorem l_inj {a b : Int32} : Int32.toInt64 a = Int32.toInt64 b ↔ a = b := by
  constructor
  · intro h
    apply i32_eq
    rw [← Int32.toInt_toInt64, h, Int32.toInt_toInt64]
  · intro h
    rw [h]
theorem l_lt {a b : Int32} : Int32.toInt64 a < Int32.toInt64 b ↔ a < b := by
  rw [Int64.lt_iff_toInt_lt, Int32.lt_iff_toInt_lt, Int32.toInt_toInt64, Int32.toInt_toInt64]
theorem l_0 : Int32.toInt64 0 = 0 := rfl
theorem l_1 : Int32.toInt64 1 = 1 := rfl
theorem rd_eq {x y : Int64} (h : 0 < y.toInt) : m_X4_rounded x y = m_X5_rounded x y := by
  unfold m_X4_rounded m_X5_rounded
  rw [if_neg (by rw [Int64.le_iff_toInt_le, i64_0]; omega)]
/-- rounded, in whole numbers -/
theorem rd_int {x y : Int64} (hx : 0 ≤ x.toInt) (hx2 : x.toInt ≤ 4000000000000000000) (hy : 0 < y.toInt) (hy2 : y.toInt ≤ 1000000000000) : (m_X5_rounded x y).toInt = (2 * x.toInt + y.toInt) / (2 * y.toInt) := by
  unfold m_X5_rounded
  have e1 : (2 * x : Int64).toInt = 2 * x.toInt := by rw [i64_mul, i64_2] <;> rw [i64_2] <;> omega
  have e2 : (2 * y : Int64).toInt = 2 * y.toInt := by rw [i64_mul, i64_2] <;> rw [i64_2] <;> omega
  have e3 : (2 * x + y : Int64).toInt = 2 * x.toInt + y.toInt := by rw [i64_add, e1] <;> rw [e1] <;> omega
  rw [i64_div (by rw [e3]; omega) (by rw [e2]; omega), e3, e2]
/-- base * k / n, rounded, with k at most n, lies in 0 .. base -/
theorem rd_part {x y b : Int64} {k : Int} (hk0 : 0 ≤ k) (hb : 0 ≤ b.toInt) (hx : x.toInt = b.toInt * k) (hx2 : b.toInt * k ≤ 4000000000000000000) (hy : 0 < y.toInt) (hy2 : y.toInt ≤ 1000000000000) (hk : k ≤ y.toInt) : 0 ≤ (m_X5_rounded x y).toInt ∧ (m_X5_rounded x y).toInt ≤ b.toInt := by
  have h0 : 0 ≤ b.toInt * k := Int.mul_nonneg hb hk0
  rw [rd_int (by rw [hx]; exact h0) (by rw [hx]; exact hx2) hy hy2, hx]
  have h1 : b.toInt * k ≤ b.toInt * y.toInt := Int.mul_le_mul_of_nonneg_left hk hb
  constructor
  · exact Int.ediv_nonneg (by omega) (by omega)
  · refine Int.lt_add_one_iff.mp (Int.ediv_lt_of_lt_mul (by omega) ?_)
    have h2 : (b.toInt + 1) * (2 * y.toInt) = 2 * (b.toInt * y.toInt) + 2 * y.toInt := by
      rw [Int.add_mul, Int.mul_left_comm, Int.one_mul]
    rw [h2]
    generalize b.toInt * y.toInt = B at *
    generalize b.toInt * k = D at *
    omega
/-- x less its n millionths -/
theorem less_int {x : Int64} {n : Int32} (hx : 0 ≤ x.toInt) (hx2 : x.toInt ≤ 100000000000) (hn : 0 ≤ n.toInt) (hn2 : n.toInt ≤ 1000000) : (m_X5_less x n).toInt = x.toInt - (2 * (x.toInt * n.toInt) + 1000000) / 2000000 ∧ 0 ≤ x.toInt * n.toInt ∧ x.toInt * n.toInt ≤ x.toInt * 1000000 := by
  have p0 : 0 ≤ x.toInt * n.toInt := Int.mul_nonneg hx hn
  have p1 : x.toInt * n.toInt ≤ x.toInt * 1000000 := Int.mul_le_mul_of_nonneg_left hn2 hx
  refine ⟨?_, p0, p1⟩
  unfold m_X5_less
  have e1 : (x * Int32.toInt64 n).toInt = x.toInt * n.toInt := by rw [i64_mul, Int32.toInt_toInt64] <;> rw [Int32.toInt_toInt64] <;> omega
  have e2 : (m_X5_rounded (x * Int32.toInt64 n) 1000000).toInt = (2 * (x.toInt * n.toInt) + 1000000) / 2000000 := by
    rw [rd_int (by rw [e1]; exact p0) (by rw [e1]; omega) (by rw [i64_M]; omega) (by rw [i64_M]; omega), e1, i64_M]
    rfl
  rw [i64_sub, e2] <;> rw [e2] <;> omega
theorem less_mono {x z : Int64} {n : Int32} (hx : 0 ≤ x.toInt) (hxz : x.toInt ≤ z.toInt) (hz : z.toInt ≤ 100000000000) (hn : 0 ≤ n.toInt) (hn2 : n.toInt ≤ 1000000) : 0 ≤ (m_X5_less x n).toInt ∧ (m_X5_less x n).toInt ≤ (m_X5_less z n).toInt ∧ (m_X5_less z n).toInt ≤ z.toInt := by
  obtain ⟨a1, a2, a3⟩ := less_int hx (by omega) hn hn2
  obtain ⟨b1, b2, b3⟩ := less_int (x := z) (by omega) hz hn hn2
  rw [a1, b1]
  have h1 : (z.toInt - x.toInt) * n.toInt ≤ (z.toInt - x.toInt) * 1000000 := Int.mul_le_mul_of_nonneg_left hn2 (by omega)
  have h2 : (z.toInt - x.toInt) * n.toInt = z.toInt * n.toInt - x.toInt * n.toInt := Int.sub_mul ..
  have h3 : 0 ≤ (z.toInt - x.toInt) * n.toInt := Int.mul_nonneg (by omega) hn
  generalize x.toInt * n.toInt = A at *
  generalize z.toInt * n.toInt = B at *
  generalize (z.toInt - x.toInt) * n.toInt = D at *
  omega
/-- the digits' sums, both ways -/
theorem dig_eq : ∀ a : Nat, a < 37 → ∀ k : Nat, k < 38 → m_X3_sumUpTo (Int32.toInt64 (nI a)) - m_X3_sumUpTo (Int32.toInt64 (nI a) - Int32.toInt64 (nI k)) = (Int32.toInt64 (nI k) * Int32.toInt64 (nI a)) - ((Int32.toInt64 (nI k) * Int32.toInt64 (nI k - 1)) / 2) ∧ m_X3_sumUpTo (Int32.toInt64 (nI a)) = (Int32.toInt64 (nI a) * Int32.toInt64 (nI a + 1)) / 2 ∧ (1 ≤ a → 0 < ((Int32.toInt64 (nI a) * Int32.toInt64 (nI a + 1)) / 2 : Int64).toInt ∧ ((Int32.toInt64 (nI a) * Int32.toInt64 (nI a + 1)) / 2 : Int64).toInt ≤ 666) ∧ (k ≤ a → 0 ≤ ((Int32.toInt64 (nI k) * Int32.toInt64 (nI a)) - ((Int32.toInt64 (nI k) * Int32.toInt64 (nI k - 1)) / 2) : Int64).toInt ∧ ((Int32.toInt64 (nI k) * Int32.toInt64 (nI a)) - ((Int32.toInt64 (nI k) * Int32.toInt64 (nI k - 1)) / 2) : Int64).toInt ≤ ((Int32.toInt64 (nI a) * Int32.toInt64 (nI a + 1)) / 2 : Int64).toInt) := by decide +kernel

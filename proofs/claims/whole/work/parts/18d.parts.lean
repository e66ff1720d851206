def m_X4_months (ar : AR) (pr : (Nat → Option Nat)) (er : (Nat → Option Nat)) (cf : CR) (tf : SR) (cb : CR) (tb : SR) : Int32 :=
  (A_mc ar)
set_option maxRecDepth 100000 in
set_option maxHeartbeats 2000000 in
theorem c_X4_months (l : Launch) (G : pw_G) (L : List Nat) (F : Nat → va_E) (x : Nat) (rf : Nat → Nat) (ar : AR) (pr er : Nat → Option Nat) (cf : CR) (tf : SR) (cb : CR) (tb : SR) : PM l yX4_months wsX4_months ⟨0, 0, 0, 0⟩ G [.ref x] (aX G x rf ar pr er cf tf cb tb) L F 0 0 (po_d (some (.int (m_X4_months ar pr er cf tf cb tb))) (aX G x rf ar pr er cf tf cb tb) L F) := by
  refine pm_entry (by decide) rfl rfl (Nat.le_of_ble_eq_true rfl) ?_
  intro Z Q C hl0 hG0 hnm hE
  subst hl0
  subst hG0
  have i4_ : ∀ w ∈ wsX40, w ∈ wsX4_months := by decide +kernel
  have w0_ : Cond.fieldLink RX4 162 "AgedAssets" "monthCount" "I" ∈ wsX4_months := by decide +kernel
  show PW Z (aX (zG Z) x rf ar pr er cf tf cb tb) L F 0 0 Q 0 [(0, .ref x)] []
  refine pk_aload_n C 0 dX4_months_0 rfl rfl (pc2 := 1) rfl ?_
  refine pk_get (v := .int (A_mc ar)) C i4_ (pw_atX 0 rfl) (ci := 4) rfl 6 (by decide) w0_ rfl rfl dX4_months_1 (pc2 := 4) rfl ?_
  exact pr_int (ty := .int) C hE rfl rfl (po_d_rfl (by first | with_reducible rfl | (unfold m_X4_months; with_reducible rfl)) (by first | with_reducible rfl | (unfold m_X4_months; with_reducible rfl))) dX4_months_4
def m_X4_parts (ar : AR) (pr : (Nat → Option Nat)) (er : (Nat → Option Nat)) (cf : CR) (tf : SR) (cb : CR) (tb : SR) : Int32 :=
  (A_pc ar)
set_option maxRecDepth 100000 in
set_option maxHeartbeats 2000000 in
theorem c_X4_parts (l : Launch) (G : pw_G) (L : List Nat) (F : Nat → va_E) (x : Nat) (rf : Nat → Nat) (ar : AR) (pr er : Nat → Option Nat) (cf : CR) (tf : SR) (cb : CR) (tb : SR) : PM l yX4_parts wsX4_parts ⟨0, 0, 0, 0⟩ G [.ref x] (aX G x rf ar pr er cf tf cb tb) L F 0 0 (po_d (some (.int (m_X4_parts ar pr er cf tf cb tb))) (aX G x rf ar pr er cf tf cb tb) L F) := by
  refine pm_entry (by decide) rfl rfl (Nat.le_of_ble_eq_true rfl) ?_
  intro Z Q C hl0 hG0 hnm hE
  subst hl0
  subst hG0
  have i4_ : ∀ w ∈ wsX40, w ∈ wsX4_parts := by decide +kernel
  have w0_ : Cond.fieldLink RX4 54 "AgedAssets" "partCount" "I" ∈ wsX4_parts := by decide +kernel
  show PW Z (aX (zG Z) x rf ar pr er cf tf cb tb) L F 0 0 Q 0 [(0, .ref x)] []
  refine pk_aload_n C 0 dX4_parts_0 rfl rfl (pc2 := 1) rfl ?_
  refine pk_get (v := .int (A_pc ar)) C i4_ (pw_atX 0 rfl) (ci := 4) rfl 4 (by decide) w0_ rfl rfl dX4_parts_1 (pc2 := 4) rfl ?_
  exact pr_int (ty := .int) C hE rfl rfl (po_d_rfl (by first | with_reducible rfl | (unfold m_X4_parts; with_reducible rfl)) (by first | with_reducible rfl | (unfold m_X4_parts; with_reducible rfl))) dX4_parts_4

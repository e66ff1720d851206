theorem br_lose (c : CR) (t : SR) (x : Int64) : C_br (m_X0_lose c t x) = C_br c := by unfold m_X0_lose; exact C_br_mk ..
theorem br_impair (c : CR) (t : SR) (x : Int64) : C_br (m_X0_impair c t x) = C_br c := by
  unfold m_X0_impair
  rw [C_br_mk]
  exact br_lose c t x
theorem br_restore (c : CR) (t : SR) (x : Int64) : C_br (m_X0_restore c t x) = C_br c := by unfold m_X0_restore; exact C_br_mk ..
theorem br_revalue (c : CR) (t : SR) (x : Int64) : C_br (m_X0_revalue c t x) = C_br c := by
  unfold m_X0_revalue
  refine zi_ite (P := fun (z : CR) => C_br z = C_br c) (fun _ => ?_) (fun _ => ?_)
  · rw [C_br_mk]
    exact br_lose c t _
  · exact C_br_mk ..
theorem br_sell (c : CR) (t : SR) (x : Int32) : C_br (m_X0_sell c t x) = C_br c := by
  unfold m_X0_sell
  exact zi_ite (P := fun (z : CR) => C_br z = C_br c) (fun _ => C_br_mk ..) (fun _ => C_br_mk ..)
theorem br_apply (c : CR) (t : SR) (ev : ER) : C_br (m_X0_apply c t ev) = C_br c := by
  unfold m_X0_apply
  refine zi_ite (P := fun (z : CR) => C_br z = C_br c) (fun _ => C_br_mk ..) (fun _ => ?_)
  refine zi_ite (P := fun (z : CR) => C_br z = C_br c) (fun _ => C_br_mk ..) (fun _ => ?_)
  refine zi_ite (P := fun (z : CR) => C_br z = C_br c) (fun _ => br_revalue ..) (fun _ => ?_)
  refine zi_ite (P := fun (z : CR) => C_br z = C_br c) (fun _ => br_impair ..) (fun _ => ?_)
  refine zi_ite (P := fun (z : CR) => C_br z = C_br c) (fun _ => br_restore ..) (fun _ => ?_)
  refine zi_ite (P := fun (z : CR) => C_br z = C_br c) (fun _ => br_sell ..) (fun _ => ?_)
  exact zi_ite (P := fun (z : CR) => C_br z = C_br c) (fun _ => C_br_mk ..) (fun _ => C_br_mk ..)
theorem br_meet (c : CR) (t : SR) (ev : ER) (mr : Int64) : C_br (m_X0_meet c t ev mr).1 = 1 ∨ C_br (m_X0_meet c t ev mr).1 = C_br c := by
  unfold m_X0_meet
  refine zi_ite (P := fun (z : CR × SR) => C_br z.1 = 1 ∨ C_br z.1 = C_br c) (fun _ => ?_) (fun _ => Or.inl (C_br_mk ..))
  refine zi_ite (P := fun (z : CR × SR) => C_br z.1 = 1 ∨ C_br z.1 = C_br c) (fun _ => Or.inr (br_apply ..)) (fun _ => ?_)
  exact zi_ite (P := fun (z : CR × SR) => C_br z.1 = 1 ∨ C_br z.1 = C_br c) (fun _ => Or.inr (br_apply ..)) (fun _ => Or.inr (br_apply ..))
theorem br_charge (c : CR) (t : SR) (us : Int32) : C_br (m_X0_chargeMonth c t us).1 = C_br c := by
  unfold m_X0_chargeMonth
  refine zi_ite (P := fun (z : CR × SR) => C_br z.1 = C_br c) (fun _ => ?_) (fun _ => C_br_mk ..)
  refine zi_ite (P := fun (z : CR × SR) => C_br z.1 = C_br c) (fun _ => ?_) (fun _ => C_br_mk ..)
  refine zi_ite (P := fun (z : CR × SR) => C_br z.1 = C_br c) (fun _ => C_br_mk ..) (fun _ => ?_)
  exact zi_ite (P := fun (z : CR × SR) => C_br z.1 = C_br c) (fun _ => C_br_mk ..) (fun _ => C_br_mk ..)
theorem hb_follow_l (us : Nat → Int32) (es : Nat → Option Nat) (evf : Nat → ER) (last : Int32) : ∀ (n : Nat) (c1 : CR) (t1 : SR) (c2 : CR) (t2 : SR) (mm : Int32), C_br c1 = 0 ∨ C_br c1 = 1 → C_br (m_X4_follow_l us es evf last n c1 t1 c2 t2 mm).1 = 0 ∨ C_br (m_X4_follow_l us es evf last n c1 t1 c2 t2 mm).1 = 1 := by
  have hc : ∀ (c : CR) (t : SR) (us : Int32), C_br c = 0 ∨ C_br c = 1 → C_br (m_X0_chargeMonth c t us).1 = 0 ∨ C_br (m_X0_chargeMonth c t us).1 = 1 := fun c t us h => by rw [br_charge]; exact h
  have hm : ∀ (c : CR) (t : SR) (ev : ER) (mr : Int64), C_br c = 0 ∨ C_br c = 1 → C_br (m_X0_meet c t ev mr).1 = 0 ∨ C_br (m_X0_meet c t ev mr).1 = 1 := fun c t ev mr h => by
    rcases br_meet c t ev mr with e | e
    · exact Or.inr e
    · rw [e]; exact h
  intro n
  induction n with
  | zero => intro c1 t1 c2 t2 mm h; exact h
  | succ n ih =>
    intro c1 t1 c2 t2 mm h
    rw [m_X4_follow_l_s]
    refine zi_ite (P := fun (z : CR × SR × CR × SR) => C_br z.1 = 0 ∨ C_br z.1 = 1) (fun _ => h) (fun _ => ?_)
    rcases es (Int32.toNatClampNeg mm) with _ | e2
    · exact ih _ _ _ _ _ (hc _ _ _ h)
    · refine zi_ite (P := fun (z : CR × SR × CR × SR) => C_br z.1 = 0 ∨ C_br z.1 = 1) (fun _ => ih _ _ _ _ _ (hc _ _ _ (hm _ _ _ _ h))) (fun _ => ?_)
      exact zi_ite (P := fun (z : CR × SR × CR × SR) => C_br z.1 = 0 ∨ C_br z.1 = 1) (fun _ => ih _ _ _ _ _ (hc _ _ _ (hm _ _ _ _ h))) (fun _ => ih _ _ _ _ _ (hc _ _ _ (hm _ _ _ _ h)))
theorem hb_follow (pt : PR) (us : Nat → Int32) (es : Nat → Option Nat) (evf : Nat → ER) (cf : CR) (tf : SR) (cb : CR) (tb : SR) (last : Int32) : C_br (m_X4_follow pt us es evf cf tf cb tb last).1 = 0 ∨ C_br (m_X4_follow pt us es evf cf tf cb tb last).1 = 1 := hb_follow_l us es evf last _ _ _ _ _ _ (Or.inl rfl)
def m_X4_hasBreach (ar : AR) (pr : (Nat → Option Nat)) (er : (Nat → Option Nat)) (cf : CR) (tf : SR) (cb : CR) (tb : SR) (pt : PR) (us : Nat → Int32) (es : Nat → Option Nat) (evf : Nat → ER) : Int32 × CR × SR × CR × SR :=
  ((C_br ((m_X4_follow pt us es evf cf tf cb tb 35).1)), ((m_X4_follow pt us es evf cf tf cb tb 35).1), ((m_X4_follow pt us es evf cf tf cb tb 35).2.1), ((m_X4_follow pt us es evf cf tf cb tb 35).2.2.1), ((m_X4_follow pt us es evf cf tf cb tb 35).2.2.2))
set_option maxRecDepth 100000 in
set_option maxHeartbeats 2000000 in
theorem c_X4_hasBreach (l : Launch) (G : pw_G) (L : List Nat) (F : Nat → va_E) (x : Nat) (rf : Nat → Nat) (ar : AR) (pr er : Nat → Option Nat) (cf : CR) (tf : SR) (cb : CR) (tb : SR) (p u w q : Nat) (pt : PR) (us : Nat → Int32) (es : Nat → Option Nat) (ps : Nat → Int64) (evf : Nat → ER) (hp : pA G L F p u w q pt us es ps evf) (fm : Nat) (hfm : fm ≤ 35) (hfi : P_fi pt = nI fm) : PM l yX4_hasBreach wsX4_hasBreach ⟨6, 0, 0, 129⟩ G [.ref x, .ref p] (aX G x rf ar pr er cf tf cb tb) L F 0 0 (po_d (some (.int (m_X4_hasBreach ar pr er cf tf cb tb pt us es evf).1)) (aX G x rf ar pr er ((m_X4_hasBreach ar pr er cf tf cb tb pt us es evf).2.1) ((m_X4_hasBreach ar pr er cf tf cb tb pt us es evf).2.2.1) ((m_X4_hasBreach ar pr er cf tf cb tb pt us es evf).2.2.2.1) ((m_X4_hasBreach ar pr er cf tf cb tb pt us es evf).2.2.2.2)) L F) := by
  refine pm_entry (by decide) rfl rfl (Nat.le_of_ble_eq_true rfl) ?_
  intro Z Q C hl0 hG0 hnm hE
  subst hl0
  subst hG0
  have i4_ : ∀ w ∈ wsX40, w ∈ wsX4_hasBreach := by decide +kernel
  have i0_ : ∀ w ∈ wsX00, w ∈ wsX4_hasBreach := by decide +kernel
  have w0_ : Cond.fieldLink RX4 24 "AgedAssets" "full" "LAgedAssets$Course;" ∈ wsX4_hasBreach := by decide +kernel
  have w1_ : Cond.fieldLinkNest RX4 179 RX0 "breached" "Z" RX4 ∈ pw_N := by decide +kernel
  show PW Z (aX (zG Z) x rf ar pr er cf tf cb tb) L F 0 0 Q 0 [(0, .ref x), (1, .ref p)] []
  refine pk_aload_n C 0 dX4_hasBreach_0 rfl rfl (pc2 := 1) rfl ?_
  refine pk_aload_n C 1 dX4_hasBreach_1 rfl rfl (pc2 := 2) rfl ?_
  refine pk_bipush (v := 35) C dX4_hasBreach_2 (by decide) (pc2 := 4) rfl ?_
  refine pk_dV (cx := (aX (zG Z) x rf ar pr er cf tf cb tb)) (wr := []) (X2 := (aX (zG Z) x rf ar pr er ((m_X4_follow pt us es evf cf tf cb tb 35).1) ((m_X4_follow pt us es evf cf tf cb tb 35).2.1) ((m_X4_follow pt us es evf cf tf cb tb 35).2.2.1) ((m_X4_follow pt us es evf cf tf cb tb 35).2.2.2))) (st := []) (st2 := []) (As := [.ref p, .int 35]) C (c_X4_follow (zl Z) (zG Z) L F x rf ar pr er cf tf cb tb p u w q pt us es ps evf hp fm hfm hfi 35 (by decide)) gX4_hasBreach_X4_follow rfl rfl rfl 2 (by decide +kernel) ⟨Nat.le_of_ble_eq_true rfl, Nat.le_of_ble_eq_true rfl⟩ (pw_atX 0 rfl) rfl rfl rfl (Nat.le_of_ble_eq_true rfl) ⟨Nat.le_of_ble_eq_true rfl, Nat.le_of_ble_eq_true rfl⟩ [0, 1, 2, 3, 4, 5, 6] [] [0, 1, 2, 3, 4, 5, 6] rfl rfl rfl rfl (by decide) rfl rfl dX4_hasBreach_4 (pc2 := 7) rfl rfl ?_
  generalize en1_ : ((m_X4_follow pt us es evf cf tf cb tb 35).1) = n1_
  generalize en2_ : ((m_X4_follow pt us es evf cf tf cb tb 35).2.1) = n2_
  generalize en3_ : ((m_X4_follow pt us es evf cf tf cb tb 35).2.2.1) = n3_
  generalize en4_ : ((m_X4_follow pt us es evf cf tf cb tb 35).2.2.2) = n4_
  refine pk_aload_n C 0 dX4_hasBreach_7 rfl rfl (pc2 := 8) rfl ?_
  refine pk_get (v := .ref (rf 2)) C i4_ (pw_atX 0 rfl) (ci := 4) rfl 2 (by decide) w0_ rfl rfl dX4_hasBreach_8 (pc2 := 11) rfl ?_
  refine pk_getN (v := .int (C_br n1_)) C i0_ (pw_atX 3 rfl) (ci := 0) rfl 11 (by decide) w1_ rfl rfl dX4_hasBreach_11 (pc2 := 14) rfl ?_
  subst en1_ en2_ en3_ en4_
  exact pr_int (ty := .boolean) C hE rfl (zb_n (hb_follow ..)) (po_d_rfl (by first | with_reducible rfl | (unfold m_X4_hasBreach; with_reducible rfl)) (by first | with_reducible rfl | (unfold m_X4_hasBreach; with_reducible rfl))) dX4_hasBreach_14
theorem zb_m_X4_hasBreach (ar : AR) (pr : (Nat → Option Nat)) (er : (Nat → Option Nat)) (cf : CR) (tf : SR) (cb : CR) (tb : SR) (pt : PR) (us : Nat → Int32) (es : Nat → Option Nat) (evf : Nat → ER) : (m_X4_hasBreach ar pr er cf tf cb tb pt us es evf).1 = 0 ∨ (m_X4_hasBreach ar pr er cf tf cb tb pt us es evf).1 = 1 := by
  unfold m_X4_hasBreach
  repeat (first | split | (exact Or.inl rfl) | (exact Or.inr rfl) | assumption | (exact (hb_follow ..)))

theorem va_up_up {α : Type} (f : Nat → α) (k : Nat) (v w : α) : va_up (va_up f k v) k w = va_up f k w := by
  funext j
  unfold va_up
  split <;> rfl
set_option maxRecDepth 100000 in
set_option maxHeartbeats 2000000 in
theorem c_X1_init (l : Launch) (G : pw_G) (L : List Nat) (F : Nat → va_E) (b : Nat) (pn mo ki : Int32) (am : Int64) (nu : Int32) (hbL : b ∈ L) (hbF : F b = .inr (1, [.int 0, .int 0, .int 0, .long 0, .int 0])) : PM l yX1_init wsX1_init ⟨1, 0, 0, 40⟩ G [.ref b, .int pn, .int mo, .int ki, .long am, .int nu] [] L F 0 0 (po_d none [] L (va_up F b (cE (E_mk pn mo ki am nu)))) := by
  refine pm_entry (by decide) rfl rfl (Nat.le_of_ble_eq_true rfl) ?_
  intro Z Q C hl0 hG0 hnm hE
  subst hl0
  subst hG0
  have i1_ : ∀ w ∈ wsX10, w ∈ wsX1_init := by decide +kernel
  have w0_ : Cond.methodLink RX1 1 objectInit ∈ wsX1_init := by decide +kernel
  have w1_ : Cond.instanceMethod objectInit ∈ wsX1_init := by decide +kernel
  have w2_ : Cond.code objectInit ⟨#[0xb1]⟩ 1 none ∈ wsX1_init := by decide +kernel
  have w3_ : Cond.fieldLink RX1 7 "AgedAssets$Event" "partNumber" "I" ∈ wsX1_init := by decide +kernel
  have w4_ : Cond.fieldLink RX1 13 "AgedAssets$Event" "month" "I" ∈ wsX1_init := by decide +kernel
  have w5_ : Cond.fieldLink RX1 16 "AgedAssets$Event" "kind" "I" ∈ wsX1_init := by decide +kernel
  have w6_ : Cond.fieldLink RX1 19 "AgedAssets$Event" "amount" "J" ∈ wsX1_init := by decide +kernel
  have w7_ : Cond.fieldLink RX1 23 "AgedAssets$Event" "number" "I" ∈ wsX1_init := by decide +kernel
  show PW Z [] L F 0 0 Q 0 [(0, .ref b), (1, .int pn), (2, .int mo), (3, .int ki), (4, .long am), (6, .int nu)] []
  refine pk_aload_n C 0 dX1_init_0 rfl rfl (pc2 := 1) rfl ?_
  refine pk_objInit C w0_ w1_ w2_ (Nat.le_of_ble_eq_true rfl) (Nat.le_of_ble_eq_true rfl) dX1_init_1 (pc2 := 4) rfl ?_
  refine pk_aload_n C 0 dX1_init_4 rfl rfl (pc2 := 5) rfl ?_
  refine pk_iload_n C 1 dX1_init_5 rfl rfl (pc2 := 6) rfl ?_
  refine pk_putFP (e := .inr (1, [.int pn, .int 0, .int 0, .long 0, .int 0])) C hnm i1_ tyX1_ok nmX1 hbL hbF (ci := 1) rfl 0 (by decide) w3_ rfl rfl rfl rfl rfl rfl (Nat.le_of_ble_eq_true rfl) rfl dX1_init_6 (pc2 := 9) rfl ?_
  refine pk_aload_n C 0 dX1_init_9 rfl rfl (pc2 := 10) rfl ?_
  refine pk_iload_n C 2 dX1_init_10 rfl rfl (pc2 := 11) rfl ?_
  refine pk_putFP (e := .inr (1, [.int pn, .int mo, .int 0, .long 0, .int 0])) C hnm i1_ tyX1_ok nmX1 hbL (va_up_self ..) (ci := 1) rfl 1 (by decide) w4_ rfl rfl rfl rfl rfl rfl (Nat.le_of_ble_eq_true rfl) rfl dX1_init_11 (pc2 := 14) rfl ?_
  rw [va_up_up]
  refine pk_aload_n C 0 dX1_init_14 rfl rfl (pc2 := 15) rfl ?_
  refine pk_iload_n C 3 dX1_init_15 rfl rfl (pc2 := 16) rfl ?_
  refine pk_putFP (e := .inr (1, [.int pn, .int mo, .int ki, .long 0, .int 0])) C hnm i1_ tyX1_ok nmX1 hbL (va_up_self ..) (ci := 1) rfl 2 (by decide) w5_ rfl rfl rfl rfl rfl rfl (Nat.le_of_ble_eq_true rfl) rfl dX1_init_16 (pc2 := 19) rfl ?_
  rw [va_up_up]
  refine pk_aload_n C 0 dX1_init_19 rfl rfl (pc2 := 20) rfl ?_
  refine pk_lload C 4 dX1_init_20 rfl (pc2 := 22) rfl ?_
  refine pk_putFP (e := .inr (1, [.int pn, .int mo, .int ki, .long am, .int 0])) C hnm i1_ tyX1_ok nmX1 hbL (va_up_self ..) (ci := 1) rfl 3 (by decide) w6_ rfl rfl rfl rfl rfl rfl (Nat.le_of_ble_eq_true rfl) rfl dX1_init_22 (pc2 := 25) rfl ?_
  rw [va_up_up]
  refine pk_aload_n C 0 dX1_init_25 rfl rfl (pc2 := 26) rfl ?_
  refine pk_iload C 5 dX1_init_26 rfl (pc2 := 28) rfl ?_
  refine pk_putFP (e := .inr (1, [.int pn, .int mo, .int ki, .long am, .int nu])) C hnm i1_ tyX1_ok nmX1 hbL (va_up_self ..) (ci := 1) rfl 4 (by decide) w7_ rfl rfl rfl rfl rfl rfl (Nat.le_of_ble_eq_true rfl) rfl dX1_init_28 (pc2 := 31) rfl ?_
  rw [va_up_up]
  exact pr_void C hE ⟨rfl, rfl, rfl, rfl⟩ dX1_init_31
/-- a new part's cells -/
def pnP (G : pw_G) (L L' : List Nat) (F F' : Nat → va_E) (b u w q : Nat) (pt : PR) : Prop := (L' = ((L ++ [u]) ++ [w]) ++ [q] ∧ u ∉ L ∧ w ∉ L ++ [u] ∧ q ∉ (L ++ [u]) ++ [w]) ∧ F' b = cP u w q pt ∧ F' u = .inl (G.2.1, 36, .inl (fun _ => 0)) ∧ F' w = .inl (G.2.2.2.1, 36, .inr (.inr (.inr (.inr (fun _ => none))))) ∧ F' q = .inl (G.2.2.1, 36, .inr (.inl (fun _ => 0))) ∧ ∀ a, a ∈ L → a ≠ b → F' a = F a
set_option maxRecDepth 100000 in
set_option maxHeartbeats 4000000 in
theorem c_X2_init (l : Launch) (G : pw_G) (L : List Nat) (F : Nat → va_E) (b : Nat) (co rs : Int64) (fi li me ra : Int32) (hbL : b ∈ L) (hbF : F b = .inr (2, [.long 0, .long 0, .int 0, .int 0, .int 0, .int 0, .null, .null, .null, .int 0, .long 0])) : EM l yX2_init wsX2_init ⟨1, 3, 108, 40⟩ G [.ref b, .long co, .long rs, .int fi, .int li, .int me, .int ra] [] L F 3 108 (fun v X' L' F' => v = none ∧ X' = [] ∧ ∃ u w q, pnP G L L' F F' b u w q (P_mk co rs fi li me ra 0 0)) := by
  refine em_entry (by decide) rfl rfl (Nat.le_of_ble_eq_true rfl) ?_
  intro Z Q C hl0 hG0 hnm hX hE
  subst hl0
  subst hG0
  have i2_ : ∀ w ∈ wsX20, w ∈ wsX2_init := by decide +kernel
  have w0_ : Cond.methodLink RX2 3 objectInit ∈ wsX2_init := by decide +kernel
  have w1_ : Cond.instanceMethod objectInit ∈ wsX2_init := by decide +kernel
  have w2_ : Cond.code objectInit ⟨#[0xb1]⟩ 1 none ∈ wsX2_init := by decide +kernel
  have w3_ : Cond.fieldLink RX2 9 "AgedAssets$Part" "cost" "J" ∈ wsX2_init := by decide +kernel
  have w4_ : Cond.fieldLink RX2 15 "AgedAssets$Part" "residual" "J" ∈ wsX2_init := by decide +kernel
  have w5_ : Cond.fieldLink RX2 18 "AgedAssets$Part" "firstMonth" "I" ∈ wsX2_init := by decide +kernel
  have w6_ : Cond.fieldLink RX2 22 "AgedAssets$Part" "life" "I" ∈ wsX2_init := by decide +kernel
  have w7_ : Cond.fieldLink RX2 25 "AgedAssets$Part" "method" "I" ∈ wsX2_init := by decide +kernel
  have w8_ : Cond.fieldLink RX2 28 "AgedAssets$Part" "rate" "I" ∈ wsX2_init := by decide +kernel
  have w9_ : Cond.arrayClass .int ∈ wsX2_init := by decide +kernel
  have w10_ : Cond.fieldLink RX2 31 "AgedAssets$Part" "unitsIn" "[I" ∈ wsX2_init := by decide +kernel
  have w11_ : Cond.classLink RX2 35 RX1 ∈ wsX2_init := by decide +kernel
  have w12_ : Cond.fieldLink RX2 37 "AgedAssets$Part" "eventIn" "[LAgedAssets$Event;" ∈ wsX2_init := by decide +kernel
  have w13_ : Cond.arrayClass .long ∈ wsX2_init := by decide +kernel
  have w14_ : Cond.fieldLink RX2 41 "AgedAssets$Part" "postedIn" "[J" ∈ wsX2_init := by decide +kernel
  show PW Z [] L F 0 0 Q 0 [(0, .ref b), (1, .long co), (3, .long rs), (5, .int fi), (6, .int li), (7, .int me), (8, .int ra)] []
  refine pk_aload_n C 0 dX2_init_0 rfl rfl (pc2 := 1) rfl ?_
  refine pk_objInit C w0_ w1_ w2_ (Nat.le_of_ble_eq_true rfl) (Nat.le_of_ble_eq_true rfl) dX2_init_1 (pc2 := 4) rfl ?_
  refine pk_aload_n C 0 dX2_init_4 rfl rfl (pc2 := 5) rfl ?_
  refine pk_lload_n C 1 dX2_init_5 rfl rfl (pc2 := 6) rfl ?_
  refine pk_putFP (e := .inr (2, [.long co, .long 0, .int 0, .int 0, .int 0, .int 0, .null, .null, .null, .int 0, .long 0])) C hnm i2_ tyX2_ok nmX2 hbL hbF (ci := 2) rfl 0 (by decide) w3_ rfl rfl rfl rfl rfl rfl (Nat.le_of_ble_eq_true rfl) rfl dX2_init_6 (pc2 := 9) rfl ?_
  refine pk_aload_n C 0 dX2_init_9 rfl rfl (pc2 := 10) rfl ?_
  refine pk_lload_n C 2 dX2_init_10 rfl rfl (pc2 := 11) rfl ?_
  refine pk_putFP (e := .inr (2, [.long co, .long rs, .int 0, .int 0, .int 0, .int 0, .null, .null, .null, .int 0, .long 0])) C hnm i2_ tyX2_ok nmX2 hbL (va_up_self ..) (ci := 2) rfl 1 (by decide) w4_ rfl rfl rfl rfl rfl rfl (Nat.le_of_ble_eq_true rfl) rfl dX2_init_11 (pc2 := 14) rfl ?_
  rw [va_up_up]
  refine pk_aload_n C 0 dX2_init_14 rfl rfl (pc2 := 15) rfl ?_
  refine pk_iload C 3 dX2_init_15 rfl (pc2 := 17) rfl ?_
  refine pk_putFP (e := .inr (2, [.long co, .long rs, .int fi, .int 0, .int 0, .int 0, .null, .null, .null, .int 0, .long 0])) C hnm i2_ tyX2_ok nmX2 hbL (va_up_self ..) (ci := 2) rfl 2 (by decide) w5_ rfl rfl rfl rfl rfl rfl (Nat.le_of_ble_eq_true rfl) rfl dX2_init_17 (pc2 := 20) rfl ?_
  rw [va_up_up]
  refine pk_aload_n C 0 dX2_init_20 rfl rfl (pc2 := 21) rfl ?_
  refine pk_iload C 4 dX2_init_21 rfl (pc2 := 23) rfl ?_
  refine pk_putFP (e := .inr (2, [.long co, .long rs, .int fi, .int li, .int 0, .int 0, .null, .null, .null, .int 0, .long 0])) C hnm i2_ tyX2_ok nmX2 hbL (va_up_self ..) (ci := 2) rfl 3 (by decide) w6_ rfl rfl rfl rfl rfl rfl (Nat.le_of_ble_eq_true rfl) rfl dX2_init_23 (pc2 := 26) rfl ?_
  rw [va_up_up]
  refine pk_aload_n C 0 dX2_init_26 rfl rfl (pc2 := 27) rfl ?_
  refine pk_iload C 5 dX2_init_27 rfl (pc2 := 29) rfl ?_
  refine pk_putFP (e := .inr (2, [.long co, .long rs, .int fi, .int li, .int me, .int 0, .null, .null, .null, .int 0, .long 0])) C hnm i2_ tyX2_ok nmX2 hbL (va_up_self ..) (ci := 2) rfl 4 (by decide) w7_ rfl rfl rfl rfl rfl rfl (Nat.le_of_ble_eq_true rfl) rfl dX2_init_29 (pc2 := 32) rfl ?_
  rw [va_up_up]
  refine pk_aload_n C 0 dX2_init_32 rfl rfl (pc2 := 33) rfl ?_
  refine pk_iload C 6 dX2_init_33 rfl (pc2 := 35) rfl ?_
  refine pk_putFP (e := .inr (2, [.long co, .long rs, .int fi, .int li, .int me, .int ra, .null, .null, .null, .int 0, .long 0])) C hnm i2_ tyX2_ok nmX2 hbL (va_up_self ..) (ci := 2) rfl 5 (by decide) w8_ rfl rfl rfl rfl rfl rfl (Nat.le_of_ble_eq_true rfl) rfl dX2_init_35 (pc2 := 38) rfl ?_
  rw [va_up_up]
  refine pk_aload_n C 0 dX2_init_38 rfl rfl (pc2 := 39) rfl ?_
  refine pk_bipush (v := 36) C dX2_init_39 (by decide) (pc2 := 41) rfl ?_
  have f0b : va_up F b (.inr (2, [.long co, .long rs, .int fi, .int li, .int me, .int ra, .null, .null, .null, .int 0, .long 0])) b = .inr (2, [.long co, .long rs, .int fi, .int li, .int me, .int ra, .null, .null, .null, .int 0, .long 0]) := va_up_self ..
  have f0o : ∀ a, a ≠ b → va_up F b (.inr (2, [.long co, .long rs, .int fi, .int li, .int me, .int ra, .null, .null, .null, .int 0, .long 0])) a = F a := fun a h => va_up_ne _ _ h
  generalize va_up F b (.inr (2, [.long co, .long rs, .int fi, .int li, .int me, .int ra, .null, .null, .null, .int 0, .long 0])) = F0 at f0b f0o ⊢
  refine pk_newaIP (N := 36) C w9_ (by decide) (by decide) (Nat.le_of_ble_eq_true rfl) (Nat.le_of_ble_eq_true rfl) (Nat.le_of_ble_eq_true rfl) dX2_init_41 (pc2 := 43) rfl (fun u hu => ?_)
  have bu : b ≠ u := fun e => hu (by rw [← e]; exact hbL)
  have bL1 : b ∈ L ++ [u] := List.mem_append_left _ hbL
  have f1b : va_up F0 u (.inl ((zG Z).2.1, 36, .inl (fun _ => 0))) b = .inr (2, [.long co, .long rs, .int fi, .int li, .int me, .int ra, .null, .null, .null, .int 0, .long 0]) := by rw [va_up_ne _ _ bu]; exact f0b
  have f1n : va_up F0 u (.inl ((zG Z).2.1, 36, .inl (fun _ => 0))) u = (.inl ((zG Z).2.1, 36, .inl (fun _ => 0))) := va_up_self ..
  have f1o : ∀ a, a ≠ u → va_up F0 u (.inl ((zG Z).2.1, 36, .inl (fun _ => 0))) a = F0 a := fun a h => va_up_ne _ _ h
  generalize va_up F0 u (.inl ((zG Z).2.1, 36, .inl (fun _ => 0))) = F1 at f1b f1n f1o ⊢
  refine pk_putFP (e := .inr (2, [.long co, .long rs, .int fi, .int li, .int me, .int ra, .ref u, .null, .null, .int 0, .long 0])) C hnm i2_ tyX2_ok nmX2 bL1 f1b (ci := 2) rfl 6 (by decide) w10_ rfl rfl rfl rfl rfl rfl (Nat.le_of_ble_eq_true rfl) rfl dX2_init_43 (pc2 := 46) rfl ?_
  have p1b : va_up F1 b (.inr (2, [.long co, .long rs, .int fi, .int li, .int me, .int ra, .ref u, .null, .null, .int 0, .long 0])) b = .inr (2, [.long co, .long rs, .int fi, .int li, .int me, .int ra, .ref u, .null, .null, .int 0, .long 0]) := va_up_self ..
  have p1o : ∀ a, a ≠ b → va_up F1 b (.inr (2, [.long co, .long rs, .int fi, .int li, .int me, .int ra, .ref u, .null, .null, .int 0, .long 0])) a = F1 a := fun a h => va_up_ne _ _ h
  generalize va_up F1 b (.inr (2, [.long co, .long rs, .int fi, .int li, .int me, .int ra, .ref u, .null, .null, .int 0, .long 0])) = P1 at p1b p1o ⊢
  refine pk_aload_n C 0 dX2_init_46 rfl rfl (pc2 := 47) rfl ?_
  refine pk_bipush (v := 36) C dX2_init_47 (by decide) (pc2 := 49) rfl ?_
  refine pk_newqEP (N := 36) C w11_ hX.2.2.2.2.2.1 (by decide) (by decide) (Nat.le_of_ble_eq_true rfl) (Nat.le_of_ble_eq_true rfl) (Nat.le_of_ble_eq_true rfl) dX2_init_49 (pc2 := 52) rfl (fun w hw => ?_)
  have bw : b ≠ w := fun e => hw (by rw [← e]; exact bL1)
  have bL2 : b ∈ L ++ [u] ++ [w] := List.mem_append_left _ bL1
  have f2b : va_up P1 w (.inl ((zG Z).2.2.2.1, 36, .inr (.inr (.inr (.inr (fun _ => none)))))) b = .inr (2, [.long co, .long rs, .int fi, .int li, .int me, .int ra, .ref u, .null, .null, .int 0, .long 0]) := by rw [va_up_ne _ _ bw]; exact p1b
  have f2n : va_up P1 w (.inl ((zG Z).2.2.2.1, 36, .inr (.inr (.inr (.inr (fun _ => none)))))) w = (.inl ((zG Z).2.2.2.1, 36, .inr (.inr (.inr (.inr (fun _ => none)))))) := va_up_self ..
  have f2o : ∀ a, a ≠ w → va_up P1 w (.inl ((zG Z).2.2.2.1, 36, .inr (.inr (.inr (.inr (fun _ => none)))))) a = P1 a := fun a h => va_up_ne _ _ h
  generalize va_up P1 w (.inl ((zG Z).2.2.2.1, 36, .inr (.inr (.inr (.inr (fun _ => none)))))) = F2 at f2b f2n f2o ⊢
  refine pk_putFP (e := .inr (2, [.long co, .long rs, .int fi, .int li, .int me, .int ra, .ref u, .ref w, .null, .int 0, .long 0])) C hnm i2_ tyX2_ok nmX2 bL2 f2b (ci := 2) rfl 7 (by decide) w12_ rfl rfl rfl rfl rfl rfl (Nat.le_of_ble_eq_true rfl) rfl dX2_init_52 (pc2 := 55) rfl ?_
  have p2b : va_up F2 b (.inr (2, [.long co, .long rs, .int fi, .int li, .int me, .int ra, .ref u, .ref w, .null, .int 0, .long 0])) b = .inr (2, [.long co, .long rs, .int fi, .int li, .int me, .int ra, .ref u, .ref w, .null, .int 0, .long 0]) := va_up_self ..
  have p2o : ∀ a, a ≠ b → va_up F2 b (.inr (2, [.long co, .long rs, .int fi, .int li, .int me, .int ra, .ref u, .ref w, .null, .int 0, .long 0])) a = F2 a := fun a h => va_up_ne _ _ h
  generalize va_up F2 b (.inr (2, [.long co, .long rs, .int fi, .int li, .int me, .int ra, .ref u, .ref w, .null, .int 0, .long 0])) = P2 at p2b p2o ⊢
  refine pk_aload_n C 0 dX2_init_55 rfl rfl (pc2 := 56) rfl ?_
  refine pk_bipush (v := 36) C dX2_init_56 (by decide) (pc2 := 58) rfl ?_
  refine pk_newaJP (N := 36) C w13_ (by decide) (by decide) (Nat.le_of_ble_eq_true rfl) (Nat.le_of_ble_eq_true rfl) (Nat.le_of_ble_eq_true rfl) dX2_init_58 (pc2 := 60) rfl (fun q hq => ?_)
  have bq : b ≠ q := fun e => hq (by rw [← e]; exact bL2)
  have bL3 : b ∈ (L ++ [u]) ++ [w] ++ [q] := List.mem_append_left _ bL2
  have f3b : va_up P2 q (.inl ((zG Z).2.2.1, 36, .inr (.inl (fun _ => 0)))) b = .inr (2, [.long co, .long rs, .int fi, .int li, .int me, .int ra, .ref u, .ref w, .null, .int 0, .long 0]) := by rw [va_up_ne _ _ bq]; exact p2b
  have f3n : va_up P2 q (.inl ((zG Z).2.2.1, 36, .inr (.inl (fun _ => 0)))) q = (.inl ((zG Z).2.2.1, 36, .inr (.inl (fun _ => 0)))) := va_up_self ..
  have f3o : ∀ a, a ≠ q → va_up P2 q (.inl ((zG Z).2.2.1, 36, .inr (.inl (fun _ => 0)))) a = P2 a := fun a h => va_up_ne _ _ h
  generalize va_up P2 q (.inl ((zG Z).2.2.1, 36, .inr (.inl (fun _ => 0)))) = F3 at f3b f3n f3o ⊢
  refine pk_putFP (e := .inr (2, [.long co, .long rs, .int fi, .int li, .int me, .int ra, .ref u, .ref w, .ref q, .int 0, .long 0])) C hnm i2_ tyX2_ok nmX2 bL3 f3b (ci := 2) rfl 8 (by decide) w14_ rfl rfl rfl rfl rfl rfl (Nat.le_of_ble_eq_true rfl) rfl dX2_init_60 (pc2 := 63) rfl ?_
  have p3b : va_up F3 b (.inr (2, [.long co, .long rs, .int fi, .int li, .int me, .int ra, .ref u, .ref w, .ref q, .int 0, .long 0])) b = .inr (2, [.long co, .long rs, .int fi, .int li, .int me, .int ra, .ref u, .ref w, .ref q, .int 0, .long 0]) := va_up_self ..
  have p3o : ∀ a, a ≠ b → va_up F3 b (.inr (2, [.long co, .long rs, .int fi, .int li, .int me, .int ra, .ref u, .ref w, .ref q, .int 0, .long 0])) a = F3 a := fun a h => va_up_ne _ _ h
  generalize va_up F3 b (.inr (2, [.long co, .long rs, .int fi, .int li, .int me, .int ra, .ref u, .ref w, .ref q, .int 0, .long 0])) = P3 at p3b p3o ⊢
  refine pr_void C hE ⟨rfl, rfl, u, w, q, ⟨rfl, hu, hw, hq⟩, p3b, ?_, ?_, ?_, ?_⟩ dX2_init_63
  · rw [p3o u bu.symm, f3o u (fun e => hq (by rw [← e]; simp)), p2o u bu.symm, f2o u (fun e => hw (by rw [← e]; simp)), p1o u bu.symm]; exact f1n
  · rw [p3o w bw.symm, f3o w (fun e => hq (by rw [← e]; simp)), p2o w bw.symm]; exact f2n
  · rw [p3o q bq.symm]; exact f3n
  · intro a ha hab
    rw [p3o a hab, f3o a (fun e => hq (by rw [← e]; simp [ha])), p2o a hab, f2o a (fun e => hw (by rw [← e]; simp [ha])), p1o a hab, f1o a (fun e => hu (by rw [← e]; exact ha)), f0o a hab]

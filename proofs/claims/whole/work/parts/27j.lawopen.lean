/-! the law: what its start gives, and its first steps -/
set_option maxRecDepth 20000 in
theorem lw_m0 : Cond.classLink RL 8 RX4 ∈ wsL_law := List.mem_append_left _ (List.mem_append_left _ (List.mem_append_left _ (List.mem_append_left _ (List.mem_append_left _ (List.mem_append_left _ (List.mem_append_left _ (List.mem_append_left _ (List.mem_append_left _ (by decide +kernel)))))))))
set_option maxRecDepth 20000 in
theorem lw_m1 : Cond.instantiable RX4 7 ∈ wsL_law := List.mem_append_left _ (List.mem_append_left _ (List.mem_append_left _ (List.mem_append_left _ (List.mem_append_left _ (List.mem_append_left _ (List.mem_append_left _ (List.mem_append_left _ (List.mem_append_left _ (by decide +kernel)))))))))
set_option maxRecDepth 20000 in
theorem lw_m2 : Cond.initialized RX4 ∈ wsL_law := List.mem_append_left _ (List.mem_append_left _ (List.mem_append_left _ (List.mem_append_left _ (List.mem_append_left _ (List.mem_append_left _ (List.mem_append_left _ (List.mem_append_left _ (List.mem_append_left _ (by decide +kernel)))))))))
set_option maxRecDepth 20000 in
theorem lw_m3 : Cond.methodLink RL 47 yX4_init ∈ wsL_law := List.mem_append_left _ (List.mem_append_left _ (List.mem_append_left _ (List.mem_append_left _ (List.mem_append_left _ (List.mem_append_left _ (List.mem_append_left _ (List.mem_append_left _ (List.mem_append_left _ (by decide +kernel)))))))))
set_option maxRecDepth 20000 in
theorem lw_m4 : Cond.instanceMethod yX4_init ∈ wsL_law := List.mem_append_left _ (List.mem_append_left _ (List.mem_append_left _ (List.mem_append_left _ (List.mem_append_left _ (List.mem_append_left _ (List.mem_append_left _ (List.mem_append_left _ (List.mem_append_left _ (by decide +kernel)))))))))
set_option maxRecDepth 20000 in
theorem lw_m5 : Cond.classLink RL 48 RX5 ∈ wsL_law := List.mem_append_left _ (List.mem_append_left _ (List.mem_append_left _ (List.mem_append_left _ (List.mem_append_left _ (List.mem_append_left _ (List.mem_append_left _ (List.mem_append_left _ (List.mem_append_left _ (by decide +kernel)))))))))
set_option maxRecDepth 20000 in
theorem lw_m6 : Cond.instantiable RX5 37 ∈ wsL_law := List.mem_append_left _ (List.mem_append_left _ (List.mem_append_left _ (List.mem_append_left _ (List.mem_append_left _ (List.mem_append_left _ (List.mem_append_left _ (List.mem_append_left _ (List.mem_append_left _ (by decide +kernel)))))))))
set_option maxRecDepth 20000 in
theorem lw_m7 : Cond.initialized RX5 ∈ wsL_law := List.mem_append_left _ (List.mem_append_left _ (List.mem_append_left _ (List.mem_append_left _ (List.mem_append_left _ (List.mem_append_left _ (List.mem_append_left _ (List.mem_append_left _ (List.mem_append_left _ (by decide +kernel)))))))))
set_option maxRecDepth 20000 in
theorem lw_m8 : Cond.methodLink RL 50 yX5_init ∈ wsL_law := List.mem_append_left _ (List.mem_append_left _ (List.mem_append_left _ (List.mem_append_left _ (List.mem_append_left _ (List.mem_append_left _ (List.mem_append_left _ (List.mem_append_left _ (List.mem_append_left _ (by decide +kernel)))))))))
set_option maxRecDepth 20000 in
theorem lw_m9 : Cond.instanceMethod yX5_init ∈ wsL_law := List.mem_append_left _ (List.mem_append_left _ (List.mem_append_left _ (List.mem_append_left _ (List.mem_append_left _ (List.mem_append_left _ (List.mem_append_left _ (List.mem_append_left _ (List.mem_append_left _ (by decide +kernel)))))))))
set_option maxRecDepth 20000 in
theorem lw_m10 : Cond.arrayClass .long ∈ wsL_law := List.mem_append_left _ (List.mem_append_left _ (List.mem_append_left _ (List.mem_append_left _ (List.mem_append_left _ (List.mem_append_left _ (List.mem_append_left _ (List.mem_append_left _ (List.mem_append_left _ (by decide +kernel)))))))))
theorem lw_strs : ∀ q ∈ pw_strs, Cond.stringRef RX4 q.1 q.2 ∈ lw_tbl := by decide +kernel
theorem lw_XWin : ∀ w ∈ pw_XW, w ∈ lw_tbl := by decide +kernel
theorem lw_Nin : ∀ w ∈ pw_N, w ∈ lw_tbl := by decide +kernel
theorem lw_nc : Cond.not (.castable nISE nIAE) ∈ flatC (Jvm.Cond.and given_1 narrow_1) := by decide +kernel
theorem lw_zU : Cond.isRef (.static Bundle.tN "UNASSIGNED_STACK" Bundle.steD) ∈ flatC (Jvm.Cond.and given_1 narrow_1) := by decide +kernel
theorem lw_zN : Cond.isRef (.static Bundle.tN "SUPPRESSED_SENTINEL" Bundle.listD) ∈ flatC (Jvm.Cond.and given_1 narrow_1) := by decide +kernel
theorem lw_lU : Cond.laysStatic Bundle.tN "UNASSIGNED_STACK" Bundle.steD ∈ lw_tbl := by decide +kernel
theorem lw_lN : Cond.laysStatic Bundle.tN "SUPPRESSED_SENTINEL" Bundle.listD ∈ lw_tbl := by decide +kernel
theorem lw_iT : Cond.initialized Bundle.tN ∈ lw_tbl := by decide +kernel
theorem lw_ao1 : Cond.arrayOver (.object RX1) ∈ lw_tbl := by decide +kernel
theorem lw_ao2 : Cond.arrayOver (.object RX2) ∈ lw_tbl := by decide +kernel
theorem lw_ai : Cond.arrayClass .int ∈ lw_tbl := by decide +kernel
theorem lw_aj : Cond.arrayClass .long ∈ lw_tbl := by decide +kernel
theorem lw_in0 : Cond.instantiable RX0 15 ∈ lw_tbl := by decide +kernel
theorem lw_in1 : Cond.instantiable RX1 5 ∈ lw_tbl := by decide +kernel
theorem lw_in2 : Cond.instantiable RX2 11 ∈ lw_tbl := by decide +kernel
theorem lw_in3 : Cond.instantiable RX3 6 ∈ lw_tbl := by decide +kernel
theorem lw_in4 : Cond.instantiable RX4 7 ∈ lw_tbl := by decide +kernel
theorem lw_in5 : Cond.instantiable RX5 37 ∈ lw_tbl := by decide +kernel
theorem lw_arrP {A : Array Value} {s : State} {ty : FieldType} (h : (Cond.arrayClass ty).before A s = true) : ∃ g : ClassId, ArrOfT s g ty ∧ s.vm.findClass ("[" ++ ty.toString) = some g := by
  obtain ⟨c, k, comp, h1, h2, h3⟩ := Cond.arrayClass_spec h
  exact ⟨c, fun n z => ⟨(fun k h => by cases h), k, h2, comp, h3⟩, h1⟩
theorem lw_arrO {A : Array Value} {s : State} {K : String} (h : (Cond.arrayOver (.object K)).before A s = true) : ∃ g : ClassId, ArrOfT s g (.object K) ∧ va_RA s g (.object K) := by
  obtain ⟨comp, c, k, h1, h2, h3, h4, h5⟩ := Cond.arrayOver_spec h
  exact ⟨c, fun n z => ⟨(fun k h => by cases h), k, h3, comp, h4⟩, k, comp, h3, h4, h1, h5⟩
theorem lw_E {b : Nat} {s : State} {A : Nat → Prop} (hts : ∀ w ∈ lw_tbl, w.before #[Value.ref b] s = true) (hgv : (Jvm.Cond.and given_1 narrow_1).before #[Value.ref b] s = true) {cur : ClassId} (hcl : s.vm.findClass RX4 = some cur) (hA : ∀ a : Nat, a < s.heap.size → ¬ A a) : pw_E A s s.heap := by
  have hn := flat_of_before _ hgv
  refine ⟨fun q hq => ?_, vx_Zqof (hts _ lw_lU) (hts _ lw_iT) (hn _ lw_zU) hA, vx_Zqof (hts _ lw_lN) (hts _ lw_iT) (hn _ lw_zN) hA, fun w hw => va_Nw.of (pw_XW_tabs w hw) (hts w (lw_XWin w hw)), va_Nc.of (hn _ lw_nc), va_AO.of (hts _ lw_ao1), va_AO.of (hts _ lw_ao2)⟩
  have h1 := hts _ (lw_strs q hq)
  obtain ⟨k, cf, i, a, -, -, -, -, -, h⟩ := Cond.stringRef_spec hcl h1
  exact ⟨a, vk_R.of h1 h⟩
theorem lw_K {b : Nat} {s : State} (hts : ∀ w ∈ lw_tbl, w.before #[Value.ref b] s = true) : ∃ G : pw_G, va_K G.1 vwCl (pw_tys G) s := by
  obtain ⟨c0, i0, k0⟩ := u_known (C := RX0) (T := TX0) (N := 15) (n := 15) hts inX0 (hts _ lw_in0)
  obtain ⟨c1, i1, k1⟩ := u_known (C := RX1) (T := TX1) (N := 5) (n := 5) hts inX1 (hts _ lw_in1)
  obtain ⟨c2, i2, k2⟩ := u_known (C := RX2) (T := TX2) (N := 11) (n := 11) hts inX2 (hts _ lw_in2)
  obtain ⟨c3, i3, k3⟩ := u_known (C := RX3) (T := TX3) (N := 6) (n := 6) hts inX3 (hts _ lw_in3)
  obtain ⟨c4, i4, k4⟩ := u_known (C := RX4) (T := TX4) (N := 7) (n := 7) hts inX4 (hts _ lw_in4)
  obtain ⟨c5, i5, k5⟩ := u_known (C := RX5) (T := TX5) (N := 37) (n := 37) hts inX5 (hts _ lw_in5)
  obtain ⟨g1, a1, b1⟩ := lw_arrP (ty := .int) (hts _ lw_ai)
  obtain ⟨g2, a2, b2⟩ := lw_arrP (ty := .long) (hts _ lw_aj)
  obtain ⟨g3, a3, b3⟩ := lw_arrO (hts _ lw_ao1)
  obtain ⟨g4, a4, b4⟩ := lw_arrO (hts _ lw_ao2)
  refine ⟨((fun k => match k with | 0 => c0 | 1 => c1 | 2 => c2 | 3 => c3 | 4 => c4 | _ => c5, fun k => match k with | 0 => i0 | 1 => i1 | 2 => i2 | 3 => i3 | 4 => i4 | _ => i5), (g1, g2, g3, g4)), ?_, ?_⟩
  · intro k q hq
    match k, hq with
    | 0, hq =>
      have hq : some (RX0, TX0, 15) = some q := hq
      cases hq
      exact k0
    | 1, hq =>
      have hq : some (RX1, TX1, 5) = some q := hq
      cases hq
      exact k1
    | 2, hq =>
      have hq : some (RX2, TX2, 11) = some q := hq
      cases hq
      exact k2
    | 3, hq =>
      have hq : some (RX3, TX3, 6) = some q := hq
      cases hq
      exact k3
    | 4, hq =>
      have hq : some (RX4, TX4, 7) = some q := hq
      cases hq
      exact k4
    | 5, hq =>
      have hq : some (RX5, TX5, 37) = some q := hq
      cases hq
      exact k5
    | k + 6, hq => simp [vwCl] at hq
  · intro k q hq
    match k, hq with
    | 0, hq =>
      have hq : some (g1, FieldType.int) = some q := hq
      cases hq
      exact ⟨a1, b1⟩
    | 1, hq =>
      have hq : some (g2, FieldType.long) = some q := hq
      cases hq
      exact ⟨a2, b2⟩
    | 2, hq =>
      have hq : some (g3, FieldType.object RX1) = some q := hq
      cases hq
      exact ⟨a3, b3⟩
    | 3, hq =>
      have hq : some (g4, FieldType.object RX2) = some q := hq
      cases hq
      exact ⟨a4, b4⟩
    | k + 4, hq => simp [pw_tys] at hq
theorem LI_0 (G : pw_G) (F : Nat → va_E) (D : pw_D) (evf : Nat → ER) : LI G [] F (A_mk 0 0 0) (fun _ => none) (fun _ => none) D evf M_0 T_0 0 0 0 := ⟨⟨⟨Nat.zero_le _, nI_0.symm⟩, ⟨Nat.zero_le _, nI_0.symm⟩, ⟨Nat.zero_le _, nI_0.symm⟩, fun a h => absurd h (Nat.not_lt_zero a), fun a h => absurd h (Nat.not_lt_zero a)⟩, ⟨nI_0.symm, nI_0.symm, nI_0.symm⟩, fun a h => absurd h (Nat.not_lt_zero a), fun a _ h => absurd h (Nat.not_lt_zero a), fun a h => absurd h (Nat.not_lt_zero a), fun a h => absurd h (Nat.not_lt_zero a), fun a h => absurd h (Nat.not_lt_zero a), fun a _ h => absurd h (Nat.not_lt_zero a), fun a _ h => absurd h (Nat.not_lt_zero a), fun a h => absurd h (Nat.not_lt_zero a), fun a h => absurd h (Nat.not_lt_zero a), fun a _ h => absurd h (Nat.not_lt_zero a), fun _ _ _ _ _ => ⟨rfl, rfl⟩⟩
set_option maxRecDepth 100000 in
set_option maxHeartbeats 2000000 in
theorem lw_open {Z : pw_Z} {Q : State → Prop} {b : Nat} (C : pw_CL Z) (hE1 : pw_E (zA Z) (zs Z) (zH Z)) (F : Nat → va_E) (kk : ∀ (x m oc : Nat) (rf rm : Nat → Nat), PW Z ((aX (zG Z) x rf (A_mk 0 0 0) (fun _ => none) (fun _ => none) (C_mk 0 0 0 0 0 0 0 0 0 0 0 0 0 0) (S_mk 0 0 0 0 0 0) (C_mk 0 0 0 0 0 0 0 0 0 0 0 0 0 0) (S_mk 0 0 0 0 0 0)) ++ ((mX (zG Z) m rm M_0 T_0) ++ [(oc, .inl ((zG Z).2.2.1, 1, .inr (.inl (fun _ => 0))))])) [] F 24 873 Q 23 [(0, .ref b), (1, .ref x), (2, .ref m), (3, .ref oc), (4, .int (nI (9 * 0)))] []) : PW Z [] [] F 0 0 Q 0 [(0, .ref b)] [] := by
  refine pk_newX (X := []) (ci := 4) (fs := [.null, .null, .null, .null, .int 0, .int 0, .int 0]) C tyX4 inlX4 tyX4_ok lw_m0 lw_m1 lw_m2 rfl (fun j hj => by rcases (show j = 0 ∨ j = 1 ∨ j = 2 ∨ j = 3 ∨ j = 4 ∨ j = 5 ∨ j = 6 by omega) with rfl | rfl | rfl | rfl | rfl | rfl | rfl <;> rfl) (Nat.le_of_ble_eq_true rfl) (Nat.le_of_ble_eq_true rfl) dL_law_0 (pc2 := 3) rfl (fun x => ?_)
  refine pk_dup C dL_law_3 rfl (pc2 := 4) rfl ?_
  refine pk_callIE (k := 1) (n := 7) (X := [(x, .inr (4, [.null, .null, .null, .null, .int 0, .int 0, .int 0]))]) (cx := [(x, .inr (4, [.null, .null, .null, .null, .int 0, .int 0, .int 0]))]) (wr := []) (As := []) (st := [.ref x]) C hE1 (c_X4_init (zl Z) (zG Z) F x) gL_law_X4_init rfl lw_m3 lw_m4 lw_m2 rfl rfl rfl 0 (by decide +kernel) ⟨(Nat.le_of_ble_eq_true rfl), (Nat.le_of_ble_eq_true rfl)⟩ rfl rfl (Nat.le_of_ble_eq_true rfl) ⟨(Nat.le_of_ble_eq_true rfl), (Nat.le_of_ble_eq_true rfl)⟩ [0] [] rfl rfl rfl rfl (by decide) dL_law_4 (pc2 := 7) rfl (fun v X' L' F' ho => ?_)
  obtain ⟨e1, ⟨rf, e2⟩, e3, e4⟩ := ho
  rw [e1, e2, e3, e4]
  show PW Z (aX (zG Z) x rf (A_mk 0 0 0) (fun _ => none) (fun _ => none) (C_mk 0 0 0 0 0 0 0 0 0 0 0 0 0 0) (S_mk 0 0 0 0 0 0) (C_mk 0 0 0 0 0 0 0 0 0 0 0 0 0 0) (S_mk 0 0 0 0 0 0)) [] F 7 95 Q 7 [(0, .ref b)] [.ref x]
  refine pk_astore_n (lv' := [(1, .ref x), (0, .ref b)]) C dL_law_7 rfl (by decide) rfl (pc2 := 8) rfl ?_
  refine pk_newX (k := 7) (n := 95) (X := (aX (zG Z) x rf (A_mk 0 0 0) (fun _ => none) (fun _ => none) (C_mk 0 0 0 0 0 0 0 0 0 0 0 0 0 0) (S_mk 0 0 0 0 0 0) (C_mk 0 0 0 0 0 0 0 0 0 0 0 0 0 0) (S_mk 0 0 0 0 0 0))) (ci := 5) (fs := [.int 0, .int 0, .null, .null, .null, .null, .null, .null, .null, .null, .int 0, .int 0, .null, .null, .null, .null, .null, .long 0, .long 0, .long 0, .long 0, .long 0, .int 0, .int 0, .int 0, .int 0, .long 0, .int 0, .int 0, .int 0, .int 0, .long 0, .long 0, .long 0, .null, .null, .int 0]) C tyX5 inlX5 tyX5_ok lw_m5 lw_m6 lw_m7 rfl (fun j hj => by rcases (show j = 0 ∨ j = 1 ∨ j = 2 ∨ j = 3 ∨ j = 4 ∨ j = 5 ∨ j = 6 ∨ j = 7 ∨ j = 8 ∨ j = 9 ∨ j = 10 ∨ j = 11 ∨ j = 12 ∨ j = 13 ∨ j = 14 ∨ j = 15 ∨ j = 16 ∨ j = 17 ∨ j = 18 ∨ j = 19 ∨ j = 20 ∨ j = 21 ∨ j = 22 ∨ j = 23 ∨ j = 24 ∨ j = 25 ∨ j = 26 ∨ j = 27 ∨ j = 28 ∨ j = 29 ∨ j = 30 ∨ j = 31 ∨ j = 32 ∨ j = 33 ∨ j = 34 ∨ j = 35 ∨ j = 36 by omega) with rfl | rfl | rfl | rfl | rfl | rfl | rfl | rfl | rfl | rfl | rfl | rfl | rfl | rfl | rfl | rfl | rfl | rfl | rfl | rfl | rfl | rfl | rfl | rfl | rfl | rfl | rfl | rfl | rfl | rfl | rfl | rfl | rfl | rfl | rfl | rfl | rfl <;> rfl) (Nat.le_of_ble_eq_true rfl) (Nat.le_of_ble_eq_true rfl) dL_law_8 (pc2 := 11) rfl (fun m => ?_)
  refine pk_dup C dL_law_11 rfl (pc2 := 12) rfl ?_
  refine pk_callI (k := 8) (n := 132) (X := (aX (zG Z) x rf (A_mk 0 0 0) (fun _ => none) (fun _ => none) (C_mk 0 0 0 0 0 0 0 0 0 0 0 0 0 0) (S_mk 0 0 0 0 0 0) (C_mk 0 0 0 0 0 0 0 0 0 0 0 0 0 0) (S_mk 0 0 0 0 0 0)) ++ [(m, .inr (5, [.int 0, .int 0, .null, .null, .null, .null, .null, .null, .null, .null, .int 0, .int 0, .null, .null, .null, .null, .null, .long 0, .long 0, .long 0, .long 0, .long 0, .int 0, .int 0, .int 0, .int 0, .long 0, .int 0, .int 0, .int 0, .int 0, .long 0, .long 0, .long 0, .null, .null, .int 0]))]) (cx := [(m, .inr (5, [.int 0, .int 0, .null, .null, .null, .null, .null, .null, .null, .null, .int 0, .int 0, .null, .null, .null, .null, .null, .long 0, .long 0, .long 0, .long 0, .long 0, .int 0, .int 0, .int 0, .int 0, .long 0, .int 0, .int 0, .int 0, .int 0, .long 0, .long 0, .long 0, .null, .null, .int 0]))]) (wr := (aX (zG Z) x rf (A_mk 0 0 0) (fun _ => none) (fun _ => none) (C_mk 0 0 0 0 0 0 0 0 0 0 0 0 0 0) (S_mk 0 0 0 0 0 0) (C_mk 0 0 0 0 0 0 0 0 0 0 0 0 0 0) (S_mk 0 0 0 0 0 0))) (As := []) (st := [.ref m]) C (c_X5_init (zl Z) (zG Z) F m) gL_law_X5_init rfl lw_m8 lw_m9 lw_m7 rfl rfl rfl 0 (by decide +kernel) ⟨(Nat.le_of_ble_eq_true rfl), (Nat.le_of_ble_eq_true rfl)⟩ rfl rfl (Nat.le_of_ble_eq_true rfl) ⟨(Nat.le_of_ble_eq_true rfl), (Nat.le_of_ble_eq_true rfl)⟩ [7] [0, 1, 2, 3, 4, 5, 6] rfl rfl rfl rfl (by decide) dL_law_12 (pc2 := 15) rfl (fun v X' L' F' ho => ?_)
  obtain ⟨e1, ⟨rm, e2⟩, e3, e4⟩ := ho
  rw [e1, e2, e3, e4]
  show PW Z ((aX (zG Z) x rf (A_mk 0 0 0) (fun _ => none) (fun _ => none) (C_mk 0 0 0 0 0 0 0 0 0 0 0 0 0 0) (S_mk 0 0 0 0 0 0) (C_mk 0 0 0 0 0 0 0 0 0 0 0 0 0 0) (S_mk 0 0 0 0 0 0)) ++ (mX (zG Z) m rm M_0 T_0)) [] F 23 872 Q 15 [(1, .ref x), (0, .ref b)] [.ref m]
  refine pk_astore_n (lv' := [(2, .ref m), (1, .ref x), (0, .ref b)]) C dL_law_15 rfl (by decide) rfl (pc2 := 16) rfl ?_
  refine pk_iconst (v := 1) C dL_law_16 (by decide) (pc2 := 17) rfl ?_
  refine pk_newaJX (k := 23) (n := 872) (N := 1) C lw_m10 (by decide) (by decide) (Nat.le_of_ble_eq_true rfl) (Nat.le_of_ble_eq_true rfl) (Nat.le_of_ble_eq_true rfl) dL_law_17 (pc2 := 19) rfl (fun oc => ?_)
  refine pw_conv (List.append_assoc _ _ _) ?_
  refine pk_astore_n (lv' := [(3, .ref oc), (2, .ref m), (1, .ref x), (0, .ref b)]) C dL_law_19 rfl (by decide) rfl (pc2 := 20) rfl ?_
  refine pk_iconst (v := nI (9 * 0)) C dL_law_20 (by decide) (pc2 := 21) rfl ?_
  refine pk_istore (lv' := [(4, .int (nI (9 * 0))), (3, .ref oc), (2, .ref m), (1, .ref x), (0, .ref b)]) C dL_law_21 (by decide) rfl (pc2 := 23) rfl ?_
  exact pw_lv (lv' := [(0, .ref b), (1, .ref x), (2, .ref m), (3, .ref oc), (4, .int (nI (9 * 0)))]) [4, 3, 2, 1, 0] rfl (kk x m oc rf rm)

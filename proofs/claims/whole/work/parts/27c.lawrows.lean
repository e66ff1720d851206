/-! the law: its world, and rows of its own -/
section LWR
variable {Z : pw_Z} {X : va_W} {L : List Nat} {F : Nat → va_E} {k n : Nat} {Q : State → Prop} {pc pc2 : Nat} {lv : List (Nat × Value)} {st : List Value} {cc : ByteArray} {nL : Nat} {own : String} {Ts : List Cond} {R0 : Room} {ret : Option FieldType}
theorem vp_nI {j N : Nat} (h : j < N) (hN : N ≤ 4608) : vp_in (nI j) N := nI_in h (by omega)
def sJ (p q : Int32) : Int64 := (p.toInt64 <<< ((32 : Int32).toInt64 &&& 63)) ||| (q.toInt64 &&& 4294967295)
theorem pl_rd (C : pw_C Z cc nL own Ts R0 ret) {b N : Nat} {xs : Nat → Int32} (hX : pw_SC Z b N xs) (hN : N ≤ 4608) {i d : Nat} {z : Int} (h0 : lv[0]? = some (0, .ref b)) (h4 : lv[4]? = some (4, .int (nI i))) (hz : Int32.ofInt z = nI d) (hin : i + d < N) (d0 : decode cc pc = .ok (.aload_n 0, 1)) (d1 : decode cc (pc + 1) = .ok (.iload 4, 2)) (d2 : decode cc (pc + 3) = .ok (.iconst z, 1)) (d3 : decode cc (pc + 4) = .ok (.iadd, 1)) (d4 : decode cc (pc + 5) = .ok (.iaload, 1)) (h2 : pc + 6 = pc2) (kk : PW Z X L F k n Q pc2 lv (.int (xs (i + d)) :: st)) : PW Z X L F k n Q pc lv st := by
  refine pk_aload_n C 0 d0 rfl h0 (pc2 := pc + 1) rfl ?_
  refine pk_iload C 4 d1 h4 (pc2 := pc + 3) rfl ?_
  refine pk_iconst C d2 hz (pc2 := pc + 4) rfl ?_
  refine pk_iadd C d3 (pc2 := pc + 5) rfl ?_
  refine pk_sld C hX (by rw [nI_add]; exact vp_nI hin hN) d4 h2 ?_
  rw [nI_add, nI_clamp (by omega)]
  exact kk
theorem pl_rdb (C : pw_C Z cc nL own Ts R0 ret) {b N : Nat} {xs : Nat → Int32} (hX : pw_SC Z b N xs) (hN : N ≤ 4608) {i d : Nat} {z : Int} (h0 : lv[0]? = some (0, .ref b)) (h4 : lv[4]? = some (4, .int (nI i))) (hz : (Int8.ofInt z).toInt32 = nI d) (hin : i + d < N) (d0 : decode cc pc = .ok (.aload_n 0, 1)) (d1 : decode cc (pc + 1) = .ok (.iload 4, 2)) (d2 : decode cc (pc + 3) = .ok (.bipush z, 2)) (d3 : decode cc (pc + 5) = .ok (.iadd, 1)) (d4 : decode cc (pc + 6) = .ok (.iaload, 1)) (h2 : pc + 7 = pc2) (kk : PW Z X L F k n Q pc2 lv (.int (xs (i + d)) :: st)) : PW Z X L F k n Q pc lv st := by
  refine pk_aload_n C 0 d0 rfl h0 (pc2 := pc + 1) rfl ?_
  refine pk_iload C 4 d1 h4 (pc2 := pc + 3) rfl ?_
  refine pk_bipush C d2 hz (pc2 := pc + 5) rfl ?_
  refine pk_iadd C d3 (pc2 := pc + 6) rfl ?_
  refine pk_sld C hX (by rw [nI_add]; exact vp_nI hin hN) d4 h2 ?_
  rw [nI_add, nI_clamp (by omega)]
  exact kk
/-- a long out of two ints of the script -/
theorem pl_rdJ (C : pw_C Z cc nL own Ts R0 ret) {b N ix : Nat} {xs : Nat → Int32} (hX : pw_SC Z b N xs) (hN : N ≤ 4608) {i d1 d2 : Nat} {z1 z2 : Int} (h0 : lv[0]? = some (0, .ref b)) (h4 : lv[4]? = some (4, .int (nI i))) (hz1 : Int32.ofInt z1 = nI d1) (hz2 : Int32.ofInt z2 = nI d2) (hin1 : i + d1 < N) (hin2 : i + d2 < N) (hw : Cond.constantLong own ix 4294967295 ∈ Ts) (e0 : decode cc pc = .ok (.aload_n 0, 1)) (e1 : decode cc (pc + 1) = .ok (.iload 4, 2)) (e2 : decode cc (pc + 3) = .ok (.iconst z1, 1)) (e3 : decode cc (pc + 4) = .ok (.iadd, 1)) (e4 : decode cc (pc + 5) = .ok (.iaload, 1)) (e6 : decode cc (pc + 6) = .ok (.i2l, 1)) (e7 : decode cc (pc + 7) = .ok (.bipush 32, 2)) (e9 : decode cc (pc + 9) = .ok (.lshl, 1)) (f0 : decode cc (pc + 10) = .ok (.aload_n 0, 1)) (f1 : decode cc (pc + 10 + 1) = .ok (.iload 4, 2)) (f2 : decode cc (pc + 10 + 3) = .ok (.iconst z2, 1)) (f3 : decode cc (pc + 10 + 4) = .ok (.iadd, 1)) (f4 : decode cc (pc + 10 + 5) = .ok (.iaload, 1)) (f6 : decode cc (pc + 16) = .ok (.i2l, 1)) (f7 : decode cc (pc + 17) = .ok (.ldc2_w ix, 3)) (f8 : decode cc (pc + 20) = .ok (.land, 1)) (f9 : decode cc (pc + 21) = .ok (.lor, 1)) (h2 : pc + 22 = pc2) (kk : PW Z X L F k n Q pc2 lv (.long (sJ (xs (i + d1)) (xs (i + d2))) :: st)) : PW Z X L F k n Q pc lv st := by
  refine pl_rd C hX hN h0 h4 hz1 hin1 e0 e1 e2 e3 e4 (pc2 := pc + 6) rfl ?_
  refine pk_i2l C e6 (pc2 := pc + 7) rfl ?_
  refine pk_bipush (v := 32) C e7 (by decide) (pc2 := pc + 9) rfl ?_
  refine pk_lshl C e9 rfl (pc2 := pc + 10) rfl ?_
  refine pl_rd C hX hN h0 h4 hz2 hin2 f0 f1 f2 f3 f4 (pc2 := pc + 16) rfl ?_
  refine pk_i2l C f6 (pc2 := pc + 17) rfl ?_
  refine pk_ldc2 C hw f7 (pc2 := pc + 20) rfl ?_
  refine pk_land C f8 (pc2 := pc + 21) rfl ?_
  refine pk_lor C f9 h2 ?_
  exact kk
end LWR
section LWP
variable {G : pw_G} {x : Nat} {rf : Nat → Nat} {ar : AR} {pr er : Nat → Option Nat} {cf : CR} {tf : SR} {cb : CR} {tb : SR} {m : Nat} {rm : Nat → Nat} {c : MR} {T : TR} {o : Nat × va_E}
theorem lp_C1 : [0, 1, 2, 3, 4, 5, 6, 23].map (fun i => ((aX G x rf ar pr er cf tf cb tb) ++ ((mX G m rm c T) ++ [o]))[i]?) = ((aX G x rf ar pr er cf tf cb tb) ++ [o]).map some := rfl
theorem lp_R1 : [7, 8, 9, 10, 11, 12, 13, 14, 15, 16, 17, 18, 19, 20, 21, 22].map (fun i => ((aX G x rf ar pr er cf tf cb tb) ++ ((mX G m rm c T) ++ [o]))[i]?) = (mX G m rm c T).map some := rfl
theorem lp_B1 : [17, 18, 19, 20, 21, 22, 23, 0, 1, 2, 3, 4, 5, 6, 7, 8, 9, 10, 11, 12, 13, 14, 15, 16].map (fun i => ((mX G m rm c T) ++ (o :: (aX G x rf ar pr er cf tf cb tb)))[i]?) = ((aX G x rf ar pr er cf tf cb tb) ++ ((mX G m rm c T) ++ [o])).map some := rfl
theorem lp_B2 : [0, 1, 2, 3, 4, 5, 6, 8, 9, 10, 11, 12, 13, 14, 15, 16, 17, 18, 19, 20, 21, 22, 23, 7].map (fun i => (((aX G x rf ar pr er cf tf cb tb) ++ [o]) ++ (mX G m rm c T))[i]?) = ((aX G x rf ar pr er cf tf cb tb) ++ ((mX G m rm c T) ++ [o])).map some := rfl
theorem lp_C3 : [0, 1, 2, 3, 4, 5, 6].map (fun i => ((aX G x rf ar pr er cf tf cb tb) ++ ((mX G m rm c T) ++ [o]))[i]?) = (aX G x rf ar pr er cf tf cb tb).map some := rfl
theorem lp_R3 : [7, 8, 9, 10, 11, 12, 13, 14, 15, 16, 17, 18, 19, 20, 21, 22, 23].map (fun i => ((aX G x rf ar pr er cf tf cb tb) ++ ((mX G m rm c T) ++ [o]))[i]?) = ((mX G m rm c T) ++ [o]).map some := rfl
theorem lp_B3 : [17, 18, 19, 20, 21, 22, 23, 0, 1, 2, 3, 4, 5, 6, 7, 8, 9, 10, 11, 12, 13, 14, 15, 16].map (fun i => (((mX G m rm c T) ++ [o]) ++ (aX G x rf ar pr er cf tf cb tb))[i]?) = ((aX G x rf ar pr er cf tf cb tb) ++ ((mX G m rm c T) ++ [o])).map some := rfl
theorem lp_x : ((aX G x rf ar pr er cf tf cb tb) ++ ((mX G m rm c T) ++ [o]))[0]? = some (x, cA rf ar) := rfl
theorem lp_m : ((aX G x rf ar pr er cf tf cb tb) ++ ((mX G m rm c T) ++ [o]))[7]? = some (m, cM rm c) := rfl
theorem lp_o : ((aX G x rf ar pr er cf tf cb tb) ++ ((mX G m rm c T) ++ [o]))[23]? = some o := rfl
end LWP
theorem owI_no {ox : pw_OX} {G : pw_G} {oc : Nat} {f : Nat → Int64} {cS : Int32} : ∀ (E : String) (X' : va_W) (L' : List Nat) (F' : Nat → va_E), ¬ owI ox G oc f cS (.inr E) X' L' F' := by
  rintro E X' L' F' ⟨X1, f', -, ⟨z, -, h, -⟩ | ⟨-, h, -⟩ | ⟨-, h, -⟩⟩ <;> cases h
theorem owL_no {ox : pw_OX} {G : pw_G} {oc : Nat} {f : Nat → Int64} {cS : Int32} : ∀ (E : String) (X' : va_W) (L' : List Nat) (F' : Nat → va_E), ¬ owL ox G oc f cS (.inr E) X' L' F' := by
  rintro E X' L' F' ⟨X1, f', -, ⟨z, -, h, -⟩ | ⟨-, h, -⟩ | ⟨-, h, -⟩⟩ <;> cases h
abbrev pw_CL (Z : pw_Z) : Prop := pw_C Z cL_law 8 RL wsL_law room_1 ret
set_option maxRecDepth 20000 in
theorem lw_k51 : Cond.constantLong RL 51 4294967295 ∈ wsL_law := List.mem_append_left _ (List.mem_append_left _ (List.mem_append_left _ (List.mem_append_left _ (List.mem_append_left _ (List.mem_append_left _ (List.mem_append_left _ (List.mem_append_left _ (List.mem_append_left _ (by decide +kernel)))))))))
set_option maxRecDepth 100000 in
set_option maxHeartbeats 2000000 in
theorem pl_tailI {Z : pw_Z} {Q : State → Prop} {L : List Nat} {F : Nat → va_E} {k n b : Nat} (C : pw_CL Z) (hk : k ≤ 601024) (hn : n ≤ 7293034) {x m oc i : Nat} {rf rm : Nat → Nat} {ar : AR} {pr er : Nat → Option Nat} {cf : CR} {tf : SR} {cb : CR} {tb : SR} {c : MR} {T : TR} {f : Nat → Int64} {K : Int32} {B : Int32} (hK : M_cd c = K) (hB : K = 0 → f 0 = Int32.toInt64 B) {t : Nat} {g : Int} (d0 : decode cL_law t = .ok (.aload_n 2, 1)) (d1 : decode cL_law (t + 1) = .ok (.invokevirtual 59, 3)) (d4 : decode cL_law (t + 4) = .ok (.iload 5, 2)) (d6 : decode cL_law (t + 6) = .ok (.if_icmp .eq 5, 3)) (d11 : decode cL_law (t + 11) = .ok (.iload 5, 2)) (d13 : decode cL_law (t + 13) = .ok (.ifCond .ne 15, 3)) (d16 : decode cL_law (t + 16) = .ok (.aload_n 3, 1)) (d17 : decode cL_law (t + 17) = .ok (.iconst 0, 1)) (d18 : decode cL_law (t + 18) = .ok (.laload, 1)) (d19 : decode cL_law (t + 19) = .ok (.iload 6, 2)) (d21 : decode cL_law (t + 21) = .ok (.i2l, 1)) (d22 : decode cL_law (t + 22) = .ok (.lcmp, 1)) (d23 : decode cL_law (t + 23) = .ok (.ifCond .eq 5, 3)) (d28 : decode cL_law (t + 28) = .ok (.goto g, 3)) (hg : ((t + 28 : Nat) : Int) + g = 978) (kk : PW Z ((aX (zG Z) x rf ar pr er cf tf cb tb) ++ ((mX (zG Z) m rm c T) ++ [(oc, .inl ((zG Z).2.2.1, 1, .inr (.inl f)))])) L F k n Q 978 [(0, .ref b), (1, .ref x), (2, .ref m), (3, .ref oc), (4, .int (nI i))] []) : PW Z ((aX (zG Z) x rf ar pr er cf tf cb tb) ++ ((mX (zG Z) m rm c T) ++ [(oc, .inl ((zG Z).2.2.1, 1, .inr (.inl f)))])) L F k n Q t [(0, .ref b), (1, .ref x), (2, .ref m), (3, .ref oc), (4, .int (nI i)), (5, .int K), (6, .int B)] [] := by
  subst hK
  have ke : PW Z ((aX (zG Z) x rf ar pr er cf tf cb tb) ++ ((mX (zG Z) m rm c T) ++ [(oc, .inl ((zG Z).2.2.1, 1, .inr (.inl f)))])) L F k n Q (t + 28) [(0, .ref b), (1, .ref x), (2, .ref m), (3, .ref oc), (4, .int (nI i)), (5, .int (M_cd c)), (6, .int B)] [] := pk_goto (tgt := 978) C d28 hg (pw_lv (lv' := [(0, .ref b), (1, .ref x), (2, .ref m), (3, .ref oc), (4, .int (nI i))]) [0, 1, 2, 3, 4] rfl kk)
  refine pk_aload_n C 2 d0 rfl rfl (pc2 := t + 1) rfl ?_
  refine pk_dV (cx := (mX (zG Z) m rm c T)) (wr := ((aX (zG Z) x rf ar pr er cf tf cb tb) ++ [(oc, .inl ((zG Z).2.2.1, 1, .inr (.inl f)))])) (X2 := ((aX (zG Z) x rf ar pr er cf tf cb tb) ++ ((mX (zG Z) m rm c T) ++ [(oc, .inl ((zG Z).2.2.1, 1, .inr (.inl f)))]))) (st := []) (st2 := [.int (m_X5_thrown c T)]) (As := []) C (c_X5_thrown (zl Z) (zG Z) L F m rm c T) gL_law_X5_thrown rfl rfl rfl 0 (by decide +kernel) ⟨(Nat.le_of_ble_eq_true rfl), (Nat.le_of_ble_eq_true rfl)⟩ (pw_atX 7 lp_m) (ci := 5) rfl rfl rfl (Nat.le_of_ble_eq_true rfl) ⟨hk, hn⟩ [7, 8, 9, 10, 11, 12, 13, 14, 15, 16, 17, 18, 19, 20, 21, 22] [0, 1, 2, 3, 4, 5, 6, 23] [0, 1, 2, 3, 4, 5, 6, 8, 9, 10, 11, 12, 13, 14, 15, 16, 17, 18, 19, 20, 21, 22, 23, 7] lp_R1 rfl lp_C1 rfl (by decide) lp_B2 rfl d1 (pc2 := t + 4) rfl rfl ?_
  refine pk_iload C 5 d4 rfl (pc2 := t + 6) rfl ?_
  refine pk_icmp_eq (tgt := t + 11) C d6 (by omega) (pc2 := t + 9) rfl (fun _ => ?_) (fun h => absurd rfl h)
  refine pk_iload C 5 d11 rfl (pc2 := t + 13) rfl ?_
  refine pk_if_ne (tgt := t + 28) C d13 (by omega) (pc2 := t + 16) rfl (fun _ => ke) (fun h0 => ?_)
  refine pk_aload_n C 3 d16 rfl rfl (pc2 := t + 17) rfl ?_
  refine pk_iconst (v := 0) C d17 (by decide) (pc2 := t + 18) rfl ?_
  refine pk_lald C (pw_atX 23 lp_o) in_01 (show f (Int32.toNatClampNeg 0) = f 0 from rfl) d18 (pc2 := t + 19) rfl ?_
  refine pk_iload C 6 d19 rfl (pc2 := t + 21) rfl ?_
  refine pk_i2l C d21 (pc2 := t + 22) rfl ?_
  exact pk_lcmp_eq (tgt := t + 28) C d22 d23 rfl (by omega) (pc2 := t + 26) rfl (fun _ => ke) (fun h => absurd (hB h0) h)
set_option maxRecDepth 100000 in
set_option maxHeartbeats 2000000 in
theorem pl_tailJ {Z : pw_Z} {Q : State → Prop} {L : List Nat} {F : Nat → va_E} {k n b : Nat} (C : pw_CL Z) (hk : k ≤ 601024) (hn : n ≤ 7293034) {x m oc i : Nat} {rf rm : Nat → Nat} {ar : AR} {pr er : Nat → Option Nat} {cf : CR} {tf : SR} {cb : CR} {tb : SR} {c : MR} {T : TR} {f : Nat → Int64} {K : Int32} {B : Int64} (hK : M_cd c = K) (hB : K = 0 → f 0 = B) {t : Nat} {g : Int} (d0 : decode cL_law t = .ok (.aload_n 2, 1)) (d1 : decode cL_law (t + 1) = .ok (.invokevirtual 59, 3)) (d4 : decode cL_law (t + 4) = .ok (.iload 5, 2)) (d6 : decode cL_law (t + 6) = .ok (.if_icmp .eq 5, 3)) (d11 : decode cL_law (t + 11) = .ok (.iload 5, 2)) (d13 : decode cL_law (t + 13) = .ok (.ifCond .ne 14, 3)) (d16 : decode cL_law (t + 16) = .ok (.aload_n 3, 1)) (d17 : decode cL_law (t + 17) = .ok (.iconst 0, 1)) (d18 : decode cL_law (t + 18) = .ok (.laload, 1)) (d19 : decode cL_law (t + 19) = .ok (.lload 6, 2)) (d22 : decode cL_law (t + 21) = .ok (.lcmp, 1)) (d23 : decode cL_law (t + 22) = .ok (.ifCond .eq 5, 3)) (d28 : decode cL_law (t + 27) = .ok (.goto g, 3)) (hg : ((t + 27 : Nat) : Int) + g = 978) (kk : PW Z ((aX (zG Z) x rf ar pr er cf tf cb tb) ++ ((mX (zG Z) m rm c T) ++ [(oc, .inl ((zG Z).2.2.1, 1, .inr (.inl f)))])) L F k n Q 978 [(0, .ref b), (1, .ref x), (2, .ref m), (3, .ref oc), (4, .int (nI i))] []) : PW Z ((aX (zG Z) x rf ar pr er cf tf cb tb) ++ ((mX (zG Z) m rm c T) ++ [(oc, .inl ((zG Z).2.2.1, 1, .inr (.inl f)))])) L F k n Q t [(0, .ref b), (1, .ref x), (2, .ref m), (3, .ref oc), (4, .int (nI i)), (5, .int K), (6, .long B)] [] := by
  subst hK
  have ke : PW Z ((aX (zG Z) x rf ar pr er cf tf cb tb) ++ ((mX (zG Z) m rm c T) ++ [(oc, .inl ((zG Z).2.2.1, 1, .inr (.inl f)))])) L F k n Q (t + 27) [(0, .ref b), (1, .ref x), (2, .ref m), (3, .ref oc), (4, .int (nI i)), (5, .int (M_cd c)), (6, .long B)] [] := pk_goto (tgt := 978) C d28 hg (pw_lv (lv' := [(0, .ref b), (1, .ref x), (2, .ref m), (3, .ref oc), (4, .int (nI i))]) [0, 1, 2, 3, 4] rfl kk)
  refine pk_aload_n C 2 d0 rfl rfl (pc2 := t + 1) rfl ?_
  refine pk_dV (cx := (mX (zG Z) m rm c T)) (wr := ((aX (zG Z) x rf ar pr er cf tf cb tb) ++ [(oc, .inl ((zG Z).2.2.1, 1, .inr (.inl f)))])) (X2 := ((aX (zG Z) x rf ar pr er cf tf cb tb) ++ ((mX (zG Z) m rm c T) ++ [(oc, .inl ((zG Z).2.2.1, 1, .inr (.inl f)))]))) (st := []) (st2 := [.int (m_X5_thrown c T)]) (As := []) C (c_X5_thrown (zl Z) (zG Z) L F m rm c T) gL_law_X5_thrown rfl rfl rfl 0 (by decide +kernel) ⟨(Nat.le_of_ble_eq_true rfl), (Nat.le_of_ble_eq_true rfl)⟩ (pw_atX 7 lp_m) (ci := 5) rfl rfl rfl (Nat.le_of_ble_eq_true rfl) ⟨hk, hn⟩ [7, 8, 9, 10, 11, 12, 13, 14, 15, 16, 17, 18, 19, 20, 21, 22] [0, 1, 2, 3, 4, 5, 6, 23] [0, 1, 2, 3, 4, 5, 6, 8, 9, 10, 11, 12, 13, 14, 15, 16, 17, 18, 19, 20, 21, 22, 23, 7] lp_R1 rfl lp_C1 rfl (by decide) lp_B2 rfl d1 (pc2 := t + 4) rfl rfl ?_
  refine pk_iload C 5 d4 rfl (pc2 := t + 6) rfl ?_
  refine pk_icmp_eq (tgt := t + 11) C d6 (by omega) (pc2 := t + 9) rfl (fun _ => ?_) (fun h => absurd rfl h)
  refine pk_iload C 5 d11 rfl (pc2 := t + 13) rfl ?_
  refine pk_if_ne (tgt := t + 27) C d13 (by omega) (pc2 := t + 16) rfl (fun _ => ke) (fun h0 => ?_)
  refine pk_aload_n C 3 d16 rfl rfl (pc2 := t + 17) rfl ?_
  refine pk_iconst (v := 0) C d17 (by decide) (pc2 := t + 18) rfl ?_
  refine pk_lald C (pw_atX 23 lp_o) in_01 (show f (Int32.toNatClampNeg 0) = f 0 from rfl) d18 (pc2 := t + 19) rfl ?_
  refine pk_lload C 6 d19 rfl (pc2 := t + 21) rfl ?_
  exact pk_lcmp_eq (tgt := t + 27) C d22 d23 rfl (by omega) (pc2 := t + 25) rfl (fun _ => ke) (fun h => absurd (hB h0) h)

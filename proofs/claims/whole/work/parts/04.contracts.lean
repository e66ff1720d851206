/-! contracts over worlds of cells and a pool: how a body begins and ends, and calls -/
abbrev pw_O : Type := Option Value → va_W → List Nat → (Nat → va_E) → Prop
def pw_B (G : pw_G) (X : va_W) (L : List Nat) (F : Nat → va_E) (sz : Nat) : State → Prop := fun U => U.heap.size = sz ∧ va_P G.1 vwCl (X ++ va_pl L F) U.heap ∧ va_K G.1 vwCl (pw_tys G) U ∧ va_D (fun _ => True) (X ++ va_pl L F) ∧ ∀ w ∈ pw_N, va_Nw w U
def pw_Q (G : pw_G) (X : va_W) (L : List Nat) (F : Nat → va_E) (sz : Nat) (o : pw_O) : Array Value → State → Outcome → State → Prop := fun _ st oc t =>
  (∃ (v : Option Value) (X' : va_W) (L' : List Nat) (F' : Nat → va_E), oc = .returned v ∧ o v X' L' F' ∧ va_P G.1 vwCl (X' ++ va_pl L' F') t.heap ∧ va_D (va_A (X ++ va_pl L F) sz) (X' ++ va_pl L' F')) ∧ va_F (va_A (X ++ va_pl L F) sz) st t
def PM (l : Launch) (y : MethodName) (ws : List Cond) (rm : Room) (G : pw_G) (av : List Value) (X : va_W) (L : List Nat) (F : Nat → va_E) (mc ms : Nat) (o : pw_O) : Prop :=
  ∀ sz : Nat, Met l y ws rm (va_Pc av (pw_B G X L F sz)) (pw_Q G X L F sz o) mc ms (va_A (X ++ va_pl L F) sz)
/-- one answer, one world behind it, the pool as it was -/
def po_d (v : Option Value) (X1 : va_W) (L : List Nat) (F : Nat → va_E) : pw_O := fun v' X' L' F' => v' = v ∧ X' = X1 ∧ L' = L ∧ F' = F
theorem po_d_rfl {v : Option Value} {X1 X2 : va_W} {L : List Nat} {F : Nat → va_E} {v2 : Option Value} (h : v2 = v) (hX : X2 = X1) : po_d v X1 L F v2 X2 L F := ⟨h, hX, rfl, rfl⟩
def pw_End (Z : pw_Z) (Q : State → Prop) (X : va_W) (L : List Nat) (F : Nat → va_E) (o : pw_O) (mc ms : Nat) : Prop :=
  Q = MQ (zbelow Z) (pw_Q (zG Z) X L F (zH Z).size o) (zargs Z) (zs Z) mc ms (zA Z) ∧ zA Z = va_A (X ++ va_pl L F) (zH Z).size ∧ zH Z = (zs Z).heap
theorem pw_blind {G : pw_G} {av : List Value} {X : va_W} {L : List Nat} {F : Nat → va_E} {sz : Nat} : FrameBlind (va_Pc av (pw_B G X L F sz)) := fun a U g mk q => by
  obtain ⟨q0, q1, qP, qK, qD, qN⟩ := q
  exact ⟨q0, q1, qP, va_K.moved (u := U) (U := U.calling g mk a) (Vm.Alike.refl U.vm) qK, qD, pw_N_same (u := U) (U := U.calling g mk a) rfl qN⟩
theorem pm_entry {l : Launch} {y : MethodName} {ws ws' : List Cond} {rm : Room} {G : pw_G} {av : List Value} {X : va_W} {L : List Nat} {F : Nat → va_E} {mc ms : Nat} {o : pw_O} {cc : ByteArray} {maxL : Nat} {ret : Option FieldType} {own : String} (hy : plainName y.cls = true) (hw : ws = Cond.code y cc maxL ret :: ws') (hown : y.cls = own) (hlen : (lg_sl av).length ≤ maxL)
    (body : ∀ (Z : pw_Z) (Q : State → Prop), pw_C Z cc maxL own ws rm ret → zl Z = l → zG Z = G → (zmeth Z).name = y.name → pw_End Z Q X L F o mc ms → PW Z X L F 0 0 Q 0 (lv_args 0 av) []) : PM l y ws rm G av X L F mc ms o := by
  intro sz
  refine Met.ofW hy hw ?_
  intro p e s m args below meth c s₁ B hml hv
  obtain ⟨rfl, hsz, hP, hK, hD0, hN⟩ := hv
  subst hsz
  subst hown
  have h := body ((p, l, e, (headSpec ws rm).room, s, m, av.toArray, below, meth, c), (G, va_A (X ++ va_pl L F) s.heap.size, s.heap)) _ ⟨B.exec, B.bytes, hml, findClass_of_methodNamed B.named, atoms_spec (ws := ws) B.pre, hK, fun q h => Or.inr h, rfl, B.returns, B.notSynchronized, hN⟩ rfl rfl (name_of_methodNamed B.named B.method).1 ⟨rfl, rfl, rfl⟩
  rw [lg_entry_eq]
  exact h s.heap [] _ hP hD0.self va_S.rf (by rw [show (zc ((p, l, e, (headSpec ws rm).room, s, m, av.toArray, below, meth, c), (G, va_A (X ++ va_pl L F) s.heap.size, s.heap))).maxLocals = maxL from hml]; exact lv_entry av hlen)
section PRT
variable {Z : pw_Z} {X X0 : va_W} {L L0 : List Nat} {F F0' : Nat → va_E} {k n : Nat} {Q : State → Prop} {pc pc2 : Nat} {lv : List (Nat × Value)} {st : List Value} {cc : ByteArray} {nL : Nat} {own : String} {Ts : List Cond} {R0 : Room} {ret : Option FieldType} {o : pw_O}
theorem pr_int {ty : FieldType} (C : pw_C Z cc nL own Ts R0 ret) (hE : pw_End Z Q X0 L0 F0' o k n) {v : Int32} (hret : ret = some ty) (hn : narrow ty (.int v) = .int v) (ho : o (some (.int v)) X L F) (hdg : decode cc pc = .ok (.ireturn, 1)) : PW Z X L F k n Q pc lv [.int v] := by
  obtain ⟨rfl, hA, hH⟩ := hE
  intro H locs ls hP hD hS hl
  rw [hH] at hS
  refine W.zret C.1 C.2.1 (C.2.2.2.2.2.2.2.2.1.trans hret) hn (fun t ht hW => ⟨⟨_, X, L, F, rfl, ho, by rw [ht]; exact hP, by rw [← hA]; exact hD⟩, by rw [← hA]; exact hS.F ht⟩) hS.2.2 hdg C.2.2.2.2.2.2.2.2.2.1
theorem pr_long (C : pw_C Z cc nL own Ts R0 (some .long)) (hE : pw_End Z Q X0 L0 F0' o k n) {v : Int64} (ho : o (some (.long v)) X L F) (hdg : decode cc pc = .ok (.lreturn, 1)) : PW Z X L F k n Q pc lv [.long v] := by
  obtain ⟨rfl, hA, hH⟩ := hE
  intro H locs ls hP hD hS hl
  rw [hH] at hS
  refine W.lret C.1 C.2.1 C.2.2.2.2.2.2.2.2.1 (fun t ht hW => ⟨⟨_, X, L, F, rfl, ho, by rw [ht]; exact hP, by rw [← hA]; exact hD⟩, by rw [← hA]; exact hS.F ht⟩) hS.2.2 hdg C.2.2.2.2.2.2.2.2.2.1
theorem pr_void (C : pw_C Z cc nL own Ts R0 none) (hE : pw_End Z Q X0 L0 F0' o k n) (ho : o none X L F) (hdg : decode cc pc = .ok (.return_, 1)) : PW Z X L F k n Q pc lv [] := by
  obtain ⟨rfl, hA, hH⟩ := hE
  intro H locs ls hP hD hS hl
  rw [hH] at hS
  refine W.vret C.1 C.2.1 C.2.2.2.2.2.2.2.2.1 (fun t ht hW => ⟨⟨_, X, L, F, rfl, ho, by rw [ht]; exact hP, by rw [← hA]; exact hD⟩, by rw [← hA]; exact hS.F ht⟩) hS.2.2 hdg C.2.2.2.2.2.2.2.2.2.1
theorem pr_ref {Cn : String} (C : pw_C Z cc nL own Ts R0 (some (.object Cn))) (hE : pw_End Z Q X0 L0 F0' o k n) (r : Option Nat) (ho : o (some (va_rf r)) X L F) (hdg : decode cc pc = .ok (.areturn, 1)) : PW Z X L F k n Q pc lv [va_rf r] := by
  obtain ⟨rfl, hA, hH⟩ := hE
  intro H locs ls hP hD hS hl
  rw [hH] at hS
  refine W.aret C.1 C.2.1 C.2.2.2.2.2.2.2.2.1 (Or.inl ⟨_, rfl⟩) (va_rf_or r) (fun t ht hW => ⟨⟨_, X, L, F, rfl, ho, by rw [ht]; exact hP, by rw [← hA]; exact hD⟩, by rw [← hA]; exact hS.F ht⟩) hS.2.2 hdg C.2.2.2.2.2.2.2.2.2.1
end PRT
section PCL
variable {p : Program} {l : Launch} {e : Env} {R : Room} {s : State} {m : MethodId} {args : Array Value} {below : List Frame} {meth : Method} {c : Code} {H : Heap} {locs : List Loc} {cells slots : Nat} {Q : State → Prop}
variable {pc : Nat} {ls : Array Slot} {rest st0 : List Value} {a : Array Value} {A0 : Nat → Prop} {H0 : Heap} {mc ms : Nat} {free : Addr → Prop}
theorem pw_call {G : pw_G} {X : va_W} {L : List Nat} {F : Nat → va_E} {o : pw_O} (hr : va_Run p l e R s m args below meth c H locs cells slots mc ms (F0 m pc ls st0) rest (pw_Q G X L F H.size o a) free) (hS : va_S A0 H0 H locs) (hA : ∀ q, va_A (X ++ va_pl L F) H.size q → A0 q) (hf : ∀ q, free q → A0 q)
    (kk : ∀ (v : Option Value) (X' : va_W) (L' : List Nat) (F' : Nat → va_E) (H1 : Heap) (locs1 : List Loc), o v X' L' F' → va_P G.1 vwCl (X' ++ va_pl L' F') H1 → va_D (va_A (X ++ va_pl L F) H.size) (X' ++ va_pl L' F') → (∀ q : Nat, q < H.size → ¬ va_A (X ++ va_pl L F) H.size q → H1[q]? = H[q]?) → va_S A0 H0 H1 locs1 → W p l e R s m args below meth c H1 locs1 (cells + mc) (slots + ms) Q (F0 m (pc + 3) ls (v.toList ++ rest))) : W p l e R s m args below meth c H locs cells slots Q (F0 m pc ls st0) := by
  intro T hT X9
  obtain ⟨v, st₀, t, T', L9, h0, X', hL, e1, e2, ⟨⟨v', X1, L1, F1, hv, ho, hp, hd⟩, hz, hk⟩, st⟩ := hr T hT X9
  cases hv
  rw [h0] at hz hk
  obtain ⟨t2, a1, b1⟩ := kk v X1 L1 F1 T'.heap (locs ++ L9) ho (by rw [e1]; exact hp) hd (fun q h1 h2 => by rw [e1]; exact hk q h1 h2)
    ⟨Nat.le_trans hS.1 (by rw [e1]; exact hz), fun q h1 h2 => by rw [e1, hk q (Nat.lt_of_lt_of_le h1 hS.1) (fun z => h2 (hA q z))]; exact hS.2.1 q h1 h2, fun q hq => by
      rcases List.mem_append.mp hq with h | h
      · exact hS.2.2 q h
      · exact hf _ (hL q h)⟩ T' rfl X'
  exact ⟨t2, st t2 a1, b1⟩
end PCL
section PKC
variable {Z : pw_Z} {X : va_W} {L : List Nat} {F : Nat → va_E} {k n : Nat} {Q : State → Prop} {pc pc2 : Nat} {lv : List (Nat × Value)} {st st0 : List Value} {cc : ByteArray} {nL : Nat} {own : String} {Ts : List Cond} {R0 : Room} {ret : Option FieldType}
variable {y : MethodName} {bytes : ByteArray} {maxL nargs index mc ms : Nat} {rty : Option FieldType} {ws ws' : List Cond} {rm : Room} {b : Nat} {As : List Value} {cx wr : va_W} {o : pw_O} {ci N : Nat} {Cn host : String} {T : u_T} {fs : List Value}
/-- behind any call: from its run to the walk's next point -/
theorem pk_back (C : pw_C Z cc nL own Ts R0 ret) (isC isR : List Nat) (hC : isC.map (fun i => X[i]?) = cx.map some) (hR : isR.map (fun i => X[i]?) = wr.map some) (hnR : va_nd isR = true) (hdis : ∀ i ∈ isR, i ∉ isC) (h2 : pc + 3 = pc2)
    (kk : ∀ (v : Option Value) (X' : va_W) (L' : List Nat) (F' : Nat → va_E), o v X' L' F' → PW Z (wr ++ X') L' F' (k + mc) (n + ms) Q pc2 lv (v.toList ++ st)) {H : Heap} {locs : List Loc} {ls : Array Slot} {a : Array Value} (hP : va_P (zG Z).1 vwCl (X ++ va_pl L F) H) (hD : va_D (zA Z) (X ++ va_pl L F)) (hS : va_S (zA Z) (zH Z) H locs) (hl : lv_has ls (zc Z).maxLocals lv)
    (hr : va_Run (zp Z) (zl Z) (ze Z) (zR Z) (zs Z) (zm Z) (zargs Z) (zbelow Z) (zmeth Z) (zc Z) H locs k n mc ms (F0 (zm Z) pc ls st0) st (pw_Q (zG Z) cx L F H.size o a) (va_A (cx ++ va_pl L F) H.size)) :
    W (zp Z) (zl Z) (ze Z) (zR Z) (zs Z) (zm Z) (zargs Z) (zbelow Z) (zmeth Z) (zc Z) H locs k n Q (F0 (zm Z) pc ls st0) := by
  subst h2
  have hFc : ∀ q, va_A (cx ++ va_pl L F) H.size q → zA Z q := va_freeP hD hS C.2.2.2.2.2.2.1 isC hC
  refine pw_call hr hS hFc hFc (fun v X' L' F' H1 locs1 ho hP1 hD1 hk hS1 => ?_)
  obtain ⟨hP2, hD2⟩ := va_joinP hP hD isC isR hC hR hnR hdis hk hFc hP1 hD1
  exact kk v X' L' F' ho H1 locs1 ls hP2 hD2 hS1 hl
theorem pw_pre (C : pw_C Z cc nL own Ts R0 ret) (isC : List Nat) (hC : isC.map (fun i => X[i]?) = cx.map some) (hnC : va_nd isC = true) {H : Heap} (hP : va_P (zG Z).1 vwCl (X ++ va_pl L F) H) (hD : va_D (zA Z) (X ++ va_pl L F)) : ∀ (av : List Value) (U : State), U.heap = H → (zs Z).WarmedH U.vm → va_Pc av (pw_B (zG Z) cx L F H.size) av.toArray U := fun av U hU hW => ⟨rfl, by rw [hU], by rw [hU]; exact hP.part isC hC, va_K.moved hW.alike C.2.2.2.2.2.1, (hD.part isC hnC hC).weaken (fun _ _ _ _ => trivial), pw_N_warm hW C.2.2.2.2.2.2.2.2.2.2⟩
theorem pk_callV (C : pw_C Z cc nL own Ts R0 ret) (hM : PM (zl Z) y ws rm (zG Z) (.ref b :: As) cx L F mc ms o) (hG : GoodIn Ts (wsV own index Cn y ws)) (hw : ws = Cond.code y bytes maxL rty :: ws') (hrc : rm.cells = mc) (hrs : rm.slots = ms) (nargs : Nat) (hd : y.cls = Cn ∧ y.cls ≠ "java/lang/invoke/MethodHandle" ∧ y.cls ≠ "java/lang/invoke/VarHandle" ∧ (parseMethodDescriptor y.desc).map (fun d => d.parameters.length) = some nargs) (hRm : rm.frames + 1 ≤ R0.frames ∧ 8 + (maxL + 11) + rm.locals ≤ R0.locals)
    (hrv : pw_at X L F b (.inr (ci, fs))) (hc : vwCl[ci]? = some (Cn, T, N)) (hn : As.length = nargs) (hst : st0 = As.reverse ++ .ref b :: st) (hcat : (st.map fun v => v.category).sum ≤ 8) (hf : k + mc ≤ R0.cells ∧ n + ms ≤ R0.slots)
    (isC isR : List Nat) (hC : isC.map (fun i => X[i]?) = cx.map some) (hnC : va_nd isC = true) (hR : isR.map (fun i => X[i]?) = wr.map some) (hnR : va_nd isR = true) (hdis : ∀ i ∈ isR, i ∉ isC) (hdg : decode cc pc = .ok (.invokevirtual index, 3)) (h2 : pc + 3 = pc2)
    (kk : ∀ (v : Option Value) (X' : va_W) (L' : List Nat) (F' : Nat → va_E), o v X' L' F' → PW Z (wr ++ X') L' F' (k + mc) (n + ms) Q pc2 lv (v.toList ++ st)) : PW Z X L F k n Q pc lv st0 := by
  intro H locs ls hP hD hS hl
  obtain ⟨q, hq⟩ := hrv
  have hR0 : zR Z = R0 := C.2.2.2.2.2.2.2.1
  have hcw := cwV (s := zs Z) (args := zargs Z) (R := zR Z) nargs C.2.2.2.2.1 hG hw hrc hrs hd (by rw [hR0]; exact hRm)
  exact pk_back C isC isR hC hR hnR hdis h2 kk hP hD hS hl (va_runV (As := As) (rest := st) (g := F0 (zm Z) pc ls st0) ⟨C.1, C.2.1, C.2.2.1, C.2.2.2.1, C.2.2.2.2.1⟩ (hM H.size) hcw ⟨pw_blind, va_recv C.2.2.2.2.2.1 hP hc hq, pw_pre C isC hC hnC hP hD (.ref b :: As)⟩ rfl hn (by show ls.size = nL; rw [hl.1]; exact C.2.2.1) hst (lv_room hcat) hdg (by rw [hR0]; exact hf))
theorem pk_callS (C : pw_C Z cc nL own Ts R0 ret) (hM : PM (zl Z) y ws rm (zG Z) As cx L F mc ms o) (hG : GoodIn Ts (va_wsS own index y ws)) (hw : ws = Cond.code y bytes maxL rty :: ws') (hrc : rm.cells = mc) (hrs : rm.slots = ms) (nargs : Nat) (hd : y.cls = own ∧ y.cls ≠ "java/lang/invoke/MethodHandle" ∧ y.cls ≠ "java/lang/invoke/VarHandle" ∧ (parseMethodDescriptor y.desc).map (fun d => d.parameters.length) = some nargs) (hRm : rm.frames + 1 ≤ R0.frames ∧ 8 + (maxL + 11) + rm.locals ≤ R0.locals)
    (hn : As.length = nargs) (hst : st0 = As.reverse ++ st) (hcat : (st.map fun v => v.category).sum ≤ 8) (hf : k + mc ≤ R0.cells ∧ n + ms ≤ R0.slots)
    (isC isR : List Nat) (hC : isC.map (fun i => X[i]?) = cx.map some) (hnC : va_nd isC = true) (hR : isR.map (fun i => X[i]?) = wr.map some) (hnR : va_nd isR = true) (hdis : ∀ i ∈ isR, i ∉ isC) (hdg : decode cc pc = .ok (.invokestatic index, 3)) (h2 : pc + 3 = pc2)
    (kk : ∀ (v : Option Value) (X' : va_W) (L' : List Nat) (F' : Nat → va_E), o v X' L' F' → PW Z (wr ++ X') L' F' (k + mc) (n + ms) Q pc2 lv (v.toList ++ st)) : PW Z X L F k n Q pc lv st0 := by
  intro H locs ls hP hD hS hl
  have hR0 : zR Z = R0 := C.2.2.2.2.2.2.2.1
  have hG' : GoodIn Ts (wsS own index y ws) := by
    have e1 := hd.1
    subst e1
    exact hG
  have hcw := cwS (s := zs Z) (args := zargs Z) (R := zR Z) nargs C.2.2.2.2.1 hG' hw hrc hrs hd (by rw [hR0]; exact hRm)
  exact pk_back C isC isR hC hR hnR hdis h2 kk hP hD hS hl (va_runS (As := As) (rest := st) (g := F0 (zm Z) pc ls st0) ⟨C.1, C.2.1, C.2.2.1, C.2.2.2.1, C.2.2.2.2.1⟩ (hM H.size) hcw ⟨pw_blind, pw_pre C isC hC hnC hP hD As⟩ rfl hn (by show ls.size = nL; rw [hl.1]; exact C.2.2.1) hst (lv_room hcat) hdg (by rw [hR0]; exact hf))
/-- a static method of a nest mate -/
theorem pk_callSN (C : pw_C Z cc nL own Ts R0 ret) (hM : PM (zl Z) y ws rm (zG Z) As cx L F mc ms o) (hG : GoodIn Ts ws) (hw : ws = Cond.code y bytes maxL rty :: ws') (hnest : Cond.methodLinkNest own index y host ∈ pw_N) (hst9 : Cond.static y ∈ Ts) (hini : Cond.initialized y.cls ∈ Ts) (hrc : rm.cells = mc) (hrs : rm.slots = ms) (nargs : Nat) (hd : y.cls ≠ "java/lang/invoke/MethodHandle" ∧ y.cls ≠ "java/lang/invoke/VarHandle" ∧ (parseMethodDescriptor y.desc).map (fun d => d.parameters.length) = some nargs) (hRm : rm.frames + 1 ≤ R0.frames ∧ 8 + (maxL + 11) + rm.locals ≤ R0.locals)
    (hn : As.length = nargs) (hst : st0 = As.reverse ++ st) (hcat : (st.map fun v => v.category).sum ≤ 8) (hf : k + mc ≤ R0.cells ∧ n + ms ≤ R0.slots)
    (isC isR : List Nat) (hC : isC.map (fun i => X[i]?) = cx.map some) (hnC : va_nd isC = true) (hR : isR.map (fun i => X[i]?) = wr.map some) (hnR : va_nd isR = true) (hdis : ∀ i ∈ isR, i ∉ isC) (hdg : decode cc pc = .ok (.invokestatic index, 3)) (h2 : pc + 3 = pc2)
    (kk : ∀ (v : Option Value) (X' : va_W) (L' : List Nat) (F' : Nat → va_E), o v X' L' F' → PW Z (wr ++ X') L' F' (k + mc) (n + ms) Q pc2 lv (v.toList ++ st)) : PW Z X L F k n Q pc lv st0 := by
  intro H locs ls hP hD hS hl
  have hR0 : zR Z = R0 := C.2.2.2.2.2.2.2.1
  have hcw := va_cnB (s := zs Z) (args := zargs Z) (R := zR Z) nargs C.2.2.2.2.1 hG hw hrc hrs (C.2.2.2.2.2.2.2.2.2.2 _ hnest) (C.2.2.2.2.1 _ hini) hd (by rw [hR0]; exact hRm)
  exact pk_back C isC isR hC hR hnR hdis h2 kk hP hD hS hl (va_runSN (As := As) (rest := st) (g := F0 (zm Z) pc ls st0) ⟨C.1, C.2.1, C.2.2.1, C.2.2.2.1, C.2.2.2.2.1⟩ (hM H.size) ⟨hcw, C.2.2.2.2.1 _ hst9, trivial⟩ ⟨pw_blind, pw_pre C isC hC hnC hP hD As⟩ rfl hn (by show ls.size = nL; rw [hl.1]; exact C.2.2.1) hst (lv_room hcat) hdg (by rw [hR0]; exact hf))
theorem pk_dV {v : Option Value} {X1 X2 : va_W} {st2 : List Value} (C : pw_C Z cc nL own Ts R0 ret) (hM : PM (zl Z) y ws rm (zG Z) (.ref b :: As) cx L F 0 0 (po_d v X1 L F)) (hG : GoodIn Ts (wsV own index Cn y ws)) (hw : ws = Cond.code y bytes maxL rty :: ws') (hrc : rm.cells = 0) (hrs : rm.slots = 0) (nargs : Nat) (hd : y.cls = Cn ∧ y.cls ≠ "java/lang/invoke/MethodHandle" ∧ y.cls ≠ "java/lang/invoke/VarHandle" ∧ (parseMethodDescriptor y.desc).map (fun d => d.parameters.length) = some nargs) (hRm : rm.frames + 1 ≤ R0.frames ∧ 8 + (maxL + 11) + rm.locals ≤ R0.locals)
    (hrv : pw_at X L F b (.inr (ci, fs))) (hc : vwCl[ci]? = some (Cn, T, N)) (hn : As.length = nargs) (hst : st0 = As.reverse ++ .ref b :: st) (hcat : (st.map fun v => v.category).sum ≤ 8) (hf : k ≤ R0.cells ∧ n ≤ R0.slots)
    (isC isR isB : List Nat) (hC : isC.map (fun i => X[i]?) = cx.map some) (hnC : va_nd isC = true) (hR : isR.map (fun i => X[i]?) = wr.map some) (hnR : va_nd isR = true) (hdis : ∀ i ∈ isR, i ∉ isC) (hB : isB.map (fun i => (wr ++ X1)[i]?) = X2.map some) (hnB : va_nd isB = true) (hdg : decode cc pc = .ok (.invokevirtual index, 3)) (h2 : pc + 3 = pc2)
    (hst2 : v.toList ++ st = st2) (kk : PW Z X2 L F k n Q pc2 lv st2) : PW Z X L F k n Q pc lv st0 := by
  subst hst2
  refine pk_callV C hM hG hw hrc hrs nargs hd hRm hrv hc hn hst hcat hf isC isR hC hnC hR hnR hdis hdg h2 (fun v' X' L' F' ho => ?_)
  obtain ⟨rfl, rfl, rfl, rfl⟩ := ho
  exact pw_perm isB hnB hB kk
theorem pk_dS {v : Option Value} {X1 X2 : va_W} {st2 : List Value} (C : pw_C Z cc nL own Ts R0 ret) (hM : PM (zl Z) y ws rm (zG Z) As cx L F 0 0 (po_d v X1 L F)) (hG : GoodIn Ts (va_wsS own index y ws)) (hw : ws = Cond.code y bytes maxL rty :: ws') (hrc : rm.cells = 0) (hrs : rm.slots = 0) (nargs : Nat) (hd : y.cls = own ∧ y.cls ≠ "java/lang/invoke/MethodHandle" ∧ y.cls ≠ "java/lang/invoke/VarHandle" ∧ (parseMethodDescriptor y.desc).map (fun d => d.parameters.length) = some nargs) (hRm : rm.frames + 1 ≤ R0.frames ∧ 8 + (maxL + 11) + rm.locals ≤ R0.locals)
    (hn : As.length = nargs) (hst : st0 = As.reverse ++ st) (hcat : (st.map fun v => v.category).sum ≤ 8) (hf : k ≤ R0.cells ∧ n ≤ R0.slots)
    (isC isR isB : List Nat) (hC : isC.map (fun i => X[i]?) = cx.map some) (hnC : va_nd isC = true) (hR : isR.map (fun i => X[i]?) = wr.map some) (hnR : va_nd isR = true) (hdis : ∀ i ∈ isR, i ∉ isC) (hB : isB.map (fun i => (wr ++ X1)[i]?) = X2.map some) (hnB : va_nd isB = true) (hdg : decode cc pc = .ok (.invokestatic index, 3)) (h2 : pc + 3 = pc2)
    (hst2 : v.toList ++ st = st2) (kk : PW Z X2 L F k n Q pc2 lv st2) : PW Z X L F k n Q pc lv st0 := by
  subst hst2
  refine pk_callS C hM hG hw hrc hrs nargs hd hRm hn hst hcat hf isC isR hC hnC hR hnR hdis hdg h2 (fun v' X' L' F' ho => ?_)
  obtain ⟨rfl, rfl, rfl, rfl⟩ := ho
  exact pw_perm isB hnB hB kk
theorem pk_dSN {v : Option Value} {X1 X2 : va_W} {st2 : List Value} (C : pw_C Z cc nL own Ts R0 ret) (hM : PM (zl Z) y ws rm (zG Z) As cx L F 0 0 (po_d v X1 L F)) (hG : GoodIn Ts ws) (hw : ws = Cond.code y bytes maxL rty :: ws') (hnest : Cond.methodLinkNest own index y host ∈ pw_N) (hst9 : Cond.static y ∈ Ts) (hini : Cond.initialized y.cls ∈ Ts) (hrc : rm.cells = 0) (hrs : rm.slots = 0) (nargs : Nat) (hd : y.cls ≠ "java/lang/invoke/MethodHandle" ∧ y.cls ≠ "java/lang/invoke/VarHandle" ∧ (parseMethodDescriptor y.desc).map (fun d => d.parameters.length) = some nargs) (hRm : rm.frames + 1 ≤ R0.frames ∧ 8 + (maxL + 11) + rm.locals ≤ R0.locals)
    (hn : As.length = nargs) (hst : st0 = As.reverse ++ st) (hcat : (st.map fun v => v.category).sum ≤ 8) (hf : k ≤ R0.cells ∧ n ≤ R0.slots)
    (isC isR isB : List Nat) (hC : isC.map (fun i => X[i]?) = cx.map some) (hnC : va_nd isC = true) (hR : isR.map (fun i => X[i]?) = wr.map some) (hnR : va_nd isR = true) (hdis : ∀ i ∈ isR, i ∉ isC) (hB : isB.map (fun i => (wr ++ X1)[i]?) = X2.map some) (hnB : va_nd isB = true) (hdg : decode cc pc = .ok (.invokestatic index, 3)) (h2 : pc + 3 = pc2)
    (hst2 : v.toList ++ st = st2) (kk : PW Z X2 L F k n Q pc2 lv st2) : PW Z X L F k n Q pc lv st0 := by
  subst hst2
  refine pk_callSN C hM hG hw hnest hst9 hini hrc hrs nargs hd hRm hn hst hcat hf isC isR hC hnC hR hnR hdis hdg h2 (fun v' X' L' F' ho => ?_)
  obtain ⟨rfl, rfl, rfl, rfl⟩ := ho
  exact pw_perm isB hnB hB kk
end PKC

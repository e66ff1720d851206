/-! what may leave by a throw -/
abbrev nIAE : String := "java/lang/IllegalArgumentException"
abbrev nISE : String := "java/lang/IllegalStateException"
def pw_strs : List (Nat × String) := [(49, "these are not the terms of a part"), (60, "there are 6 parts"), (72, "no such part or month, or so many units can't be"), (82, "an event would be a breach"), (91, "these are not the terms of an event"), (100, "no room for the event"), (105, "it or a later one would be a breach"), (125, "no such part, month or what"), (154, "no such part or month"), (165, "all months are posted"), (177, "no such part")]
def pw_XW : List Cond := [.castable nIAE nIAE, .castable nISE nISE, .declares (Bundle.initS "java/lang/RuntimeException"), .declares (Bundle.initS "java/lang/Exception"), .declares (Bundle.initS Bundle.tN)]
theorem pw_XW_warm {s U : State} (hW : s.WarmedH U.vm) (h : ∀ w ∈ pw_XW, va_Nw w s) : ∀ w ∈ pw_XW, va_Nw w U := by
  simp only [pw_XW, List.forall_mem_cons] at h ⊢
  obtain ⟨h1, h2, h3, h4, h5, h6⟩ := h
  exact ⟨va_Nw.warmC hW h1, va_Nw.warmC hW h2, va_Nw.warmD hW h3, va_Nw.warmD hW h4, va_Nw.warmD hW h5, fun _ h => absurd h List.not_mem_nil⟩
theorem pw_XW_tabs : ∀ w ∈ pw_XW, w.onTables = true := by decide +kernel
/-- what a throw, and a row of references, want of the state: the texts, two statics of Throwable, who can be cast to whom -/
def pw_E (A : Nat → Prop) (U : State) (H : Heap) : Prop := (∀ q ∈ pw_strs, ∃ sa : Nat, vk_R RX4 q.1 q.2 sa U) ∧ vx_Zq Bundle.tN "UNASSIGNED_STACK" Bundle.steD A U H ∧ vx_Zq Bundle.tN "SUPPRESSED_SENTINEL" Bundle.listD A U H ∧ (∀ w ∈ pw_XW, va_Nw w U) ∧ va_Nc nISE nIAE U ∧ va_AO RX1 U ∧ va_AO RX2 U
theorem pw_E.warm {A : Nat → Prop} {s U : State} {H H1 : Heap} (hW : s.WarmedH U.vm) (hk : ∀ a : Nat, a < H.size → ¬ A a → H1[a]? = H[a]?) (h : pw_E A s H) : pw_E A U H1 := by
  obtain ⟨h1, h2, h3, h4, h6, h7, h8⟩ := h
  exact ⟨fun q hq => (h1 q hq).imp fun sa h => vk_R.warm hW h, (vx_Zq.moved hW.alike h2).kept hk, (vx_Zq.moved hW.alike h3).kept hk, pw_XW_warm hW h4, h6.moved hW.alike, h7.moved hW.alike, h8.moved hW.alike⟩
theorem pw_E.narrow {A B : Nat → Prop} {U : State} {H : Heap} (h : pw_E A U H) (hAB : ∀ q, B q → A q) : pw_E B U H := by
  obtain ⟨h1, h2, h3, h4⟩ := h
  exact ⟨h1, h2.narrow hAB, h3.narrow hAB, h4⟩
/-- a returned value, or the class of what is thrown -/
abbrev pw_OX : Type := (Option Value ⊕ String) → va_W → List Nat → (Nat → va_E) → Prop
def pw_BE (G : pw_G) (X : va_W) (L : List Nat) (F : Nat → va_E) (sz : Nat) : State → Prop := fun U => pw_B G X L F sz U ∧ pw_E (va_A (X ++ va_pl L F) sz) U U.heap
def pw_XC (G : pw_G) (X : va_W) (L : List Nat) (F : Nat → va_E) (sz : Nat) (o : pw_OX) : String → State → State → Prop := fun E st t =>
  (∃ (X' : va_W) (L' : List Nat) (F' : Nat → va_E), o (.inr E) X' L' F' ∧ va_P G.1 vwCl (X' ++ va_pl L' F') t.heap ∧ va_D (va_A (X ++ va_pl L F) sz) (X' ++ va_pl L' F')) ∧ va_F (va_A (X ++ va_pl L F) sz) st t
abbrev ox_l (o : pw_OX) : pw_O := fun v => o (.inl v)
def XM (l : Launch) (y : MethodName) (ws : List Cond) (rm : Room) (G : pw_G) (av : List Value) (X : va_W) (L : List Nat) (F : Nat → va_E) (mc ms : Nat) (o : pw_OX) : Prop :=
  ∀ sz : Nat, vx_Met l y ws rm (va_Pc av (pw_BE G X L F sz)) (pw_Q G X L F sz (ox_l o)) (pw_XC G X L F sz o) mc ms (va_A (X ++ va_pl L F) sz)
/-- a contract that wants what a throw wants, and returns -/
def EM (l : Launch) (y : MethodName) (ws : List Cond) (rm : Room) (G : pw_G) (av : List Value) (X : va_W) (L : List Nat) (F : Nat → va_E) (mc ms : Nat) (o : pw_O) : Prop :=
  ∀ sz : Nat, Met l y ws rm (va_Pc av (pw_BE G X L F sz)) (pw_Q G X L F sz o) mc ms (va_A (X ++ va_pl L F) sz)
theorem pw_blindE {G : pw_G} {av : List Value} {X : va_W} {L : List Nat} {F : Nat → va_E} {sz : Nat} : FrameBlind (va_Pc av (pw_BE G X L F sz)) := fun a U g mk q => by
  obtain ⟨q0, ⟨q1, qP, qK, qD, qN⟩, qE⟩ := q
  exact ⟨q0, ⟨q1, qP, va_K.moved (u := U) (U := U.calling g mk a) (Vm.Alike.refl U.vm) qK, qD, pw_N_same (u := U) (U := U.calling g mk a) rfl qN⟩, pw_E.warm (s := U) (U := U.calling g mk a) (State.WarmedH.refl U) (fun _ _ _ => rfl) qE⟩
def pw_EndX (Z : pw_Z) (Q : State → Prop) (X : va_W) (L : List Nat) (F : Nat → va_E) (o : pw_OX) (mc ms : Nat) : Prop :=
  Q = vx_MQ (zbelow Z) (pw_Q (zG Z) X L F (zH Z).size (ox_l o)) (pw_XC (zG Z) X L F (zH Z).size o) (zargs Z) (zs Z) mc ms (zA Z) ∧ zA Z = va_A (X ++ va_pl L F) (zH Z).size ∧ zH Z = (zs Z).heap
/-- the rest of what a body that may throw stands on -/
def pw_CX (Z : pw_Z) : Prop := pw_E (zA Z) (zs Z) (zs Z).heap ∧ (∀ x ∈ (zc Z).exceptionTable.toList, False) ∧ (zl Z).stackTraces = false
theorem xm_entry {l : Launch} {y : MethodName} {ws ws' : List Cond} {rm : Room} {G : pw_G} {av : List Value} {X : va_W} {L : List Nat} {F : Nat → va_E} {mc ms : Nat} {o : pw_OX} {cc : ByteArray} {maxL : Nat} {ret : Option FieldType} {own : String} (hst : l.stackTraces = false) (hy : plainName y.cls = true) (hw : ws = Cond.code y cc maxL ret :: ws') (hown : y.cls = own) (hlen : (lg_sl av).length ≤ maxL)
    (body : ∀ (Z : pw_Z) (Q : State → Prop), pw_C Z cc maxL own ws rm ret → zl Z = l → zG Z = G → pw_CX Z → pw_EndX Z Q X L F o mc ms → PW Z X L F 0 0 Q 0 (lv_args 0 av) []) : XM l y ws rm G av X L F mc ms o := by
  intro sz
  refine vx_ofW hy hw ?_
  intro p e s m args below meth c s₁ B hml ht hv
  obtain ⟨rfl, ⟨hsz, hP, hK, hD0, hN⟩, hE⟩ := hv
  subst hsz
  subst hown
  have h := body ((p, l, e, (headSpec ws rm).room, s, m, av.toArray, below, meth, c), (G, va_A (X ++ va_pl L F) s.heap.size, s.heap)) _ ⟨B.exec, B.bytes, hml, findClass_of_methodNamed B.named, atoms_spec (ws := ws) B.pre, hK, fun q h => Or.inr h, rfl, B.returns, B.notSynchronized, hN⟩ rfl rfl ⟨hE, ht, hst⟩ ⟨rfl, rfl, rfl⟩
  rw [lg_entry_eq]
  exact h s.heap [] _ hP hD0.self va_S.rf (by rw [show (zc ((p, l, e, (headSpec ws rm).room, s, m, av.toArray, below, meth, c), (G, va_A (X ++ va_pl L F) s.heap.size, s.heap))).maxLocals = maxL from hml]; exact lv_entry av hlen)
theorem em_entry {l : Launch} {y : MethodName} {ws ws' : List Cond} {rm : Room} {G : pw_G} {av : List Value} {X : va_W} {L : List Nat} {F : Nat → va_E} {mc ms : Nat} {o : pw_O} {cc : ByteArray} {maxL : Nat} {ret : Option FieldType} {own : String} (hy : plainName y.cls = true) (hw : ws = Cond.code y cc maxL ret :: ws') (hown : y.cls = own) (hlen : (lg_sl av).length ≤ maxL)
    (body : ∀ (Z : pw_Z) (Q : State → Prop), pw_C Z cc maxL own ws rm ret → zl Z = l → zG Z = G → (zmeth Z).name = y.name → pw_E (zA Z) (zs Z) (zs Z).heap → pw_End Z Q X L F o mc ms → PW Z X L F 0 0 Q 0 (lv_args 0 av) []) : EM l y ws rm G av X L F mc ms o := by
  intro sz
  refine Met.ofW hy hw ?_
  intro p e s m args below meth c s₁ B hml hv
  obtain ⟨rfl, ⟨hsz, hP, hK, hD0, hN⟩, hE⟩ := hv
  subst hsz
  subst hown
  have h := body ((p, l, e, (headSpec ws rm).room, s, m, av.toArray, below, meth, c), (G, va_A (X ++ va_pl L F) s.heap.size, s.heap)) _ ⟨B.exec, B.bytes, hml, findClass_of_methodNamed B.named, atoms_spec (ws := ws) B.pre, hK, fun q h => Or.inr h, rfl, B.returns, B.notSynchronized, hN⟩ rfl rfl (name_of_methodNamed B.named B.method).1 hE ⟨rfl, rfl, rfl⟩
  rw [lg_entry_eq]
  exact h s.heap [] _ hP hD0.self va_S.rf (by rw [show (zc ((p, l, e, (headSpec ws rm).room, s, m, av.toArray, below, meth, c), (G, va_A (X ++ va_pl L F) s.heap.size, s.heap))).maxLocals = maxL from hml]; exact lv_entry av hlen)
section PXR
variable {Z : pw_Z} {X X0 : va_W} {L L0 : List Nat} {F F0' : Nat → va_E} {k n mc ms : Nat} {Q : State → Prop} {pc pc2 : Nat} {lv : List (Nat × Value)} {st : List Value} {cc : ByteArray} {nL : Nat} {own : String} {Ts : List Cond} {R0 : Room} {ret : Option FieldType} {o : pw_OX}
/-- a return in a body that may throw -/
theorem px_ret (hE : pw_EndX Z Q X0 L0 F0' o mc ms) (hk : k ≤ mc) (hn : n ≤ ms) (h : ∀ Q', pw_End Z Q' X0 L0 F0' (ox_l o) mc ms → PW Z X L F mc ms Q' pc lv st) : PW Z X L F k n Q pc lv st := by
  refine pw_widen hk hn ?_
  obtain ⟨rfl, hA, hH⟩ := hE
  intro H locs ls hP hD hS hl
  exact vx_ret (h _ ⟨rfl, hA, hH⟩ H locs ls hP hD hS hl)
/-- throw new E(text) -/
theorem px_throw (C : pw_C Z cc nL own Ts R0 ret) (hX : pw_CX Z) (hE : pw_EndX Z Q X0 L0 F0' o mc ms) {E text : String} {ik is ic : Nat} (howns : own = RX4) (hs : (is, text) ∈ pw_strs) (hEE : E = nIAE ∨ E = nISE)
    (hk : Cond.classLink RX4 ik E ∈ Ts) (hini : Cond.initialized E ∈ Ts) (hat1 : ∀ w ∈ (vx_atS RX4 ic E ["java/lang/RuntimeException", "java/lang/Exception"]).filter goodWord, w ∈ Ts) (hat2 : ∀ w ∈ (vx_atS RX4 ic E ["java/lang/RuntimeException", "java/lang/Exception"]).filter (fun w => !goodWord w), w ∈ pw_XW)
    (hgood : ∀ w ∈ Cond.classLink RX4 ik E :: Cond.initialized E :: vx_atS RX4 ic E ["java/lang/RuntimeException", "java/lang/Exception"], vx_ot w = true) (hfit : Bundle.fit E = true) (hfit2 : ∀ n ∈ ["java/lang/RuntimeException", "java/lang/Exception"], Bundle.fit n = true)
    (d0 : decode cc pc = .ok (.new ik, 3)) (d3 : decode cc (pc + 3) = .ok (.dup, 1)) (d4 : decode cc (pc + 4) = .ok (.ldc is, 2)) (d6 : decode cc (pc + 6) = .ok (.invokespecial ic, 3)) (d9 : decode cc (pc + 9) = .ok (.athrow, 1))
    (hRf : 5 < R0.frames) (hRl : (st.map fun v => v.category).sum + 82 ≤ R0.locals) (hRc : k + 1 ≤ R0.cells) (hRs : n + 6 ≤ R0.slots) (hmc : k + 1 ≤ mc) (hms : n + 6 ≤ ms) (ho : o (.inr E) X L F) : PW Z X L F k n Q pc lv st := by
  subst howns
  obtain ⟨hE1, ht, hst⟩ := hX
  obtain ⟨hs1, hU, hN, hc1, -⟩ := hE1
  obtain ⟨rfl, hA, hH⟩ := hE
  intro H locs ls hP hD hS hl
  rw [hH] at hS
  obtain ⟨sa, hsa⟩ := hs1 _ hs
  have hR0 : zR Z = R0 := C.2.2.2.2.2.2.2.1
  have hts := C.2.2.2.2.1
  have hat : ∀ w ∈ vx_atS RX4 ic E ["java/lang/RuntimeException", "java/lang/Exception"], w.before (zargs Z) (zs Z) = true := vx_hat (B := pw_XW) (fun w hw => hts w (hat1 w hw)) hat2 (fun w hw => va_Nw.use (pw_XW_tabs w hw) (hc1 w hw))
  refine vx_throwS (names := ["java/lang/RuntimeException", "java/lang/Exception"]) C.1 C.2.1 hst C.2.2.2.1 hfit hfit2 (hts _ hk) (hts _ hini) hsa hat hgood hU hN hS (by rw [hl.1]) d0 d3 d4 d6 d9 (fun x hx => absurd (ht x hx) (fun z => z)) (by rw [hR0]; exact hRf) (by rw [hR0]; exact hRl) (by rw [hR0]; exact hRc) (by rw [hR0]; exact hRs) C.2.2.2.2.2.2.2.2.2.1 ?_ hS.2.2 hmc hms
  intro t hal hz hk9
  have hPt : va_P (zG Z).1 vwCl (X ++ va_pl L F) t.heap := hP.kept (fun k x hx => hk9 x.1 ((hP k x hx).lt))
  have hD' : va_D (va_A (X0 ++ va_pl L0 F0') (zH Z).size) (X ++ va_pl L F) := by rw [← hA]; exact hD
  refine ⟨⟨X, L, F, ho, hPt, hD'⟩, ?_⟩
  rw [← hA]
  exact ⟨Nat.le_trans hS.1 hz, fun q h1 h2 => (hk9 q (Nat.lt_of_lt_of_le h1 hS.1)).trans (hS.2.1 q h1 h2)⟩
end PXR
/-- the end of a body that may throw, told by a code: 0 it returned, 1 and 2 what it threw -/
def ox_d (R : Int32) (v : Option Value) (X1 : va_W) (L : List Nat) (F : Nat → va_E) : pw_OX := fun r X' L' F' => (match r with | .inl v' => R = 0 ∧ v' = v | .inr E => (R = 1 ∧ E = nIAE) ∨ (R = 2 ∧ E = nISE)) ∧ X' = X1 ∧ L' = L ∧ F' = F
theorem xt_51 : ∀ w ∈ (vx_atS RX4 51 nIAE ["java/lang/RuntimeException", "java/lang/Exception"]).filter (fun w => !goodWord w), w ∈ pw_XW := by decide +kernel
theorem xt_62 : ∀ w ∈ (vx_atS RX4 62 nISE ["java/lang/RuntimeException", "java/lang/Exception"]).filter (fun w => !goodWord w), w ∈ pw_XW := by decide +kernel
theorem xg_51 : ∀ w ∈ Cond.classLink RX4 47 nIAE :: Cond.initialized nIAE :: vx_atS RX4 51 nIAE ["java/lang/RuntimeException", "java/lang/Exception"], vx_ot w = true := by decide +kernel
theorem xg_62 : ∀ w ∈ Cond.classLink RX4 58 nISE :: Cond.initialized nISE :: vx_atS RX4 62 nISE ["java/lang/RuntimeException", "java/lang/Exception"], vx_ot w = true := by decide +kernel

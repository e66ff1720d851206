/-! new objects and rows; constructors; calls of what may throw -/
theorem pw_cA {G : pw_G} {U : State} {cA g : ClassId} {ty : FieldType} {j : Nat} (h : va_K G.1 vwCl (pw_tys G ++ [(cA, ty)]) U) (hj : (pw_tys G)[j]? = some (g, ty)) : cA = g := by
  have h1 := (h.2 4 (cA, ty) rfl).2
  have h2 := (h.2 j (g, ty) (by rw [List.getElem?_append_left (List.getElem?_eq_some_iff.mp hj).1]; exact hj)).2
  cases ty with
  | object C =>
    obtain ⟨_, _, _, _, _, e1⟩ := h1
    obtain ⟨_, _, _, _, _, e2⟩ := h2
    exact Option.some.inj (e1.symm.trans e2)
  | _ => exact Option.some.inj (h1.symm.trans h2)
section PK2
variable {Z : pw_Z} {X : va_W} {L : List Nat} {F : Nat → va_E} {k n : Nat} {Q : State → Prop} {pc pc2 : Nat} {lv : List (Nat × Value)} {st st0 : List Value} {cc : ByteArray} {nL : Nat} {own : String} {Ts : List Cond} {R0 : Room} {ret : Option FieldType}
variable {y : MethodName} {bytes : ByteArray} {maxL nargs index mc ms : Nat} {rty : Option FieldType} {ws ws' : List Cond} {rm : Room} {b : Nat} {As : List Value} {cx wr : va_W} {o : pw_O} {ox : pw_OX} {ci N : Nat} {Cn host : String} {T : u_T} {fs : List Value}
theorem pk_newP (C : pw_C Z cc nL own Ts R0 ret) (ty : Nat → FieldType) (hin : ∀ w ∈ u_ws Cn T N, w ∈ Ts) (hty : ∀ k, k < N → parseFieldDescriptor (T k).2.2.1 = some (ty k)) (hcl : Cond.classLink own index Cn ∈ Ts) (hinst : Cond.instantiable Cn N ∈ Ts) (hini : Cond.initialized Cn ∈ Ts) (hc : vwCl[ci]? = some (Cn, T, N)) (hfs : ∀ j, j < N → defaultValue (ty j) = vp_V fs j) (hk : k + 1 ≤ R0.cells) (hn : n + N ≤ R0.slots) (hdg : decode cc pc = .ok (.new index, 3)) (h2 : pc + 3 = pc2)
    (kk : ∀ q : Nat, q ∉ L → PW Z X (L ++ [q]) (va_up F q (.inr (ci, fs))) (k + 1) (n + N) Q pc2 lv (.ref q :: st)) : PW Z X L F k n Q pc lv st := by
  subst h2
  intro H locs ls hP hD hS hl
  have hR0 : zR Z = R0 := C.2.2.2.2.2.2.2.1
  refine va_new C.1 C.2.1 C.2.2.2.2.1 hin ty hty C.2.2.2.1 (C.2.2.2.2.1 _ hcl) (C.2.2.2.2.1 _ hinst) (C.2.2.2.2.1 _ hini) C.2.2.2.2.2.1 hP hD hS C.2.2.2.2.2.2.1 hc hfs (by rw [hR0]; exact hk) (by rw [hR0]; exact hn) hdg (fun q H1 hP1 hD1 hS1 => ?_)
  have hq : q ∉ L := va_pl_fresh2 hD1
  rw [List.append_assoc, va_pl_push hq] at hP1 hD1
  exact kk q hq H1 locs ls hP1 hD1 hS1 hl
theorem pw_nil {X : va_W} {F : Nat → va_E} {x : Nat × va_E} : (X ++ va_pl [] F) ++ [x] = (X ++ [x]) ++ va_pl [] F := by simp [va_pl]
theorem pk_newX (C : pw_C Z cc nL own Ts R0 ret) (ty : Nat → FieldType) (hin : ∀ w ∈ u_ws Cn T N, w ∈ Ts) (hty : ∀ k, k < N → parseFieldDescriptor (T k).2.2.1 = some (ty k)) (hcl : Cond.classLink own index Cn ∈ Ts) (hinst : Cond.instantiable Cn N ∈ Ts) (hini : Cond.initialized Cn ∈ Ts) (hc : vwCl[ci]? = some (Cn, T, N)) (hfs : ∀ j, j < N → defaultValue (ty j) = vp_V fs j) (hk : k + 1 ≤ R0.cells) (hn : n + N ≤ R0.slots) (hdg : decode cc pc = .ok (.new index, 3)) (h2 : pc + 3 = pc2)
    (kk : ∀ q : Nat, PW Z (X ++ [(q, .inr (ci, fs))]) [] F (k + 1) (n + N) Q pc2 lv (.ref q :: st)) : PW Z X [] F k n Q pc lv st := by
  subst h2
  intro H locs ls hP hD hS hl
  have hR0 : zR Z = R0 := C.2.2.2.2.2.2.2.1
  refine va_new C.1 C.2.1 C.2.2.2.2.1 hin ty hty C.2.2.2.1 (C.2.2.2.2.1 _ hcl) (C.2.2.2.2.1 _ hinst) (C.2.2.2.2.1 _ hini) C.2.2.2.2.2.1 hP hD hS C.2.2.2.2.2.2.1 hc hfs (by rw [hR0]; exact hk) (by rw [hR0]; exact hn) hdg (fun q H1 hP1 hD1 hS1 => ?_)
  rw [pw_nil] at hP1 hD1
  exact kk q H1 locs ls hP1 hD1 hS1 hl
theorem pk_newaIX (C : pw_C Z cc nL own Ts R0 ret) {v : Int32} (harr : Cond.arrayClass .int ∈ Ts) (hv : ¬ v < 0) (hN : v.toNatClampNeg = N) (hb : N * 4 ≤ 536870912) (hk : k + 1 ≤ R0.cells) (hn : n + N ≤ R0.slots) (hdg : decode cc pc = .ok (.newarray .int, 2)) (h2 : pc + 2 = pc2)
    (kk : ∀ q : Nat, PW Z (X ++ [(q, .inl ((zG Z).2.1, N, .inl (fun _ => 0)))]) [] F (k + 1) (n + N) Q pc2 lv (.ref q :: st)) : PW Z X [] F k n Q pc lv (.int v :: st) := by
  subst h2
  intro H locs ls hP hD hS hl
  have hR0 : zR Z = R0 := C.2.2.2.2.2.2.2.1
  refine va_newa (atype := .int) (ty := .int) (a0 := (N, .inl (fun _ => 0))) C.1 C.2.1 (C.2.2.2.2.1 _ harr) rfl C.2.2.2.2.2.1 hP hD hS C.2.2.2.2.2.2.1 (fun _ => rfl) hv hN hb (by rw [hR0]; exact hk) (by rw [hR0]; exact hn) hdg (fun q cA H1 hK1 hP1 hD1 hS1 => ?_)
  have hcA : cA = (zG Z).2.1 := pw_cA hK1 (j := 0) rfl
  subst hcA
  rw [pw_nil] at hP1 hD1
  exact kk q H1 locs ls hP1 hD1 hS1 hl
theorem pk_newaIP (C : pw_C Z cc nL own Ts R0 ret) {v : Int32} (harr : Cond.arrayClass .int ∈ Ts) (hv : ¬ v < 0) (hN : v.toNatClampNeg = N) (hb : N * 4 ≤ 536870912) (hk : k + 1 ≤ R0.cells) (hn : n + N ≤ R0.slots) (hdg : decode cc pc = .ok (.newarray .int, 2)) (h2 : pc + 2 = pc2)
    (kk : ∀ q : Nat, q ∉ L → PW Z X (L ++ [q]) (va_up F q (.inl ((zG Z).2.1, N, .inl (fun _ => 0)))) (k + 1) (n + N) Q pc2 lv (.ref q :: st)) : PW Z X L F k n Q pc lv (.int v :: st) := by
  subst h2
  intro H locs ls hP hD hS hl
  have hR0 : zR Z = R0 := C.2.2.2.2.2.2.2.1
  refine va_newa (atype := .int) (ty := .int) (a0 := (N, .inl (fun _ => 0))) C.1 C.2.1 (C.2.2.2.2.1 _ harr) rfl C.2.2.2.2.2.1 hP hD hS C.2.2.2.2.2.2.1 (fun _ => rfl) hv hN hb (by rw [hR0]; exact hk) (by rw [hR0]; exact hn) hdg (fun q cA H1 hK1 hP1 hD1 hS1 => ?_)
  have hcA : cA = (zG Z).2.1 := pw_cA hK1 (j := 0) rfl
  subst hcA
  have hq : q ∉ L := va_pl_fresh2 hD1
  rw [List.append_assoc, va_pl_push hq] at hP1 hD1
  exact kk q hq H1 locs ls hP1 hD1 hS1 hl
theorem pk_newaJX (C : pw_C Z cc nL own Ts R0 ret) {v : Int32} (harr : Cond.arrayClass .long ∈ Ts) (hv : ¬ v < 0) (hN : v.toNatClampNeg = N) (hb : N * 8 ≤ 536870912) (hk : k + 1 ≤ R0.cells) (hn : n + N ≤ R0.slots) (hdg : decode cc pc = .ok (.newarray .long, 2)) (h2 : pc + 2 = pc2)
    (kk : ∀ q : Nat, PW Z (X ++ [(q, .inl ((zG Z).2.2.1, N, .inr (.inl (fun _ => 0))))]) [] F (k + 1) (n + N) Q pc2 lv (.ref q :: st)) : PW Z X [] F k n Q pc lv (.int v :: st) := by
  subst h2
  intro H locs ls hP hD hS hl
  have hR0 : zR Z = R0 := C.2.2.2.2.2.2.2.1
  refine va_newa (atype := .long) (ty := .long) (a0 := (N, .inr (.inl (fun _ => 0)))) C.1 C.2.1 (C.2.2.2.2.1 _ harr) rfl C.2.2.2.2.2.1 hP hD hS C.2.2.2.2.2.2.1 (fun _ => rfl) hv hN hb (by rw [hR0]; exact hk) (by rw [hR0]; exact hn) hdg (fun q cA H1 hK1 hP1 hD1 hS1 => ?_)
  have hcA : cA = (zG Z).2.2.1 := pw_cA hK1 (j := 1) rfl
  subst hcA
  rw [pw_nil] at hP1 hD1
  exact kk q H1 locs ls hP1 hD1 hS1 hl
theorem pk_newaJP (C : pw_C Z cc nL own Ts R0 ret) {v : Int32} (harr : Cond.arrayClass .long ∈ Ts) (hv : ¬ v < 0) (hN : v.toNatClampNeg = N) (hb : N * 8 ≤ 536870912) (hk : k + 1 ≤ R0.cells) (hn : n + N ≤ R0.slots) (hdg : decode cc pc = .ok (.newarray .long, 2)) (h2 : pc + 2 = pc2)
    (kk : ∀ q : Nat, q ∉ L → PW Z X (L ++ [q]) (va_up F q (.inl ((zG Z).2.2.1, N, .inr (.inl (fun _ => 0))))) (k + 1) (n + N) Q pc2 lv (.ref q :: st)) : PW Z X L F k n Q pc lv (.int v :: st) := by
  subst h2
  intro H locs ls hP hD hS hl
  have hR0 : zR Z = R0 := C.2.2.2.2.2.2.2.1
  refine va_newa (atype := .long) (ty := .long) (a0 := (N, .inr (.inl (fun _ => 0)))) C.1 C.2.1 (C.2.2.2.2.1 _ harr) rfl C.2.2.2.2.2.1 hP hD hS C.2.2.2.2.2.2.1 (fun _ => rfl) hv hN hb (by rw [hR0]; exact hk) (by rw [hR0]; exact hn) hdg (fun q cA H1 hK1 hP1 hD1 hS1 => ?_)
  have hcA : cA = (zG Z).2.2.1 := pw_cA hK1 (j := 1) rfl
  subst hcA
  have hq : q ∉ L := va_pl_fresh2 hD1
  rw [List.append_assoc, va_pl_push hq] at hP1 hD1
  exact kk q hq H1 locs ls hP1 hD1 hS1 hl
theorem pk_newqEX (C : pw_C Z cc nL own Ts R0 ret) {v : Int32} (hcl : Cond.classLink own index RX1 ∈ Ts) (hao : va_AO RX1 (zs Z)) (hv : ¬ v < 0) (hN : v.toNatClampNeg = N) (hb : N * 4 ≤ 536870912) (hk : k + 1 ≤ R0.cells) (hn : n + N ≤ R0.slots) (hdg : decode cc pc = .ok (.anewarray index, 3)) (h2 : pc + 3 = pc2)
    (kk : ∀ q : Nat, PW Z (X ++ [(q, .inl ((zG Z).2.2.2.1, N, .inr (.inr (.inr (.inr (fun _ => none))))))]) [] F (k + 1) (n + N) Q pc2 lv (.ref q :: st)) : PW Z X [] F k n Q pc lv (.int v :: st) := by
  subst h2
  intro H locs ls hP hD hS hl
  have hR0 : zR Z = R0 := C.2.2.2.2.2.2.2.1
  refine va_newq (C := RX1) C.1 C.2.1 C.2.2.2.1 (C.2.2.2.2.1 _ hcl) hao C.2.2.2.2.2.1 hP hD hS C.2.2.2.2.2.2.1 hv hN hb (by rw [hR0]; exact hk) (by rw [hR0]; exact hn) hdg (fun q cA H1 hK1 hP1 hD1 hS1 => ?_)
  have hcA : cA = (zG Z).2.2.2.1 := pw_cA hK1 (j := 2) rfl
  subst hcA
  rw [pw_nil] at hP1 hD1
  exact kk q H1 locs ls hP1 hD1 hS1 hl
theorem pk_newqEP (C : pw_C Z cc nL own Ts R0 ret) {v : Int32} (hcl : Cond.classLink own index RX1 ∈ Ts) (hao : va_AO RX1 (zs Z)) (hv : ¬ v < 0) (hN : v.toNatClampNeg = N) (hb : N * 4 ≤ 536870912) (hk : k + 1 ≤ R0.cells) (hn : n + N ≤ R0.slots) (hdg : decode cc pc = .ok (.anewarray index, 3)) (h2 : pc + 3 = pc2)
    (kk : ∀ q : Nat, q ∉ L → PW Z X (L ++ [q]) (va_up F q (.inl ((zG Z).2.2.2.1, N, .inr (.inr (.inr (.inr (fun _ => none))))))) (k + 1) (n + N) Q pc2 lv (.ref q :: st)) : PW Z X L F k n Q pc lv (.int v :: st) := by
  subst h2
  intro H locs ls hP hD hS hl
  have hR0 : zR Z = R0 := C.2.2.2.2.2.2.2.1
  refine va_newq (C := RX1) C.1 C.2.1 C.2.2.2.1 (C.2.2.2.2.1 _ hcl) hao C.2.2.2.2.2.1 hP hD hS C.2.2.2.2.2.2.1 hv hN hb (by rw [hR0]; exact hk) (by rw [hR0]; exact hn) hdg (fun q cA H1 hK1 hP1 hD1 hS1 => ?_)
  have hcA : cA = (zG Z).2.2.2.1 := pw_cA hK1 (j := 2) rfl
  subst hcA
  have hq : q ∉ L := va_pl_fresh2 hD1
  rw [List.append_assoc, va_pl_push hq] at hP1 hD1
  exact kk q hq H1 locs ls hP1 hD1 hS1 hl
theorem pk_newqPX (C : pw_C Z cc nL own Ts R0 ret) {v : Int32} (hcl : Cond.classLink own index RX2 ∈ Ts) (hao : va_AO RX2 (zs Z)) (hv : ¬ v < 0) (hN : v.toNatClampNeg = N) (hb : N * 4 ≤ 536870912) (hk : k + 1 ≤ R0.cells) (hn : n + N ≤ R0.slots) (hdg : decode cc pc = .ok (.anewarray index, 3)) (h2 : pc + 3 = pc2)
    (kk : ∀ q : Nat, PW Z (X ++ [(q, .inl ((zG Z).2.2.2.2, N, .inr (.inr (.inr (.inr (fun _ => none))))))]) [] F (k + 1) (n + N) Q pc2 lv (.ref q :: st)) : PW Z X [] F k n Q pc lv (.int v :: st) := by
  subst h2
  intro H locs ls hP hD hS hl
  have hR0 : zR Z = R0 := C.2.2.2.2.2.2.2.1
  refine va_newq (C := RX2) C.1 C.2.1 C.2.2.2.1 (C.2.2.2.2.1 _ hcl) hao C.2.2.2.2.2.1 hP hD hS C.2.2.2.2.2.2.1 hv hN hb (by rw [hR0]; exact hk) (by rw [hR0]; exact hn) hdg (fun q cA H1 hK1 hP1 hD1 hS1 => ?_)
  have hcA : cA = (zG Z).2.2.2.2 := pw_cA hK1 (j := 3) rfl
  subst hcA
  rw [pw_nil] at hP1 hD1
  exact kk q H1 locs ls hP1 hD1 hS1 hl
theorem pk_newqPP (C : pw_C Z cc nL own Ts R0 ret) {v : Int32} (hcl : Cond.classLink own index RX2 ∈ Ts) (hao : va_AO RX2 (zs Z)) (hv : ¬ v < 0) (hN : v.toNatClampNeg = N) (hb : N * 4 ≤ 536870912) (hk : k + 1 ≤ R0.cells) (hn : n + N ≤ R0.slots) (hdg : decode cc pc = .ok (.anewarray index, 3)) (h2 : pc + 3 = pc2)
    (kk : ∀ q : Nat, q ∉ L → PW Z X (L ++ [q]) (va_up F q (.inl ((zG Z).2.2.2.2, N, .inr (.inr (.inr (.inr (fun _ => none))))))) (k + 1) (n + N) Q pc2 lv (.ref q :: st)) : PW Z X L F k n Q pc lv (.int v :: st) := by
  subst h2
  intro H locs ls hP hD hS hl
  have hR0 : zR Z = R0 := C.2.2.2.2.2.2.2.1
  refine va_newq (C := RX2) C.1 C.2.1 C.2.2.2.1 (C.2.2.2.2.1 _ hcl) hao C.2.2.2.2.2.1 hP hD hS C.2.2.2.2.2.2.1 hv hN hb (by rw [hR0]; exact hk) (by rw [hR0]; exact hn) hdg (fun q cA H1 hK1 hP1 hD1 hS1 => ?_)
  have hcA : cA = (zG Z).2.2.2.2 := pw_cA hK1 (j := 3) rfl
  subst hcA
  have hq : q ∉ L := va_pl_fresh2 hD1
  rw [List.append_assoc, va_pl_push hq] at hP1 hD1
  exact kk q hq H1 locs ls hP1 hD1 hS1 hl
theorem pk_objInit (C : pw_C Z cc nL own Ts R0 ret) {a : Nat} (hlink : Cond.methodLink own index objectInit ∈ Ts) (hinst : Cond.instanceMethod objectInit ∈ Ts) (hcode : Cond.code objectInit ⟨#[0xb1]⟩ 1 none ∈ Ts) (hcat : (st.map fun v => v.category).sum + 12 ≤ R0.locals) (hf : 1 ≤ R0.frames) (hdg : decode cc pc = .ok (.invokespecial index, 3)) (h2 : pc + 3 = pc2) (kk : PW Z X L F k n Q pc2 lv st) : PW Z X L F k n Q pc lv (.ref a :: st) := by
  subst h2
  intro H locs ls hP hD hS hl
  have hR0 : zR Z = R0 := C.2.2.2.2.2.2.2.1
  refine W.objInit (g := F0 (zm Z) pc ls (.ref a :: st)) C.1 C.2.1 C.2.2.2.1 (C.2.2.2.2.1 _ hlink) (C.2.2.2.2.1 _ hinst) (C.2.2.2.2.1 _ hcode) rfl (by show ls.size = _; rw [hl.1]) rfl hdg (by rw [hR0]; exact hf) (by rw [hR0]; simpa using hcat) ?_
  exact kk H locs ls hP hD hS hl
theorem pk_putFP (C : pw_C Z cc nL own Ts R0 ret) {a : Nat} {ref : String} {ty0 : Nat → FieldType} {v : Value} {ty : FieldType} {e : va_E} (hini : (zmeth Z).name = "<init>") (hin : ∀ w ∈ u_ws Cn T N, w ∈ Ts) (hty : ∀ k, k < N → parseFieldDescriptor (T k).2.2.1 = some (ty0 k)) (hnm : ∀ a, a < N → ∀ b, b < N → a ≠ b → (T a).2.1 ≠ (T b).2.1) (hL : a ∈ L) (hat : F a = .inr (ci, fs)) (hc : vwCl[ci]? = some (Cn, T, N)) (j : Nat) (hj : j < N) (hw : Cond.fieldLink own index ref (T j).2.1 (T j).2.2.1 ∈ Ts) (hr : (T j).1 = ref) (hro : (T j).1 = own) (hfin : (T j).2.2.2 = true) (hd : ty0 j = ty) (hn : narrow ty v = v) (hfit : fits ty v = true) (hl0 : j < fs.length) (he : (.inr (ci, fs.set j v) : va_E) = e) (hdg : decode cc pc = .ok (.putfield index, 3)) (h2 : pc + 3 = pc2) (kk : PW Z X L (va_up F a e) k n Q pc2 lv st) : PW Z X L F k n Q pc lv (v :: .ref a :: st) := by
  subst h2
  subst he
  subst hd
  obtain ⟨q, hq⟩ := va_pl_get (X := X) (f := F) hL
  have hq2 : (X ++ va_pl L F)[q]? = some (a, .inr (ci, fs)) := by rw [hq, hat]
  refine fun H locs ls hP hD hS hl => va_putF C.1 C.2.1 C.2.2.2.2.1 hin ty0 hty hnm C.2.2.2.1 C.2.2.2.2.2.1 hP hD hS q hq2 hc j hj (C.2.2.2.2.1 _ hw) (fun x h => by rw [← hr]; exact h) hfin hini hro (hty j hj) hn hfit hl0 hdg (fun H1 locs1 hP1 hD1 hS1 => ?_)
  rw [va_pl_set hD hL hq] at hP1 hD1
  exact kk H1 locs1 ls hP1 hD1 hS1 hl
theorem pw_preE (C : pw_C Z cc nL own Ts R0 ret) (hE1 : pw_E (zA Z) (zs Z) (zH Z)) (isC : List Nat) (hC : isC.map (fun i => X[i]?) = cx.map some) (hnC : va_nd isC = true) {H : Heap} {locs : List Loc} (hP : va_P (zG Z).1 vwCl (X ++ va_pl L F) H) (hD : va_D (zA Z) (X ++ va_pl L F)) (hS : va_S (zA Z) (zH Z) H locs) : ∀ (av : List Value) (U : State), U.heap = H → (zs Z).WarmedH U.vm → va_Pc av (pw_BE (zG Z) cx L F H.size) av.toArray U := fun av U hU hW => by
  obtain ⟨q0, q1⟩ := pw_pre C isC hC hnC hP hD av U hU hW
  have hFc : ∀ q, va_A (cx ++ va_pl L F) H.size q → zA Z q := va_freeP hD hS C.2.2.2.2.2.2.1 isC hC
  exact ⟨q0, q1, (pw_E.warm hW (fun a h1 h2 => by rw [hU]; exact hS.2.1 a h1 h2) hE1).narrow hFc⟩
theorem pk_callI (C : pw_C Z cc nL own Ts R0 ret) (hM : PM (zl Z) y ws rm (zG Z) (.ref b :: As) cx L F mc ms o) (hG : GoodIn Ts ws) (hw : ws = Cond.code y bytes maxL none :: ws') (hlink : Cond.methodLink own index y ∈ Ts) (hinst : Cond.instanceMethod y ∈ Ts) (hini : Cond.initialized y.cls ∈ Ts) (hy1 : y.name = "<init>") (hrc : rm.cells = mc) (hrs : rm.slots = ms) (nargs : Nat) (hd : y.cls ≠ "java/lang/invoke/MethodHandle" ∧ y.cls ≠ "java/lang/invoke/VarHandle" ∧ (parseMethodDescriptor y.desc).map (fun d => d.parameters.length) = some nargs) (hRm : rm.frames + 1 ≤ R0.frames ∧ 8 + (maxL + 11) + rm.locals ≤ R0.locals)
    (hn : As.length = nargs) (hst : st0 = As.reverse ++ .ref b :: st) (hcat : (st.map fun v => v.category).sum ≤ 8) (hf : k + mc ≤ R0.cells ∧ n + ms ≤ R0.slots)
    (isC isR : List Nat) (hC : isC.map (fun i => X[i]?) = cx.map some) (hnC : va_nd isC = true) (hR : isR.map (fun i => X[i]?) = wr.map some) (hnR : va_nd isR = true) (hdis : ∀ i ∈ isR, i ∉ isC) (hdg : decode cc pc = .ok (.invokespecial index, 3)) (h2 : pc + 3 = pc2)
    (kk : ∀ (v : Option Value) (X' : va_W) (L' : List Nat) (F' : Nat → va_E), o v X' L' F' → PW Z (wr ++ X') L' F' (k + mc) (n + ms) Q pc2 lv (v.toList ++ st)) : PW Z X L F k n Q pc lv st0 := by
  intro H locs ls hP hD hS hl
  have hR0 : zR Z = R0 := C.2.2.2.2.2.2.2.1
  have hcw := cwI (s := zs Z) (args := zargs Z) (R := zR Z) nargs C.2.2.2.2.1 hG hw hrc hrs (C.2.2.2.2.1 _ hini) (C.2.2.2.2.1 _ hlink) (C.2.2.2.2.1 _ hinst) hy1 hd (by rw [hR0]; exact hRm)
  exact pk_back C isC isR hC hR hnR hdis h2 kk hP hD hS hl (va_runI (As := As) (rest := st) (g := F0 (zm Z) pc ls st0) ⟨C.1, C.2.1, C.2.2.1, C.2.2.2.1, C.2.2.2.2.1⟩ (hM H.size) hcw ⟨pw_blind, pw_pre C isC hC hnC hP hD (.ref b :: As)⟩ rfl hn (by show ls.size = nL; rw [hl.1]; exact C.2.2.1) hst (lv_room hcat) hdg (by rw [hR0]; exact hf))
theorem pk_callIE (C : pw_C Z cc nL own Ts R0 ret) (hE1 : pw_E (zA Z) (zs Z) (zH Z)) (hM : EM (zl Z) y ws rm (zG Z) (.ref b :: As) cx L F mc ms o) (hG : GoodIn Ts ws) (hw : ws = Cond.code y bytes maxL none :: ws') (hlink : Cond.methodLink own index y ∈ Ts) (hinst : Cond.instanceMethod y ∈ Ts) (hini : Cond.initialized y.cls ∈ Ts) (hy1 : y.name = "<init>") (hrc : rm.cells = mc) (hrs : rm.slots = ms) (nargs : Nat) (hd : y.cls ≠ "java/lang/invoke/MethodHandle" ∧ y.cls ≠ "java/lang/invoke/VarHandle" ∧ (parseMethodDescriptor y.desc).map (fun d => d.parameters.length) = some nargs) (hRm : rm.frames + 1 ≤ R0.frames ∧ 8 + (maxL + 11) + rm.locals ≤ R0.locals)
    (hn : As.length = nargs) (hst : st0 = As.reverse ++ .ref b :: st) (hcat : (st.map fun v => v.category).sum ≤ 8) (hf : k + mc ≤ R0.cells ∧ n + ms ≤ R0.slots)
    (isC isR : List Nat) (hC : isC.map (fun i => X[i]?) = cx.map some) (hnC : va_nd isC = true) (hR : isR.map (fun i => X[i]?) = wr.map some) (hnR : va_nd isR = true) (hdis : ∀ i ∈ isR, i ∉ isC) (hdg : decode cc pc = .ok (.invokespecial index, 3)) (h2 : pc + 3 = pc2)
    (kk : ∀ (v : Option Value) (X' : va_W) (L' : List Nat) (F' : Nat → va_E), o v X' L' F' → PW Z (wr ++ X') L' F' (k + mc) (n + ms) Q pc2 lv (v.toList ++ st)) : PW Z X L F k n Q pc lv st0 := by
  intro H locs ls hP hD hS hl
  have hR0 : zR Z = R0 := C.2.2.2.2.2.2.2.1
  have hcw := cwI (s := zs Z) (args := zargs Z) (R := zR Z) nargs C.2.2.2.2.1 hG hw hrc hrs (C.2.2.2.2.1 _ hini) (C.2.2.2.2.1 _ hlink) (C.2.2.2.2.1 _ hinst) hy1 hd (by rw [hR0]; exact hRm)
  exact pk_back C isC isR hC hR hnR hdis h2 kk hP hD hS hl (va_runI (As := As) (rest := st) (g := F0 (zm Z) pc ls st0) ⟨C.1, C.2.1, C.2.2.1, C.2.2.2.1, C.2.2.2.2.1⟩ (hM H.size) hcw ⟨pw_blindE, pw_preE C hE1 isC hC hnC hP hD hS (.ref b :: As)⟩ rfl hn (by show ls.size = nL; rw [hl.1]; exact C.2.2.1) hst (lv_room hcat) hdg (by rw [hR0]; exact hf))
/-- a nest mate's constructor -/
theorem pk_callIN (C : pw_C Z cc nL own Ts R0 ret) (hM : PM (zl Z) y ws rm (zG Z) (.ref b :: As) cx L F mc ms o) (hG : GoodIn Ts ws) (hw : ws = Cond.code y bytes maxL none :: ws') (hnest : Cond.methodLinkNest own index y host ∈ pw_N) (hinst : Cond.instanceMethod y ∈ Ts) (hini : Cond.initialized y.cls ∈ Ts) (hy1 : y.name = "<init>") (hrc : rm.cells = mc) (hrs : rm.slots = ms) (nargs : Nat) (hd : y.cls ≠ "java/lang/invoke/MethodHandle" ∧ y.cls ≠ "java/lang/invoke/VarHandle" ∧ (parseMethodDescriptor y.desc).map (fun d => d.parameters.length) = some nargs) (hRm : rm.frames + 1 ≤ R0.frames ∧ 8 + (maxL + 11) + rm.locals ≤ R0.locals)
    (hn : As.length = nargs) (hst : st0 = As.reverse ++ .ref b :: st) (hcat : (st.map fun v => v.category).sum ≤ 8) (hf : k + mc ≤ R0.cells ∧ n + ms ≤ R0.slots)
    (isC isR : List Nat) (hC : isC.map (fun i => X[i]?) = cx.map some) (hnC : va_nd isC = true) (hR : isR.map (fun i => X[i]?) = wr.map some) (hnR : va_nd isR = true) (hdis : ∀ i ∈ isR, i ∉ isC) (hdg : decode cc pc = .ok (.invokespecial index, 3)) (h2 : pc + 3 = pc2)
    (kk : ∀ (v : Option Value) (X' : va_W) (L' : List Nat) (F' : Nat → va_E), o v X' L' F' → PW Z (wr ++ X') L' F' (k + mc) (n + ms) Q pc2 lv (v.toList ++ st)) : PW Z X L F k n Q pc lv st0 := by
  intro H locs ls hP hD hS hl
  have hR0 : zR Z = R0 := C.2.2.2.2.2.2.2.1
  have hcw := va_cnB (s := zs Z) (args := zargs Z) (R := zR Z) nargs C.2.2.2.2.1 hG hw hrc hrs (C.2.2.2.2.2.2.2.2.2.2 _ hnest) (C.2.2.2.2.1 _ hini) hd (by rw [hR0]; exact hRm)
  exact pk_back C isC isR hC hR hnR hdis h2 kk hP hD hS hl (va_runIN (As := As) (rest := st) (g := F0 (zm Z) pc ls st0) ⟨C.1, C.2.1, C.2.2.1, C.2.2.2.1, C.2.2.2.2.1⟩ (hM H.size) ⟨hcw, hy1, C.2.2.2.2.1 _ hinst⟩ ⟨pw_blind, pw_pre C isC hC hnC hP hD (.ref b :: As)⟩ rfl hn (by show ls.size = nL; rw [hl.1]; exact C.2.2.1) hst (lv_room hcat) hdg (by rw [hR0]; exact hf))
/-- a thing of class E is on its way out of the point pc -/
def PX (Z : pw_Z) (X : va_W) (L : List Nat) (F : Nat → va_E) (k n : Nat) (Q : State → Prop) (pc : Nat) (lv : List (Nat × Value)) (st : List Value) (E : String) : Prop :=
  ∀ (H : Heap) (locs : List Loc) (ls : Array Slot) (q : Addr) (ce : Cell), va_P (zG Z).1 vwCl (X ++ va_pl L F) H → va_D (zA Z) (X ++ va_pl L F) → va_S (zA Z) (zH Z) H locs → lv_has ls (zc Z).maxLocals lv → H[q]? = some ce → ce.vm = .none → (zs Z).vm.findClass E = some ce.cls →
    vx_W (zp Z) (zl Z) (ze Z) (zR Z) (zs Z) (zm Z) (zargs Z) (zbelow Z) (zmeth Z) (zc Z) H locs k n Q (F0 (zm Z) pc ls st) q
theorem pk_backX (C : pw_C Z cc nL own Ts R0 ret) (isC isR : List Nat) (hC : isC.map (fun i => X[i]?) = cx.map some) (hR : isR.map (fun i => X[i]?) = wr.map some) (hnR : va_nd isR = true) (hdis : ∀ i ∈ isR, i ∉ isC) (h2 : pc + 3 = pc2)
    (kk : ∀ (v : Option Value) (X' : va_W) (L' : List Nat) (F' : Nat → va_E), ox (.inl v) X' L' F' → PW Z (wr ++ X') L' F' (k + mc) (n + ms) Q pc2 lv (v.toList ++ st))
    (kx : ∀ (E : String) (X' : va_W) (L' : List Nat) (F' : Nat → va_E), ox (.inr E) X' L' F' → PX Z (wr ++ X') L' F' (k + mc) (n + ms) Q pc lv st E) {H : Heap} {locs : List Loc} {ls : Array Slot} {a : Array Value} (hP : va_P (zG Z).1 vwCl (X ++ va_pl L F) H) (hD : va_D (zA Z) (X ++ va_pl L F)) (hS : va_S (zA Z) (zH Z) H locs) (hl : lv_has ls (zc Z).maxLocals lv)
    (hr : vx_Run (zp Z) (zl Z) (ze Z) (zR Z) (zs Z) (zm Z) (zargs Z) (zbelow Z) (zmeth Z) (zc Z) H locs k n mc ms (F0 (zm Z) pc ls st0) st (pw_Q (zG Z) cx L F H.size (ox_l ox) a) (pw_XC (zG Z) cx L F H.size ox) (va_A (cx ++ va_pl L F) H.size)) :
    W (zp Z) (zl Z) (ze Z) (zR Z) (zs Z) (zm Z) (zargs Z) (zbelow Z) (zmeth Z) (zc Z) H locs k n Q (F0 (zm Z) pc ls st0) := by
  subst h2
  have hFc : ∀ q, va_A (cx ++ va_pl L F) H.size q → zA Z q := va_freeP hD hS C.2.2.2.2.2.2.1 isC hC
  intro T hT X9
  rcases hr T hT X9 with ⟨v, st₀, t, T', L9, h0, X', hL, e1, e2, ⟨⟨v', X1, L1, F1, hv, ho, hp, hd⟩, hF⟩, stp⟩ | ⟨q, st₀, t, T', L9, E, ce, h0, X', hL, e1, e2, ⟨⟨X1, L1, F1, ho, hp, hd⟩, hF⟩, hce, hcv, hcl, stp⟩
  · cases hv
    obtain ⟨k1, k2, k3⟩ := vx_keep h0 e1 hS (fun q _ h => hFc q h) hFc hL hF
    obtain ⟨hP2, hD2⟩ := va_joinP hP hD isC isR hC hR hnR hdis k2 hFc (by rw [e1]; exact hp) hd
    obtain ⟨t2, a1, b1⟩ := kk v X1 L1 F1 ho T'.heap (locs ++ L9) ls hP2 hD2 k3 hl T' rfl X'
    exact ⟨t2, stp t2 a1, b1⟩
  · obtain ⟨k1, k2, k3⟩ := vx_keep h0 e1 hS (fun q _ h => hFc q h) hFc hL hF
    obtain ⟨hP2, hD2⟩ := va_joinP hP hD isC isR hC hR hnR hdis k2 hFc (by rw [e1]; exact hp) hd
    obtain ⟨t2, a1, b1⟩ := kx E X1 L1 F1 ho T'.heap (locs ++ L9) ls q ce hP2 hD2 k3 hl (by rw [e1]; exact hce) hcv hcl T' rfl X'
    exact ⟨t2, stp.trans a1, b1⟩
/-- a virtual call of what may throw -/
theorem pk_callVX (C : pw_C Z cc nL own Ts R0 ret) (hE1 : pw_E (zA Z) (zs Z) (zH Z)) (hM : XM (zl Z) y ws rm (zG Z) (.ref b :: As) cx L F mc ms ox) (hG : GoodIn Ts (wsV own index Cn y ws)) (hw : ws = Cond.code y bytes maxL rty :: ws') (hrc : rm.cells = mc) (hrs : rm.slots = ms) (nargs : Nat) (hd : y.cls = Cn ∧ y.cls ≠ "java/lang/invoke/MethodHandle" ∧ y.cls ≠ "java/lang/invoke/VarHandle" ∧ (parseMethodDescriptor y.desc).map (fun d => d.parameters.length) = some nargs) (hRm : rm.frames + 1 ≤ R0.frames ∧ 8 + (maxL + 11) + rm.locals ≤ R0.locals)
    (hrv : pw_at X L F b (.inr (ci, fs))) (hc : vwCl[ci]? = some (Cn, T, N)) (hn : As.length = nargs) (hst : st0 = As.reverse ++ .ref b :: st) (hcat : (st.map fun v => v.category).sum ≤ 8) (hf : k + mc ≤ R0.cells ∧ n + ms ≤ R0.slots)
    (isC isR : List Nat) (hC : isC.map (fun i => X[i]?) = cx.map some) (hnC : va_nd isC = true) (hR : isR.map (fun i => X[i]?) = wr.map some) (hnR : va_nd isR = true) (hdis : ∀ i ∈ isR, i ∉ isC) (hdg : decode cc pc = .ok (.invokevirtual index, 3)) (h2 : pc + 3 = pc2)
    (kk : ∀ (v : Option Value) (X' : va_W) (L' : List Nat) (F' : Nat → va_E), ox (.inl v) X' L' F' → PW Z (wr ++ X') L' F' (k + mc) (n + ms) Q pc2 lv (v.toList ++ st))
    (kx : ∀ (E : String) (X' : va_W) (L' : List Nat) (F' : Nat → va_E), ox (.inr E) X' L' F' → PX Z (wr ++ X') L' F' (k + mc) (n + ms) Q pc lv st E) : PW Z X L F k n Q pc lv st0 := by
  intro H locs ls hP hD hS hl
  obtain ⟨q, hq⟩ := hrv
  have hR0 : zR Z = R0 := C.2.2.2.2.2.2.2.1
  have hcw := cwV (s := zs Z) (args := zargs Z) (R := zR Z) nargs C.2.2.2.2.1 hG hw hrc hrs hd (by rw [hR0]; exact hRm)
  exact pk_backX C isC isR hC hR hnR hdis h2 kk kx hP hD hS hl (vx_runV (As := As) (rest := st) (g := F0 (zm Z) pc ls st0) ⟨C.1, C.2.1, C.2.2.1, C.2.2.2.1, C.2.2.2.2.1⟩ (hM H.size) hcw ⟨pw_blindE, va_recv C.2.2.2.2.2.1 hP hc hq, pw_preE C hE1 isC hC hnC hP hD hS (.ref b :: As)⟩ rfl hn (by show ls.size = nL; rw [hl.1]; exact C.2.2.1) hst (lv_room hcat) hdg (by rw [hR0]; exact hf))
/-- a static call of a method with a table of its own that lets nothing out -/
theorem pk_callSW (C : pw_C Z cc nL own Ts R0 ret) {hh : List (Nat × Nat × Nat × Nat)} (hE1 : pw_E (zA Z) (zs Z) (zH Z)) (hM : XM (zl Z) y ws rm (zG Z) As cx L F mc ms ox) (hno : ∀ E X' L' F', ¬ ox (.inr E) X' L' F') (hG : GoodIn Ts (va_wsS own index y ws)) (hw : ws = Cond.codeWith y bytes maxL rty hh :: ws') (hrc : rm.cells = mc) (hrs : rm.slots = ms) (nargs : Nat) (hd : y.cls ≠ "java/lang/invoke/MethodHandle" ∧ y.cls ≠ "java/lang/invoke/VarHandle" ∧ (parseMethodDescriptor y.desc).map (fun d => d.parameters.length) = some nargs) (hRm : rm.frames + 1 ≤ R0.frames ∧ 8 + (maxL + 11) + rm.locals ≤ R0.locals)
    (hn : As.length = nargs) (hst : st0 = As.reverse ++ st) (hcat : (st.map fun v => v.category).sum ≤ 8) (hf : k + mc ≤ R0.cells ∧ n + ms ≤ R0.slots)
    (isC isR : List Nat) (hC : isC.map (fun i => X[i]?) = cx.map some) (hnC : va_nd isC = true) (hR : isR.map (fun i => X[i]?) = wr.map some) (hnR : va_nd isR = true) (hdis : ∀ i ∈ isR, i ∉ isC) (hdg : decode cc pc = .ok (.invokestatic index, 3)) (h2 : pc + 3 = pc2)
    (kk : ∀ (v : Option Value) (X' : va_W) (L' : List Nat) (F' : Nat → va_E), ox (.inl v) X' L' F' → PW Z (wr ++ X') L' F' (k + mc) (n + ms) Q pc2 lv (v.toList ++ st)) : PW Z X L F k n Q pc lv st0 := by
  intro H locs ls hP hD hS hl
  have hR0 : zR Z = R0 := C.2.2.2.2.2.2.2.1
  have hcw := vx_cwSW (s := zs Z) (args := zargs Z) (R := zR Z) nargs C.2.2.2.2.1 hG hw hrc hrs hd (by rw [hR0]; exact hRm)
  exact pk_backX C isC isR hC hR hnR hdis h2 kk (fun E X' L' F' h => absurd h (hno E X' L' F')) hP hD hS hl (vx_runSX (As := As) (rest := st) (g := F0 (zm Z) pc ls st0) ⟨C.1, C.2.1, C.2.2.1, C.2.2.2.1, C.2.2.2.2.1⟩ (hM H.size) hcw ⟨pw_blindE, pw_preE C hE1 isC hC hnC hP hD hS As⟩ rfl hn (by show ls.size = nL; rw [hl.1]; exact C.2.2.1) hst (lv_room hcat) hdg (by rw [hR0]; exact hf))
/-- a handler takes it -/
theorem px_catch (C : pw_C Z cc nL own Ts R0 ret) {name E : String} (pre : List ExceptionTableEntry) (x : ExceptionTableEntry) (suf : List ExceptionTableEntry) (hsplit : (zc Z).exceptionTable.toList = pre ++ x :: suf) (hpass : ∀ z ∈ pre, covers z pc = false ∨ (z.catchType ≠ 0 ∧ ∃ nm : String, Cond.classLink own z.catchType nm ∈ Ts ∧ va_Nc E nm (zs Z))) (hx : covers x pc = true) (h0 : x.catchType ≠ 0) (hlink : Cond.classLink own x.catchType name ∈ Ts) (hcast : va_Nw (.castable E name) (zs Z)) (h2 : x.handlerPc = pc2) (kk : ∀ q : Nat, PW Z X L F k n Q pc2 lv [.ref q]) : PX Z X L F k n Q pc lv st E := by
  subst h2
  intro H locs ls q ce hP hD hS hl hce hcv hcl
  exact vx_catch C.2.2.2.1 pre x suf hsplit (fun z hz => (hpass z hz).imp id (fun h => ⟨h.1, h.2.imp fun nm h => ⟨C.2.2.2.2.1 _ h.1, h.2⟩⟩)) hx h0 (C.2.2.2.2.1 _ hlink) (va_Nw.use rfl hcast) hce hcv hcl (kk q H locs ls hP hD hS hl)
end PK2
/-- the entry of a method with a table of its own -/
theorem xw_entry {l : Launch} {y : MethodName} {ws ws' : List Cond} {rm : Room} {G : pw_G} {av : List Value} {X : va_W} {L : List Nat} {F : Nat → va_E} {mc ms : Nat} {o : pw_OX} {cc : ByteArray} {maxL : Nat} {ret : Option FieldType} {own : String} {hh : List (Nat × Nat × Nat × Nat)} (hy : plainName y.cls = true) (hw : ws = Cond.codeWith y cc maxL ret hh :: ws') (hown : y.cls = own) (hlen : (lg_sl av).length ≤ maxL)
    (body : ∀ (Z : pw_Z) (Q : State → Prop), pw_C Z cc maxL own ws rm ret → zl Z = l → zG Z = G → pw_E (zA Z) (zs Z) (zH Z) → (zc Z).exceptionTable.toList = tableOf hh → pw_EndX Z Q X L F o mc ms → PW Z X L F 0 0 Q 0 (lv_args 0 av) []) : XM l y ws rm G av X L F mc ms o := by
  intro sz
  refine vx_ofWH hy hw ?_
  intro p e s m args below meth c s₁ B hml hv
  obtain ⟨rfl, ⟨hsz, hP, hK, hD0, hN⟩, hE⟩ := hv
  subst hsz
  subst hown
  have hpre := atoms_spec (ws := ws) B.pre
  have htab : c.exceptionTable.toList = tableOf hh := vx_table (x := y) B (hpre _ (by rw [hw]; exact List.mem_cons_self))
  have h := body ((p, l, e, (headSpec ws rm).room, s, m, av.toArray, below, meth, c), (G, va_A (X ++ va_pl L F) s.heap.size, s.heap)) _ ⟨B.exec, B.bytes, hml, findClass_of_methodNamed B.named, hpre, hK, fun q h => Or.inr h, rfl, B.returns, B.notSynchronized, hN⟩ rfl rfl hE htab ⟨rfl, rfl, rfl⟩
  rw [lg_entry_eq]
  exact h s.heap [] _ hP hD0.self va_S.rf (by rw [show (zc ((p, l, e, (headSpec ws rm).room, s, m, av.toArray, below, meth, c), (G, va_A (X ++ va_pl L F) s.heap.size, s.heap))).maxLocals = maxL from hml]; exact lv_entry av hlen)

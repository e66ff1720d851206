/-! a layer over the kit's rows: a point of a walk speaks of its cells by their places, of a pool, and of the locals' list; heap, frame and locals' array are hidden -/
abbrev pw_G : Type := va_G × (ClassId × ClassId × ClassId × ClassId)
def pw_tys (G : pw_G) : List (ClassId × FieldType) := [(G.2.1, .int), (G.2.2.1, .long), (G.2.2.2.1, .object RX1), (G.2.2.2.2, .object RX2)]
/-- the words of nest mates' links -/
def pw_N : List Cond := [.methodLinkNest RX0 11 yX3_init RX4, .methodLinkNest RX0 132 yX4_rounded RX4, .methodLinkNest RX3 34 yX4_rounded RX4, .fieldLinkNest RX4 131 RX0 "cost" "J" RX4, .fieldLinkNest RX4 135 RX0 "allowance" "J" RX4, .fieldLinkNest RX4 142 RX0 "reserve" "J" RX4, .fieldLinkNest RX4 145 RX0 "losses" "J" RX4, .fieldLinkNest RX4 148 RX0 "residual" "J" RX4, .fieldLinkNest RX4 151 RX0 "restOfLife" "I" RX4, .fieldLinkNest RX4 156 RX0 "lastCharge" "J" RX4, .fieldLinkNest RX4 171 RX0 "allCharges" "J" RX4, .fieldLinkNest RX4 179 RX0 "breached" "Z" RX4]
theorem pw_N_warm {s U : State} (hW : s.WarmedH U.vm) (h : ∀ w ∈ pw_N, va_Nw w s) : ∀ w ∈ pw_N, va_Nw w U := by
  simp only [pw_N, List.forall_mem_cons] at h ⊢
  obtain ⟨h1, h2, h3, h4, h5, h6, h7, h8, h9, h10, h11, h12, -⟩ := h
  exact ⟨va_Nw.warmM hW h1, va_Nw.warmM hW h2, va_Nw.warmM hW h3, va_Nw.warmF hW h4, va_Nw.warmF hW h5, va_Nw.warmF hW h6, va_Nw.warmF hW h7, va_Nw.warmF hW h8, va_Nw.warmF hW h9, va_Nw.warmF hW h10, va_Nw.warmF hW h11, va_Nw.warmF hW h12, fun _ h => absurd h List.not_mem_nil⟩
theorem pw_N_tabs : ∀ w ∈ pw_N, w.onTables = true := by decide +kernel
theorem pw_N_same {u U : State} (hvm : u.vm = U.vm) (h : ∀ w ∈ pw_N, va_Nw w u) : ∀ w ∈ pw_N, va_Nw w U := fun w hw => va_Nw.same (pw_N_tabs w hw) hvm (h w hw)
abbrev pw_Z : Type := (Program × Launch × Env × Room × State × MethodId × Array Value × List Frame × Method × Code) × (pw_G × (Nat → Prop) × Heap)
abbrev zp (Z : pw_Z) : Program := Z.1.1
abbrev zl (Z : pw_Z) : Launch := Z.1.2.1
abbrev ze (Z : pw_Z) : Env := Z.1.2.2.1
abbrev zR (Z : pw_Z) : Room := Z.1.2.2.2.1
abbrev zs (Z : pw_Z) : State := Z.1.2.2.2.2.1
abbrev zm (Z : pw_Z) : MethodId := Z.1.2.2.2.2.2.1
abbrev zargs (Z : pw_Z) : Array Value := Z.1.2.2.2.2.2.2.1
abbrev zbelow (Z : pw_Z) : List Frame := Z.1.2.2.2.2.2.2.2.1
abbrev zmeth (Z : pw_Z) : Method := Z.1.2.2.2.2.2.2.2.2.1
abbrev zc (Z : pw_Z) : Code := Z.1.2.2.2.2.2.2.2.2.2
abbrev zG (Z : pw_Z) : pw_G := Z.2.1
abbrev zA (Z : pw_Z) : Nat → Prop := Z.2.2.1
abbrev zH (Z : pw_Z) : Heap := Z.2.2.2
/-- what stays the same through a method's body -/
def pw_C (Z : pw_Z) (cc : ByteArray) (nL : Nat) (own : String) (Ts : List Cond) (R0 : Room) (ret : Option FieldType) : Prop :=
  (zp Z).tables.exec = Jvm.exec ∧ (zc Z).code = cc ∧ (zc Z).maxLocals = nL ∧ (zs Z).vm.findClass own = some (zm Z).cls ∧ (∀ w ∈ Ts, w.before (zargs Z) (zs Z) = true) ∧ va_K (zG Z).1 vwCl (pw_tys (zG Z)) (zs Z) ∧ (∀ q, (zH Z).size ≤ q → zA Z q) ∧ zR Z = R0 ∧ (zmeth Z).sig.returnType = ret ∧ (zmeth Z).locks = false ∧ (∀ w ∈ pw_N, va_Nw w (zs Z))
/-- at pc with the locals lv and the stack st, over the cells X and the pool (L, F): it comes to Q -/
def PW (Z : pw_Z) (X : va_W) (L : List Nat) (F : Nat → va_E) (k n : Nat) (Q : State → Prop) (pc : Nat) (lv : List (Nat × Value)) (st : List Value) : Prop :=
  ∀ (H : Heap) (locs : List Loc) (ls : Array Slot), va_P (zG Z).1 vwCl (X ++ va_pl L F) H → va_D (zA Z) (X ++ va_pl L F) → va_S (zA Z) (zH Z) H locs → lv_has ls (zc Z).maxLocals lv →
    W (zp Z) (zl Z) (ze Z) (zR Z) (zs Z) (zm Z) (zargs Z) (zbelow Z) (zmeth Z) (zc Z) H locs k n Q (F0 (zm Z) pc ls st)
def pw_at (X : va_W) (L : List Nat) (F : Nat → va_E) (a : Nat) (e : va_E) : Prop := ∃ k : Nat, (X ++ va_pl L F)[k]? = some (a, e)
theorem pw_atX {X : va_W} {L : List Nat} {F : Nat → va_E} {a : Nat} {e : va_E} (q : Nat) (h : X[q]? = some (a, e)) : pw_at X L F a e := ⟨q, by rw [List.getElem?_append_left (List.getElem?_eq_some_iff.mp h).1]; exact h⟩
theorem pw_atP {X : va_W} {L : List Nat} {F : Nat → va_E} {a : Nat} {e : va_E} (hL : a ∈ L) (h : F a = e) : pw_at X L F a e := by
  obtain ⟨k, hk⟩ := va_pl_get (X := X) (f := F) hL
  exact ⟨k, by rw [hk, h]⟩
theorem pw_setX {X : va_W} {L : List Nat} {F : Nat → va_E} {q : Nat} {x y : Nat × va_E} (h : X[q]? = some x) : (X ++ va_pl L F).set q y = X.set q y ++ va_pl L F := by
  rw [List.set_append_left _ _ (List.getElem?_eq_some_iff.mp h).1]
section PWR
variable {Z : pw_Z} {X : va_W} {L : List Nat} {F : Nat → va_E} {k n : Nat} {Q : State → Prop} {pc pc2 : Nat} {lv : List (Nat × Value)} {st : List Value} {cc : ByteArray} {nL : Nat} {own : String} {Ts : List Cond} {R0 : Room} {ret : Option FieldType}
theorem pw_conv {X' : va_W} (h : X = X') (kk : PW Z X' L F k n Q pc lv st) : PW Z X L F k n Q pc lv st := by
  subst h
  exact kk
theorem pw_widen {k' n' : Nat} (h1 : k ≤ k') (h2 : n ≤ n') (kk : PW Z X L F k' n' Q pc lv st) : PW Z X L F k n Q pc lv st := fun H locs ls hP hD hS hl => W.widen h1 h2 (kk H locs ls hP hD hS hl)
/-- fewer locals, in any order -/
theorem pw_lv {lv' : List (Nat × Value)} (ks : List Nat) (h : lv_pick lv ks = lv') (kk : PW Z X L F k n Q pc lv' st) : PW Z X L F k n Q pc lv st := fun H locs ls hP hD hS hl => kk H locs ls hP hD hS (lv_sub hl ks h)
/-- the cells in another order, or fewer of them -/
theorem pw_perm {X' : va_W} (is : List Nat) (hn : va_nd is = true) (h : is.map (fun i => X[i]?) = X'.map some) (kk : PW Z X' L F k n Q pc lv st) : PW Z X L F k n Q pc lv st := fun H locs ls hP hD hS hl => kk H locs ls (hP.part is h) (hD.part is hn h) hS hl

theorem pk_iconst (C : pw_C Z cc nL own Ts R0 ret) {z : Int} {v : Int32} (hdg : decode cc pc = .ok (.iconst z, 1)) (hv : Int32.ofInt z = v) (h2 : pc + 1 = pc2) (kk : PW Z X L F k n Q pc2 lv (.int v :: st)) : PW Z X L F k n Q pc lv (st) := by
  subst h2
  exact fun H locs ls hP hD hS hl => lv_iconst C.1 C.2.1 hdg hv (kk H locs ls hP hD hS hl)
theorem pk_bipush (C : pw_C Z cc nL own Ts R0 ret) {z : Int} {v : Int32} (hdg : decode cc pc = .ok (.bipush z, 2)) (hv : (Int8.ofInt z).toInt32 = v) (h2 : pc + 2 = pc2) (kk : PW Z X L F k n Q pc2 lv (.int v :: st)) : PW Z X L F k n Q pc lv (st) := by
  subst h2
  exact fun H locs ls hP hD hS hl => lv_bipush C.1 C.2.1 hdg hv (kk H locs ls hP hD hS hl)
theorem pk_sipush (C : pw_C Z cc nL own Ts R0 ret) {z : Int} {v : Int32} (hdg : decode cc pc = .ok (.sipush z, 3)) (hv : (Int16.ofInt z).toInt32 = v) (h2 : pc + 3 = pc2) (kk : PW Z X L F k n Q pc2 lv (.int v :: st)) : PW Z X L F k n Q pc lv (st) := by
  subst h2
  exact fun H locs ls hP hD hS hl => lv_sipush C.1 C.2.1 hdg hv (kk H locs ls hP hD hS hl)
theorem pk_lconst (C : pw_C Z cc nL own Ts R0 ret) {z : Fin 2} {v : Int64} (hdg : decode cc pc = .ok (.lconst z, 1)) (hv : Int64.ofNat (z : Nat) = v) (h2 : pc + 1 = pc2) (kk : PW Z X L F k n Q pc2 lv (.long v :: st)) : PW Z X L F k n Q pc lv (st) := by
  subst h2
  exact fun H locs ls hP hD hS hl => lv_lconst C.1 C.2.1 hdg hv (kk H locs ls hP hD hS hl)
theorem pk_null (C : pw_C Z cc nL own Ts R0 ret)  (hdg : decode cc pc = .ok (.aconst_null, 1))  (h2 : pc + 1 = pc2) (kk : PW Z X L F k n Q pc2 lv (.null :: st)) : PW Z X L F k n Q pc lv (st) := by
  subst h2
  exact fun H locs ls hP hD hS hl => lv_null C.1 C.2.1 hdg  (kk H locs ls hP hD hS hl)
theorem pk_iload_n (C : pw_C Z cc nL own Ts R0 ret) {z : Fin 4} {i : Nat} {x : Int32} (j : Nat) (hdg : decode cc pc = .ok (.iload_n z, 1)) (hi : (z : Nat) = i) (hj : lv[j]? = some (i, .int x)) (h2 : pc + 1 = pc2) (kk : PW Z X L F k n Q pc2 lv (.int x :: st)) : PW Z X L F k n Q pc lv (st) := by
  subst h2
  exact fun H locs ls hP hD hS hl => lv_iload_n C.1 C.2.1 hdg hi (lv_at hl j hj) (kk H locs ls hP hD hS hl)
theorem pk_iload (C : pw_C Z cc nL own Ts R0 ret) {i : Nat} {x : Int32} (j : Nat) (hdg : decode cc pc = .ok (.iload i, 2)) (hj : lv[j]? = some (i, .int x)) (h2 : pc + 2 = pc2) (kk : PW Z X L F k n Q pc2 lv (.int x :: st)) : PW Z X L F k n Q pc lv (st) := by
  subst h2
  exact fun H locs ls hP hD hS hl => lv_iload C.1 C.2.1 hdg (lv_at hl j hj) (kk H locs ls hP hD hS hl)
theorem pk_lload_n (C : pw_C Z cc nL own Ts R0 ret) {z : Fin 4} {i : Nat} {x : Int64} (j : Nat) (hdg : decode cc pc = .ok (.lload_n z, 1)) (hi : (z : Nat) = i) (hj : lv[j]? = some (i, .long x)) (h2 : pc + 1 = pc2) (kk : PW Z X L F k n Q pc2 lv (.long x :: st)) : PW Z X L F k n Q pc lv (st) := by
  subst h2
  exact fun H locs ls hP hD hS hl => lv_lload_n C.1 C.2.1 hdg hi (lv_at hl j hj) (kk H locs ls hP hD hS hl)
theorem pk_lload (C : pw_C Z cc nL own Ts R0 ret) {i : Nat} {x : Int64} (j : Nat) (hdg : decode cc pc = .ok (.lload i, 2)) (hj : lv[j]? = some (i, .long x)) (h2 : pc + 2 = pc2) (kk : PW Z X L F k n Q pc2 lv (.long x :: st)) : PW Z X L F k n Q pc lv (st) := by
  subst h2
  exact fun H locs ls hP hD hS hl => lv_lload C.1 C.2.1 hdg (lv_at hl j hj) (kk H locs ls hP hD hS hl)
theorem pk_aload_n (C : pw_C Z cc nL own Ts R0 ret) {z : Fin 4} {i : Nat} {x : Nat} (j : Nat) (hdg : decode cc pc = .ok (.aload_n z, 1)) (hi : (z : Nat) = i) (hj : lv[j]? = some (i, .ref x)) (h2 : pc + 1 = pc2) (kk : PW Z X L F k n Q pc2 lv (.ref x :: st)) : PW Z X L F k n Q pc lv (st) := by
  subst h2
  exact fun H locs ls hP hD hS hl => lv_aload_n C.1 C.2.1 hdg hi (lv_at hl j hj) (kk H locs ls hP hD hS hl)
theorem pk_aload (C : pw_C Z cc nL own Ts R0 ret) {i : Nat} {x : Nat} (j : Nat) (hdg : decode cc pc = .ok (.aload i, 2)) (hj : lv[j]? = some (i, .ref x)) (h2 : pc + 2 = pc2) (kk : PW Z X L F k n Q pc2 lv (.ref x :: st)) : PW Z X L F k n Q pc lv (st) := by
  subst h2
  exact fun H locs ls hP hD hS hl => lv_aload C.1 C.2.1 hdg (lv_at hl j hj) (kk H locs ls hP hD hS hl)
theorem pk_aload_nN (C : pw_C Z cc nL own Ts R0 ret) {z : Fin 4} {i : Nat} (j : Nat) (hdg : decode cc pc = .ok (.aload_n z, 1)) (hi : (z : Nat) = i) (hj : lv[j]? = some (i, .null)) (h2 : pc + 1 = pc2) (kk : PW Z X L F k n Q pc2 lv (.null :: st)) : PW Z X L F k n Q pc lv (st) := by
  subst h2
  exact fun H locs ls hP hD hS hl => lv_aload_nN C.1 C.2.1 hdg hi (lv_at hl j hj) (kk H locs ls hP hD hS hl)
theorem pk_aloadN (C : pw_C Z cc nL own Ts R0 ret) {i : Nat} (j : Nat) (hdg : decode cc pc = .ok (.aload i, 2)) (hj : lv[j]? = some (i, .null)) (h2 : pc + 2 = pc2) (kk : PW Z X L F k n Q pc2 lv (.null :: st)) : PW Z X L F k n Q pc lv (st) := by
  subst h2
  exact fun H locs ls hP hD hS hl => lv_aloadN C.1 C.2.1 hdg (lv_at hl j hj) (kk H locs ls hP hD hS hl)
theorem pk_istore_n (C : pw_C Z cc nL own Ts R0 ret) {i : Nat} {z : Fin 4} {x : Int32} {lv' : List (Nat × Value)} (hdg : decode cc pc = .ok (.istore_n z, 1)) (hi : (z : Nat) = i) (hn : i < nL) (hv : (i, Value.int x) :: lv.filter (fun q => !(q.1 == i) && !(q.1 + 1 == i && q.2.category == 2)) = lv') (h2 : pc + 1 = pc2) (kk : PW Z X L F k n Q pc2 lv' st) : PW Z X L F k n Q pc lv (Value.int x :: st) := by
  subst h2
  exact fun H locs ls hP hD hS hl => lv_istore_n C.1 C.2.1 hdg hi hl (by rw [C.2.2.1]; exact hn) hv (fun ls' hl' => kk H locs ls' hP hD hS hl')
theorem pk_istore (C : pw_C Z cc nL own Ts R0 ret) {i : Nat}  {x : Int32} {lv' : List (Nat × Value)} (hdg : decode cc pc = .ok (.istore i, 2))  (hn : i < nL) (hv : (i, Value.int x) :: lv.filter (fun q => !(q.1 == i) && !(q.1 + 1 == i && q.2.category == 2)) = lv') (h2 : pc + 2 = pc2) (kk : PW Z X L F k n Q pc2 lv' st) : PW Z X L F k n Q pc lv (Value.int x :: st) := by
  subst h2
  exact fun H locs ls hP hD hS hl => lv_istore C.1 C.2.1 hdg  hl (by rw [C.2.2.1]; exact hn) hv (fun ls' hl' => kk H locs ls' hP hD hS hl')
theorem pk_lstore_n (C : pw_C Z cc nL own Ts R0 ret) {i : Nat} {z : Fin 4} {x : Int64} {lv' : List (Nat × Value)} (hdg : decode cc pc = .ok (.lstore_n z, 1)) (hi : (z : Nat) = i) (hn : i + 1 < nL) (hv : (i, Value.long x) :: lv.filter (fun q => !(q.1 == i) && (!(q.1 == i + 1) && !(q.1 + 1 == i && q.2.category == 2))) = lv') (h2 : pc + 1 = pc2) (kk : PW Z X L F k n Q pc2 lv' st) : PW Z X L F k n Q pc lv (Value.long x :: st) := by
  subst h2
  exact fun H locs ls hP hD hS hl => lv_lstore_n C.1 C.2.1 hdg hi hl (by rw [C.2.2.1]; exact hn) hv (fun ls' hl' => kk H locs ls' hP hD hS hl')
theorem pk_lstore (C : pw_C Z cc nL own Ts R0 ret) {i : Nat}  {x : Int64} {lv' : List (Nat × Value)} (hdg : decode cc pc = .ok (.lstore i, 2))  (hn : i + 1 < nL) (hv : (i, Value.long x) :: lv.filter (fun q => !(q.1 == i) && (!(q.1 == i + 1) && !(q.1 + 1 == i && q.2.category == 2))) = lv') (h2 : pc + 2 = pc2) (kk : PW Z X L F k n Q pc2 lv' st) : PW Z X L F k n Q pc lv (Value.long x :: st) := by
  subst h2
  exact fun H locs ls hP hD hS hl => lv_lstore C.1 C.2.1 hdg  hl (by rw [C.2.2.1]; exact hn) hv (fun ls' hl' => kk H locs ls' hP hD hS hl')
theorem pk_astore_n (C : pw_C Z cc nL own Ts R0 ret) {i : Nat} {z : Fin 4} {x : Nat} {lv' : List (Nat × Value)} (hdg : decode cc pc = .ok (.astore_n z, 1)) (hi : (z : Nat) = i) (hn : i < nL) (hv : (i, Value.ref x) :: lv.filter (fun q => !(q.1 == i) && !(q.1 + 1 == i && q.2.category == 2)) = lv') (h2 : pc + 1 = pc2) (kk : PW Z X L F k n Q pc2 lv' st) : PW Z X L F k n Q pc lv (Value.ref x :: st) := by
  subst h2
  exact fun H locs ls hP hD hS hl => lv_astore_n C.1 C.2.1 hdg hi hl (by rw [C.2.2.1]; exact hn) hv (fun ls' hl' => kk H locs ls' hP hD hS hl')
theorem pk_astore (C : pw_C Z cc nL own Ts R0 ret) {i : Nat}  {x : Nat} {lv' : List (Nat × Value)} (hdg : decode cc pc = .ok (.astore i, 2))  (hn : i < nL) (hv : (i, Value.ref x) :: lv.filter (fun q => !(q.1 == i) && !(q.1 + 1 == i && q.2.category == 2)) = lv') (h2 : pc + 2 = pc2) (kk : PW Z X L F k n Q pc2 lv' st) : PW Z X L F k n Q pc lv (Value.ref x :: st) := by
  subst h2
  exact fun H locs ls hP hD hS hl => lv_astore C.1 C.2.1 hdg  hl (by rw [C.2.2.1]; exact hn) hv (fun ls' hl' => kk H locs ls' hP hD hS hl')
theorem pk_astore_nN (C : pw_C Z cc nL own Ts R0 ret) {i : Nat} {z : Fin 4}  {lv' : List (Nat × Value)} (hdg : decode cc pc = .ok (.astore_n z, 1)) (hi : (z : Nat) = i) (hn : i < nL) (hv : (i, Value.null) :: lv.filter (fun q => !(q.1 == i) && !(q.1 + 1 == i && q.2.category == 2)) = lv') (h2 : pc + 1 = pc2) (kk : PW Z X L F k n Q pc2 lv' st) : PW Z X L F k n Q pc lv (Value.null :: st) := by
  subst h2
  exact fun H locs ls hP hD hS hl => lv_astore_nN C.1 C.2.1 hdg hi hl (by rw [C.2.2.1]; exact hn) hv (fun ls' hl' => kk H locs ls' hP hD hS hl')
theorem pk_astoreN (C : pw_C Z cc nL own Ts R0 ret) {i : Nat}   {lv' : List (Nat × Value)} (hdg : decode cc pc = .ok (.astore i, 2))  (hn : i < nL) (hv : (i, Value.null) :: lv.filter (fun q => !(q.1 == i) && !(q.1 + 1 == i && q.2.category == 2)) = lv') (h2 : pc + 2 = pc2) (kk : PW Z X L F k n Q pc2 lv' st) : PW Z X L F k n Q pc lv (Value.null :: st) := by
  subst h2
  exact fun H locs ls hP hD hS hl => lv_astoreN C.1 C.2.1 hdg  hl (by rw [C.2.2.1]; exact hn) hv (fun ls' hl' => kk H locs ls' hP hD hS hl')
theorem pk_iinc (C : pw_C Z cc nL own Ts R0 ret) {i : Nat} {z : Int} {x v : Int32} {lv' : List (Nat × Value)} (j : Nat) (hdg : decode cc pc = .ok (.iinc i z, 3)) (hj : lv[j]? = some (i, .int x)) (hv : x + Int32.ofInt z = v) (hn : i < nL) (hw : (i, Value.int v) :: lv.filter (fun q => !(q.1 == i) && !(q.1 + 1 == i && q.2.category == 2)) = lv') (h2 : pc + 3 = pc2) (kk : PW Z X L F k n Q pc2 lv' st) : PW Z X L F k n Q pc lv st := by
  subst h2
  exact fun H locs ls hP hD hS hl => lv_iinc C.1 C.2.1 hdg hl hj hv (by rw [C.2.2.1]; exact hn) hw (fun ls' hl' => kk H locs ls' hP hD hS hl')
theorem pk_iadd (C : pw_C Z cc nL own Ts R0 ret) {x y : Int32} (hdg : decode cc pc = .ok (.iadd, 1))  (h2 : pc + 1 = pc2) (kk : PW Z X L F k n Q pc2 lv (.int (x + y) :: st)) : PW Z X L F k n Q pc lv (.int y :: .int x :: st) := by
  subst h2
  exact fun H locs ls hP hD hS hl => lv_iadd C.1 C.2.1 hdg  (kk H locs ls hP hD hS hl)
theorem pk_isub (C : pw_C Z cc nL own Ts R0 ret) {x y : Int32} (hdg : decode cc pc = .ok (.isub, 1))  (h2 : pc + 1 = pc2) (kk : PW Z X L F k n Q pc2 lv (.int (x - y) :: st)) : PW Z X L F k n Q pc lv (.int y :: .int x :: st) := by
  subst h2
  exact fun H locs ls hP hD hS hl => lv_isub C.1 C.2.1 hdg  (kk H locs ls hP hD hS hl)
theorem pk_imul (C : pw_C Z cc nL own Ts R0 ret) {x y : Int32} (hdg : decode cc pc = .ok (.imul, 1))  (h2 : pc + 1 = pc2) (kk : PW Z X L F k n Q pc2 lv (.int (x * y) :: st)) : PW Z X L F k n Q pc lv (.int y :: .int x :: st) := by
  subst h2
  exact fun H locs ls hP hD hS hl => lv_imul C.1 C.2.1 hdg  (kk H locs ls hP hD hS hl)
theorem pk_iand (C : pw_C Z cc nL own Ts R0 ret) {x y : Int32} (hdg : decode cc pc = .ok (.iand, 1))  (h2 : pc + 1 = pc2) (kk : PW Z X L F k n Q pc2 lv (.int (x &&& y) :: st)) : PW Z X L F k n Q pc lv (.int y :: .int x :: st) := by
  subst h2
  exact fun H locs ls hP hD hS hl => lv_iand C.1 C.2.1 hdg  (kk H locs ls hP hD hS hl)
theorem pk_ladd (C : pw_C Z cc nL own Ts R0 ret) {x y : Int64} (hdg : decode cc pc = .ok (.ladd, 1))  (h2 : pc + 1 = pc2) (kk : PW Z X L F k n Q pc2 lv (.long (x + y) :: st)) : PW Z X L F k n Q pc lv (.long y :: .long x :: st) := by
  subst h2
  exact fun H locs ls hP hD hS hl => lv_ladd C.1 C.2.1 hdg  (kk H locs ls hP hD hS hl)
theorem pk_lsub (C : pw_C Z cc nL own Ts R0 ret) {x y : Int64} (hdg : decode cc pc = .ok (.lsub, 1))  (h2 : pc + 1 = pc2) (kk : PW Z X L F k n Q pc2 lv (.long (x - y) :: st)) : PW Z X L F k n Q pc lv (.long y :: .long x :: st) := by
  subst h2
  exact fun H locs ls hP hD hS hl => lv_lsub C.1 C.2.1 hdg  (kk H locs ls hP hD hS hl)
theorem pk_lmul (C : pw_C Z cc nL own Ts R0 ret) {x y : Int64} (hdg : decode cc pc = .ok (.lmul, 1))  (h2 : pc + 1 = pc2) (kk : PW Z X L F k n Q pc2 lv (.long (x * y) :: st)) : PW Z X L F k n Q pc lv (.long y :: .long x :: st) := by
  subst h2
  exact fun H locs ls hP hD hS hl => lv_lmul C.1 C.2.1 hdg  (kk H locs ls hP hD hS hl)
theorem pk_land (C : pw_C Z cc nL own Ts R0 ret) {x y : Int64} (hdg : decode cc pc = .ok (.land, 1))  (h2 : pc + 1 = pc2) (kk : PW Z X L F k n Q pc2 lv (.long (x &&& y) :: st)) : PW Z X L F k n Q pc lv (.long y :: .long x :: st) := by
  subst h2
  exact fun H locs ls hP hD hS hl => lv_land C.1 C.2.1 hdg  (kk H locs ls hP hD hS hl)
theorem pk_lor (C : pw_C Z cc nL own Ts R0 ret) {x y : Int64} (hdg : decode cc pc = .ok (.lor, 1))  (h2 : pc + 1 = pc2) (kk : PW Z X L F k n Q pc2 lv (.long (x ||| y) :: st)) : PW Z X L F k n Q pc lv (.long y :: .long x :: st) := by
  subst h2
  exact fun H locs ls hP hD hS hl => lv_lor C.1 C.2.1 hdg  (kk H locs ls hP hD hS hl)
theorem pk_ldiv (C : pw_C Z cc nL own Ts R0 ret) {x y : Int64} (hdg : decode cc pc = .ok (.ldiv, 1)) (hne : ¬ y = 0) (h2 : pc + 1 = pc2) (kk : PW Z X L F k n Q pc2 lv (.long (x / y) :: st)) : PW Z X L F k n Q pc lv (.long y :: .long x :: st) := by
  subst h2
  exact fun H locs ls hP hD hS hl => lv_ldiv C.1 C.2.1 hdg hne (kk H locs ls hP hD hS hl)
theorem pk_i2l (C : pw_C Z cc nL own Ts R0 ret) {x : Int32} (hdg : decode cc pc = .ok (.i2l, 1))  (h2 : pc + 1 = pc2) (kk : PW Z X L F k n Q pc2 lv (.long (x.toInt64) :: st)) : PW Z X L F k n Q pc lv (.int x :: st) := by
  subst h2
  exact fun H locs ls hP hD hS hl => lv_i2l C.1 C.2.1 hdg rfl (kk H locs ls hP hD hS hl)
theorem pk_lshl (C : pw_C Z cc nL own Ts R0 ret) {x v : Int64} {y : Int32} (hdg : decode cc pc = .ok (.lshl, 1)) (hv : x <<< (y.toInt64 &&& 63) = v) (h2 : pc + 1 = pc2) (kk : PW Z X L F k n Q pc2 lv (.long v :: st)) : PW Z X L F k n Q pc lv (.int y :: .long x :: st) := by
  subst h2
  exact fun H locs ls hP hD hS hl => lv_lshl C.1 C.2.1 hdg hv (kk H locs ls hP hD hS hl)
theorem pk_dup (C : pw_C Z cc nL own Ts R0 ret) {va : Value} (hdg : decode cc pc = .ok (.dup, 1)) (hva : va.category = 1) (h2 : pc + 1 = pc2) (kk : PW Z X L F k n Q pc2 lv (va :: va :: st)) : PW Z X L F k n Q pc lv (va :: st) := by
  subst h2
  exact fun H locs ls hP hD hS hl => lv_dup C.1 C.2.1 hdg hva (kk H locs ls hP hD hS hl)
theorem pk_pop (C : pw_C Z cc nL own Ts R0 ret) {va : Value} (hdg : decode cc pc = .ok (.pop, 1)) (hva : va.category = 1) (h2 : pc + 1 = pc2) (kk : PW Z X L F k n Q pc2 lv (st)) : PW Z X L F k n Q pc lv (va :: st) := by
  subst h2
  exact fun H locs ls hP hD hS hl => lv_pop C.1 C.2.1 hdg hva (kk H locs ls hP hD hS hl)
theorem pk_if_eq (C : pw_C Z cc nL own Ts R0 ret) {x : Int32} {off : Int} {tgt : Nat} (hdg : decode cc pc = .ok (.ifCond .eq off, 3)) (ht : (pc : Int) + off = (tgt : Int)) (h2 : pc + 3 = pc2) (kt : x = 0 → PW Z X L F k n Q tgt lv st) (kf : ¬ x = 0 → PW Z X L F k n Q pc2 lv st) : PW Z X L F k n Q pc lv (.int x :: st) := by
  subst h2
  exact fun H locs ls hP hD hS hl => lv_if_eq C.1 C.2.1 hdg ht (fun c => kt c H locs ls hP hD hS hl) (fun c => kf c H locs ls hP hD hS hl)
theorem pk_icmp_eq (C : pw_C Z cc nL own Ts R0 ret) {x y : Int32} {off : Int} {tgt : Nat} (hdg : decode cc pc = .ok (.if_icmp .eq off, 3)) (ht : (pc : Int) + off = (tgt : Int)) (h2 : pc + 3 = pc2) (kt : x = y → PW Z X L F k n Q tgt lv st) (kf : ¬ x = y → PW Z X L F k n Q pc2 lv st) : PW Z X L F k n Q pc lv (.int y :: .int x :: st) := by
  subst h2
  exact fun H locs ls hP hD hS hl => lv_icmp_eq C.1 C.2.1 hdg ht (fun c => kt c H locs ls hP hD hS hl) (fun c => kf c H locs ls hP hD hS hl)
theorem pk_if_ne (C : pw_C Z cc nL own Ts R0 ret) {x : Int32} {off : Int} {tgt : Nat} (hdg : decode cc pc = .ok (.ifCond .ne off, 3)) (ht : (pc : Int) + off = (tgt : Int)) (h2 : pc + 3 = pc2) (kt : ¬ x = 0 → PW Z X L F k n Q tgt lv st) (kf : x = 0 → PW Z X L F k n Q pc2 lv st) : PW Z X L F k n Q pc lv (.int x :: st) := by
  subst h2
  exact fun H locs ls hP hD hS hl => lv_if_ne C.1 C.2.1 hdg ht (fun c => kt c H locs ls hP hD hS hl) (fun c => kf c H locs ls hP hD hS hl)
theorem pk_icmp_ne (C : pw_C Z cc nL own Ts R0 ret) {x y : Int32} {off : Int} {tgt : Nat} (hdg : decode cc pc = .ok (.if_icmp .ne off, 3)) (ht : (pc : Int) + off = (tgt : Int)) (h2 : pc + 3 = pc2) (kt : ¬ x = y → PW Z X L F k n Q tgt lv st) (kf : x = y → PW Z X L F k n Q pc2 lv st) : PW Z X L F k n Q pc lv (.int y :: .int x :: st) := by
  subst h2
  exact fun H locs ls hP hD hS hl => lv_icmp_ne C.1 C.2.1 hdg ht (fun c => kt c H locs ls hP hD hS hl) (fun c => kf c H locs ls hP hD hS hl)
theorem pk_if_lt (C : pw_C Z cc nL own Ts R0 ret) {x : Int32} {off : Int} {tgt : Nat} (hdg : decode cc pc = .ok (.ifCond .lt off, 3)) (ht : (pc : Int) + off = (tgt : Int)) (h2 : pc + 3 = pc2) (kt : x < 0 → PW Z X L F k n Q tgt lv st) (kf : ¬ x < 0 → PW Z X L F k n Q pc2 lv st) : PW Z X L F k n Q pc lv (.int x :: st) := by
  subst h2
  exact fun H locs ls hP hD hS hl => lv_if_lt C.1 C.2.1 hdg ht (fun c => kt c H locs ls hP hD hS hl) (fun c => kf c H locs ls hP hD hS hl)
theorem pk_icmp_lt (C : pw_C Z cc nL own Ts R0 ret) {x y : Int32} {off : Int} {tgt : Nat} (hdg : decode cc pc = .ok (.if_icmp .lt off, 3)) (ht : (pc : Int) + off = (tgt : Int)) (h2 : pc + 3 = pc2) (kt : x < y → PW Z X L F k n Q tgt lv st) (kf : ¬ x < y → PW Z X L F k n Q pc2 lv st) : PW Z X L F k n Q pc lv (.int y :: .int x :: st) := by
  subst h2
  exact fun H locs ls hP hD hS hl => lv_icmp_lt C.1 C.2.1 hdg ht (fun c => kt c H locs ls hP hD hS hl) (fun c => kf c H locs ls hP hD hS hl)
theorem pk_if_ge (C : pw_C Z cc nL own Ts R0 ret) {x : Int32} {off : Int} {tgt : Nat} (hdg : decode cc pc = .ok (.ifCond .ge off, 3)) (ht : (pc : Int) + off = (tgt : Int)) (h2 : pc + 3 = pc2) (kt : 0 ≤ x → PW Z X L F k n Q tgt lv st) (kf : ¬ 0 ≤ x → PW Z X L F k n Q pc2 lv st) : PW Z X L F k n Q pc lv (.int x :: st) := by
  subst h2
  exact fun H locs ls hP hD hS hl => lv_if_ge C.1 C.2.1 hdg ht (fun c => kt c H locs ls hP hD hS hl) (fun c => kf c H locs ls hP hD hS hl)
theorem pk_icmp_ge (C : pw_C Z cc nL own Ts R0 ret) {x y : Int32} {off : Int} {tgt : Nat} (hdg : decode cc pc = .ok (.if_icmp .ge off, 3)) (ht : (pc : Int) + off = (tgt : Int)) (h2 : pc + 3 = pc2) (kt : y ≤ x → PW Z X L F k n Q tgt lv st) (kf : ¬ y ≤ x → PW Z X L F k n Q pc2 lv st) : PW Z X L F k n Q pc lv (.int y :: .int x :: st) := by
  subst h2
  exact fun H locs ls hP hD hS hl => lv_icmp_ge C.1 C.2.1 hdg ht (fun c => kt c H locs ls hP hD hS hl) (fun c => kf c H locs ls hP hD hS hl)
theorem pk_if_gt (C : pw_C Z cc nL own Ts R0 ret) {x : Int32} {off : Int} {tgt : Nat} (hdg : decode cc pc = .ok (.ifCond .gt off, 3)) (ht : (pc : Int) + off = (tgt : Int)) (h2 : pc + 3 = pc2) (kt : 0 < x → PW Z X L F k n Q tgt lv st) (kf : ¬ 0 < x → PW Z X L F k n Q pc2 lv st) : PW Z X L F k n Q pc lv (.int x :: st) := by
  subst h2
  exact fun H locs ls hP hD hS hl => lv_if_gt C.1 C.2.1 hdg ht (fun c => kt c H locs ls hP hD hS hl) (fun c => kf c H locs ls hP hD hS hl)
theorem pk_icmp_gt (C : pw_C Z cc nL own Ts R0 ret) {x y : Int32} {off : Int} {tgt : Nat} (hdg : decode cc pc = .ok (.if_icmp .gt off, 3)) (ht : (pc : Int) + off = (tgt : Int)) (h2 : pc + 3 = pc2) (kt : y < x → PW Z X L F k n Q tgt lv st) (kf : ¬ y < x → PW Z X L F k n Q pc2 lv st) : PW Z X L F k n Q pc lv (.int y :: .int x :: st) := by
  subst h2
  exact fun H locs ls hP hD hS hl => lv_icmp_gt C.1 C.2.1 hdg ht (fun c => kt c H locs ls hP hD hS hl) (fun c => kf c H locs ls hP hD hS hl)
theorem pk_if_le (C : pw_C Z cc nL own Ts R0 ret) {x : Int32} {off : Int} {tgt : Nat} (hdg : decode cc pc = .ok (.ifCond .le off, 3)) (ht : (pc : Int) + off = (tgt : Int)) (h2 : pc + 3 = pc2) (kt : x ≤ 0 → PW Z X L F k n Q tgt lv st) (kf : ¬ x ≤ 0 → PW Z X L F k n Q pc2 lv st) : PW Z X L F k n Q pc lv (.int x :: st) := by
  subst h2
  exact fun H locs ls hP hD hS hl => lv_if_le C.1 C.2.1 hdg ht (fun c => kt c H locs ls hP hD hS hl) (fun c => kf c H locs ls hP hD hS hl)
theorem pk_icmp_le (C : pw_C Z cc nL own Ts R0 ret) {x y : Int32} {off : Int} {tgt : Nat} (hdg : decode cc pc = .ok (.if_icmp .le off, 3)) (ht : (pc : Int) + off = (tgt : Int)) (h2 : pc + 3 = pc2) (kt : x ≤ y → PW Z X L F k n Q tgt lv st) (kf : ¬ x ≤ y → PW Z X L F k n Q pc2 lv st) : PW Z X L F k n Q pc lv (.int y :: .int x :: st) := by
  subst h2
  exact fun H locs ls hP hD hS hl => lv_icmp_le C.1 C.2.1 hdg ht (fun c => kt c H locs ls hP hD hS hl) (fun c => kf c H locs ls hP hD hS hl)
theorem pk_lcmp_eq (C : pw_C Z cc nL own Ts R0 ret) {x y : Int64} {off : Int} {tgt pc1 : Nat} (hd1 : decode cc pc = .ok (.lcmp, 1)) (hdg : decode cc pc1 = .ok (.ifCond .eq off, 3)) (h1 : pc + 1 = pc1) (ht : (pc1 : Int) + off = (tgt : Int)) (h2 : pc1 + 3 = pc2) (kt : x = y → PW Z X L F k n Q tgt lv st) (kf : ¬ x = y → PW Z X L F k n Q pc2 lv st) : PW Z X L F k n Q pc lv (.long y :: .long x :: st) := by
  subst h1
  subst h2
  exact fun H locs ls hP hD hS hl => W.lcmp C.1 C.2.1 hd1 (lv_if_eq C.1 C.2.1 hdg ht (fun c => kt (((lg_cmp_eq x y).mp) c) H locs ls hP hD hS hl) (fun c => kf (fun h => c (((lg_cmp_eq x y).mpr) h)) H locs ls hP hD hS hl))
theorem pk_lcmp_ne (C : pw_C Z cc nL own Ts R0 ret) {x y : Int64} {off : Int} {tgt pc1 : Nat} (hd1 : decode cc pc = .ok (.lcmp, 1)) (hdg : decode cc pc1 = .ok (.ifCond .ne off, 3)) (h1 : pc + 1 = pc1) (ht : (pc1 : Int) + off = (tgt : Int)) (h2 : pc1 + 3 = pc2) (kt : ¬ x = y → PW Z X L F k n Q tgt lv st) (kf : x = y → PW Z X L F k n Q pc2 lv st) : PW Z X L F k n Q pc lv (.long y :: .long x :: st) := by
  subst h1
  subst h2
  exact fun H locs ls hP hD hS hl => W.lcmp C.1 C.2.1 hd1 (lv_if_ne C.1 C.2.1 hdg ht (fun c => kt (fun h => c (((lg_cmp_eq x y).mpr) h)) H locs ls hP hD hS hl) (fun c => kf (((lg_cmp_eq x y).mp) c) H locs ls hP hD hS hl))
theorem pk_lcmp_lt (C : pw_C Z cc nL own Ts R0 ret) {x y : Int64} {off : Int} {tgt pc1 : Nat} (hd1 : decode cc pc = .ok (.lcmp, 1)) (hdg : decode cc pc1 = .ok (.ifCond .lt off, 3)) (h1 : pc + 1 = pc1) (ht : (pc1 : Int) + off = (tgt : Int)) (h2 : pc1 + 3 = pc2) (kt : x < y → PW Z X L F k n Q tgt lv st) (kf : ¬ x < y → PW Z X L F k n Q pc2 lv st) : PW Z X L F k n Q pc lv (.long y :: .long x :: st) := by
  subst h1
  subst h2
  exact fun H locs ls hP hD hS hl => W.lcmp C.1 C.2.1 hd1 (lv_if_lt C.1 C.2.1 hdg ht (fun c => kt (((lg_cmp_lt x y).mp) c) H locs ls hP hD hS hl) (fun c => kf (fun h => c (((lg_cmp_lt x y).mpr) h)) H locs ls hP hD hS hl))
theorem pk_lcmp_ge (C : pw_C Z cc nL own Ts R0 ret) {x y : Int64} {off : Int} {tgt pc1 : Nat} (hd1 : decode cc pc = .ok (.lcmp, 1)) (hdg : decode cc pc1 = .ok (.ifCond .ge off, 3)) (h1 : pc + 1 = pc1) (ht : (pc1 : Int) + off = (tgt : Int)) (h2 : pc1 + 3 = pc2) (kt : y ≤ x → PW Z X L F k n Q tgt lv st) (kf : ¬ y ≤ x → PW Z X L F k n Q pc2 lv st) : PW Z X L F k n Q pc lv (.long y :: .long x :: st) := by
  subst h1
  subst h2
  exact fun H locs ls hP hD hS hl => W.lcmp C.1 C.2.1 hd1 (lv_if_ge C.1 C.2.1 hdg ht (fun c => kt (((lg_cmp_ge x y).mp) c) H locs ls hP hD hS hl) (fun c => kf (fun h => c (((lg_cmp_ge x y).mpr) h)) H locs ls hP hD hS hl))
theorem pk_lcmp_gt (C : pw_C Z cc nL own Ts R0 ret) {x y : Int64} {off : Int} {tgt pc1 : Nat} (hd1 : decode cc pc = .ok (.lcmp, 1)) (hdg : decode cc pc1 = .ok (.ifCond .gt off, 3)) (h1 : pc + 1 = pc1) (ht : (pc1 : Int) + off = (tgt : Int)) (h2 : pc1 + 3 = pc2) (kt : y < x → PW Z X L F k n Q tgt lv st) (kf : ¬ y < x → PW Z X L F k n Q pc2 lv st) : PW Z X L F k n Q pc lv (.long y :: .long x :: st) := by
  subst h1
  subst h2
  exact fun H locs ls hP hD hS hl => W.lcmp C.1 C.2.1 hd1 (lv_if_gt C.1 C.2.1 hdg ht (fun c => kt (((lg_cmp_gt x y).mp) c) H locs ls hP hD hS hl) (fun c => kf (fun h => c (((lg_cmp_gt x y).mpr) h)) H locs ls hP hD hS hl))
theorem pk_lcmp_le (C : pw_C Z cc nL own Ts R0 ret) {x y : Int64} {off : Int} {tgt pc1 : Nat} (hd1 : decode cc pc = .ok (.lcmp, 1)) (hdg : decode cc pc1 = .ok (.ifCond .le off, 3)) (h1 : pc + 1 = pc1) (ht : (pc1 : Int) + off = (tgt : Int)) (h2 : pc1 + 3 = pc2) (kt : x ≤ y → PW Z X L F k n Q tgt lv st) (kf : ¬ x ≤ y → PW Z X L F k n Q pc2 lv st) : PW Z X L F k n Q pc lv (.long y :: .long x :: st) := by
  subst h1
  subst h2
  exact fun H locs ls hP hD hS hl => W.lcmp C.1 C.2.1 hd1 (lv_if_le C.1 C.2.1 hdg ht (fun c => kt (((lg_cmp_le x y).mp) c) H locs ls hP hD hS hl) (fun c => kf (fun h => c (((lg_cmp_le x y).mpr) h)) H locs ls hP hD hS hl))
theorem pk_goto (C : pw_C Z cc nL own Ts R0 ret) {off : Int} {tgt : Nat} (hdg : decode cc pc = .ok (.goto off, 3)) (ht : (pc : Int) + off = (tgt : Int)) (kk : PW Z X L F k n Q tgt lv st) : PW Z X L F k n Q pc lv st :=
  fun H locs ls hP hD hS hl => lv_goto C.1 C.2.1 hdg ht (kk H locs ls hP hD hS hl)
theorem pk_ifnull_r (C : pw_C Z cc nL own Ts R0 ret) {x : Nat} {off : Int} (hdg : decode cc pc = .ok (.ifnull off, 3)) (h2 : pc + 3 = pc2) (kk : PW Z X L F k n Q pc2 lv st) : PW Z X L F k n Q pc lv (.ref x :: st) := by
  subst h2
  exact fun H locs ls hP hD hS hl => lv_ifnull C.1 C.2.1 hdg (kk H locs ls hP hD hS hl)
theorem pk_ifnull_n (C : pw_C Z cc nL own Ts R0 ret) {off : Int} {tgt : Nat} (hdg : decode cc pc = .ok (.ifnull off, 3)) (ht : (pc : Int) + off = (tgt : Int)) (kk : PW Z X L F k n Q tgt lv st) : PW Z X L F k n Q pc lv (.null :: st) :=
  fun H locs ls hP hD hS hl => lv_ifnullN C.1 C.2.1 hdg ht (kk H locs ls hP hD hS hl)
theorem pk_ifnonnull_r (C : pw_C Z cc nL own Ts R0 ret) {x : Nat} {off : Int} {tgt : Nat} (hdg : decode cc pc = .ok (.ifnonnull off, 3)) (ht : (pc : Int) + off = (tgt : Int)) (kk : PW Z X L F k n Q tgt lv st) : PW Z X L F k n Q pc lv (.ref x :: st) :=
  fun H locs ls hP hD hS hl => lv_ifnonnull C.1 C.2.1 hdg ht (kk H locs ls hP hD hS hl)
theorem pk_ifnonnull_n (C : pw_C Z cc nL own Ts R0 ret) {off : Int} (hdg : decode cc pc = .ok (.ifnonnull off, 3)) (h2 : pc + 3 = pc2) (kk : PW Z X L F k n Q pc2 lv st) : PW Z X L F k n Q pc lv (.null :: st) := by
  subst h2
  exact fun H locs ls hP hD hS hl => lv_ifnonnullN C.1 C.2.1 hdg (kk H locs ls hP hD hS hl)
theorem pk_tableIn (C : pw_C Z cc nL own Ts R0 ret) {dflt lo hi : Int} {offs : Array Int} {len : Nat} {x : Int32} {off : Int} {tgt : Nat} (hdg : decode cc pc = .ok (.tableswitch dflt lo hi offs, len)) (h1 : ¬ x.toInt < lo) (h2 : ¬ hi < x.toInt) (ho : offs[(x.toInt - lo).toNat]? = some off) (ht : (pc : Int) + off = (tgt : Int)) (kk : PW Z X L F k n Q tgt lv st) : PW Z X L F k n Q pc lv (.int x :: st) :=
  fun H locs ls hP hD hS hl => lv_tableIn C.1 C.2.1 hdg h1 h2 ho ht (kk H locs ls hP hD hS hl)
theorem pk_tableOut (C : pw_C Z cc nL own Ts R0 ret) {dflt lo hi : Int} {offs : Array Int} {len : Nat} {x : Int32} {tgt : Nat} (hdg : decode cc pc = .ok (.tableswitch dflt lo hi offs, len)) (h : x.toInt < lo ∨ hi < x.toInt) (ht : (pc : Int) + dflt = (tgt : Int)) (kk : PW Z X L F k n Q tgt lv st) : PW Z X L F k n Q pc lv (.int x :: st) :=
  fun H locs ls hP hD hS hl => lv_tableOut C.1 C.2.1 hdg h ht (kk H locs ls hP hD hS hl)
theorem pk_lookup (C : pw_C Z cc nL own Ts R0 ret) {dflt : Int} {ps : Array (Int × Int)} {len : Nat} {x : Int32} {off : Int} {tgt : Nat} (hdg : decode cc pc = .ok (.lookupswitch dflt ps, len)) (hp : (ps.toList.zip (ps.toList.drop 1)).all (fun (a, next) => a.1 < next.1) = true) (ho : Op.lookupswitch.offset ps.toList dflt x.toInt = off) (ht : (pc : Int) + off = (tgt : Int)) (kk : PW Z X L F k n Q tgt lv st) : PW Z X L F k n Q pc lv (.int x :: st) :=
  fun H locs ls hP hD hS hl => lv_lookup C.1 C.2.1 hdg hp ho ht (kk H locs ls hP hD hS hl)
theorem pk_ldc (C : pw_C Z cc nL own Ts R0 ret) {index : Nat} {v : Int32} (hw : Cond.constant own index v ∈ Ts) (hdg : decode cc pc = .ok (.ldc index, 2)) (h2 : pc + 2 = pc2) (kk : PW Z X L F k n Q pc2 lv (.int v :: st)) : PW Z X L F k n Q pc lv st := by
  subst h2
  exact fun H locs ls hP hD hS hl => lv_ldc C.1 C.2.1 C.2.2.2.1 (C.2.2.2.2.1 _ hw) hdg (kk H locs ls hP hD hS hl)
theorem pk_ldc2 (C : pw_C Z cc nL own Ts R0 ret) {index : Nat} {v : Int64} (hw : Cond.constantLong own index v ∈ Ts) (hdg : decode cc pc = .ok (.ldc2_w index, 3)) (h2 : pc + 3 = pc2) (kk : PW Z X L F k n Q pc2 lv (.long v :: st)) : PW Z X L F k n Q pc lv st := by
  subst h2
  exact fun H locs ls hP hD hS hl => lv_ldc2 C.1 C.2.1 C.2.2.2.1 (C.2.2.2.2.1 _ hw) hdg (kk H locs ls hP hD hS hl)
theorem pk_maxl (C : pw_C Z cc nL own Ts R0 ret) {index : Nat} {x y v : Int64} (hw : Cond.methodLink own index Lib.MathLoose.max_long.x ∈ Ts ∧ Cond.static Lib.MathLoose.max_long.x ∈ Ts ∧ Cond.initialized "java/lang/Math" ∈ Ts ∧ Cond.code Lib.MathLoose.max_long.x Lib.MathLoose.max_long.code 4 (some .long) ∈ Ts) (hf : 1 ≤ R0.frames) (hlo : (st.map fun v => v.category).sum + 15 ≤ R0.locals) (hc : k ≤ R0.cells) (hs : n ≤ R0.slots) (hdg : decode cc pc = .ok (.invokestatic index, 3)) (h2 : pc + 3 = pc2) (hv : (if y < x then x else y) = v) (kk : PW Z X L F k n Q pc2 lv (.long v :: st)) : PW Z X L F k n Q pc lv (.long y :: .long x :: st) := by
  subst h2
  subst hv
  obtain ⟨c1, c2, c3, c4, c5, c6, c7, rfl, -⟩ := C
  exact fun H locs ls hP hD hS hl => va_mmax_long c1 c2 hl.1.symm c4 (c5 _ hw.1) (c5 _ hw.2.1) (c5 _ hw.2.2.1) (c5 _ hw.2.2.2) hf hlo hc hs hdg (kk H locs ls hP hD hS hl)
theorem pk_minl (C : pw_C Z cc nL own Ts R0 ret) {index : Nat} {x y v : Int64} (hw : Cond.methodLink own index Lib.MathLoose.min_long.x ∈ Ts ∧ Cond.static Lib.MathLoose.min_long.x ∈ Ts ∧ Cond.initialized "java/lang/Math" ∈ Ts ∧ Cond.code Lib.MathLoose.min_long.x Lib.MathLoose.min_long.code 4 (some .long) ∈ Ts) (hf : 1 ≤ R0.frames) (hlo : (st.map fun v => v.category).sum + 15 ≤ R0.locals) (hc : k ≤ R0.cells) (hs : n ≤ R0.slots) (hdg : decode cc pc = .ok (.invokestatic index, 3)) (h2 : pc + 3 = pc2) (hv : (if y < x then y else x) = v) (kk : PW Z X L F k n Q pc2 lv (.long v :: st)) : PW Z X L F k n Q pc lv (.long y :: .long x :: st) := by
  subst h2
  subst hv
  obtain ⟨c1, c2, c3, c4, c5, c6, c7, rfl, -⟩ := C
  exact fun H locs ls hP hD hS hl => va_mmin_long c1 c2 hl.1.symm c4 (c5 _ hw.1) (c5 _ hw.2.1) (c5 _ hw.2.2.1) (c5 _ hw.2.2.2) hf hlo hc hs hdg (kk H locs ls hP hD hS hl)
theorem pk_get (C : pw_C Z cc nL own Ts R0 ret) {a ci N index : Nat} {Cn ref : String} {T : u_T} {fs : List Value} {v : Value} (hin : ∀ w ∈ u_ws Cn T N, w ∈ Ts) (hat : pw_at X L F a (.inr (ci, fs))) (hc : vwCl[ci]? = some (Cn, T, N)) (j : Nat) (hj : j < N) (hw : Cond.fieldLink own index ref (T j).2.1 (T j).2.2.1 ∈ Ts) (hr : (T j).1 = ref) (hv : fs[j]? = some v) (hdg : decode cc pc = .ok (.getfield index, 3)) (h2 : pc + 3 = pc2) (kk : PW Z X L F k n Q pc2 lv (v :: st)) : PW Z X L F k n Q pc lv (.ref a :: st) := by
  subst h2
  obtain ⟨q, hq⟩ := hat
  exact fun H locs ls hP hD hS hl => va_get C.1 C.2.1 C.2.2.2.2.1 hin C.2.2.2.1 C.2.2.2.2.2.1 hP q hq hc j hj (C.2.2.2.2.1 _ hw) (fun x h => by rw [← hr]; exact h) hv hdg (kk H locs ls hP hD hS hl)
theorem pk_getN (C : pw_C Z cc nL own Ts R0 ret) {a ci N index : Nat} {Cn ref host : String} {T : u_T} {fs : List Value} {v : Value} (hin : ∀ w ∈ u_ws Cn T N, w ∈ Ts) (hat : pw_at X L F a (.inr (ci, fs))) (hc : vwCl[ci]? = some (Cn, T, N)) (j : Nat) (hj : j < N) (hw : Cond.fieldLinkNest own index ref (T j).2.1 (T j).2.2.1 host ∈ pw_N) (hr : (T j).1 = ref) (hv : fs[j]? = some v) (hdg : decode cc pc = .ok (.getfield index, 3)) (h2 : pc + 3 = pc2) (kk : PW Z X L F k n Q pc2 lv (v :: st)) : PW Z X L F k n Q pc lv (.ref a :: st) := by
  subst h2
  obtain ⟨q, hq⟩ := hat
  exact fun H locs ls hP hD hS hl => va_getN C.1 C.2.1 C.2.2.2.2.1 hin C.2.2.2.1 C.2.2.2.2.2.1 hP q hq hc j hj (va_Nw.use (pw_N_tabs _ hw) (C.2.2.2.2.2.2.2.2.2.2 _ hw)) (fun x h => by rw [← hr]; exact h) hv hdg (kk H locs ls hP hD hS hl)
theorem pk_putX (C : pw_C Z cc nL own Ts R0 ret) {a ci N index : Nat} {Cn ref : String} {T : u_T} {ty0 : Nat → FieldType} {fs : List Value} {v : Value} {ty : FieldType} {X' : va_W} (hin : ∀ w ∈ u_ws Cn T N, w ∈ Ts) (hty : ∀ k, k < N → parseFieldDescriptor (T k).2.2.1 = some (ty0 k)) (hnm : ∀ a, a < N → ∀ b, b < N → a ≠ b → (T a).2.1 ≠ (T b).2.1) (q : Nat) (hat : X[q]? = some (a, .inr (ci, fs))) (hc : vwCl[ci]? = some (Cn, T, N)) (j : Nat) (hj : j < N) (hw : Cond.fieldLink own index ref (T j).2.1 (T j).2.2.1 ∈ Ts) (hr : (T j).1 = ref) (hfin : (T j).2.2.2 = false) (hd : ty0 j = ty) (hn : narrow ty v = v) (hfit : fits ty v = true) (hl0 : j < fs.length) (hX : X.set q (a, .inr (ci, fs.set j v)) = X') (hdg : decode cc pc = .ok (.putfield index, 3)) (h2 : pc + 3 = pc2) (kk : PW Z X' L F k n Q pc2 lv st) : PW Z X L F k n Q pc lv (v :: .ref a :: st) := by
  subst h2
  subst hX
  subst hd
  have hq : (X ++ va_pl L F)[q]? = some (a, .inr (ci, fs)) := by rw [List.getElem?_append_left (List.getElem?_eq_some_iff.mp hat).1]; exact hat
  refine fun H locs ls hP hD hS hl => va_put C.1 C.2.1 C.2.2.2.2.1 hin ty0 hty hnm C.2.2.2.1 C.2.2.2.2.2.1 hP hD hS q hq hc j hj (C.2.2.2.2.1 _ hw) (fun x h => by rw [← hr]; exact h) hfin (hty j hj) hn hfit hl0 hdg (fun H1 locs1 hP1 hD1 hS1 => ?_)
  rw [pw_setX hat] at hP1 hD1
  exact kk H1 locs1 ls hP1 hD1 hS1 hl
theorem pk_putP (C : pw_C Z cc nL own Ts R0 ret) {a ci N index : Nat} {Cn ref : String} {T : u_T} {ty0 : Nat → FieldType} {fs : List Value} {v : Value} {ty : FieldType} {e : va_E} (hin : ∀ w ∈ u_ws Cn T N, w ∈ Ts) (hty : ∀ k, k < N → parseFieldDescriptor (T k).2.2.1 = some (ty0 k)) (hnm : ∀ a, a < N → ∀ b, b < N → a ≠ b → (T a).2.1 ≠ (T b).2.1) (hL : a ∈ L) (hat : F a = .inr (ci, fs)) (hc : vwCl[ci]? = some (Cn, T, N)) (j : Nat) (hj : j < N) (hw : Cond.fieldLink own index ref (T j).2.1 (T j).2.2.1 ∈ Ts) (hr : (T j).1 = ref) (hfin : (T j).2.2.2 = false) (hd : ty0 j = ty) (hn : narrow ty v = v) (hfit : fits ty v = true) (hl0 : j < fs.length) (he : (.inr (ci, fs.set j v) : va_E) = e) (hdg : decode cc pc = .ok (.putfield index, 3)) (h2 : pc + 3 = pc2) (kk : PW Z X L (va_up F a e) k n Q pc2 lv st) : PW Z X L F k n Q pc lv (v :: .ref a :: st) := by
  subst h2
  subst he
  subst hd
  obtain ⟨q, hq⟩ := va_pl_get (X := X) (f := F) hL
  have hq2 : (X ++ va_pl L F)[q]? = some (a, .inr (ci, fs)) := by rw [hq, hat]
  refine fun H locs ls hP hD hS hl => va_put C.1 C.2.1 C.2.2.2.2.1 hin ty0 hty hnm C.2.2.2.1 C.2.2.2.2.2.1 hP hD hS q hq2 hc j hj (C.2.2.2.2.1 _ hw) (fun x h => by rw [← hr]; exact h) hfin (hty j hj) hn hfit hl0 hdg (fun H1 locs1 hP1 hD1 hS1 => ?_)
  rw [va_pl_set hD hL hq] at hP1 hD1
  exact kk H1 locs1 ls hP1 hD1 hS1 hl
/-- a final field in its class's constructor -/
theorem pk_putFX (C : pw_C Z cc nL own Ts R0 ret) {a ci N index : Nat} {Cn ref : String} {T : u_T} {ty0 : Nat → FieldType} {fs : List Value} {v : Value} {ty : FieldType} {X' : va_W} (hini : (zmeth Z).name = "<init>") (hin : ∀ w ∈ u_ws Cn T N, w ∈ Ts) (hty : ∀ k, k < N → parseFieldDescriptor (T k).2.2.1 = some (ty0 k)) (hnm : ∀ a, a < N → ∀ b, b < N → a ≠ b → (T a).2.1 ≠ (T b).2.1) (q : Nat) (hat : X[q]? = some (a, .inr (ci, fs))) (hc : vwCl[ci]? = some (Cn, T, N)) (j : Nat) (hj : j < N) (hw : Cond.fieldLink own index ref (T j).2.1 (T j).2.2.1 ∈ Ts) (hr : (T j).1 = ref) (hro : (T j).1 = own) (hfin : (T j).2.2.2 = true) (hd : ty0 j = ty) (hn : narrow ty v = v) (hfit : fits ty v = true) (hl0 : j < fs.length) (hX : X.set q (a, .inr (ci, fs.set j v)) = X') (hdg : decode cc pc = .ok (.putfield index, 3)) (h2 : pc + 3 = pc2) (kk : PW Z X' L F k n Q pc2 lv st) : PW Z X L F k n Q pc lv (v :: .ref a :: st) := by
  subst h2
  subst hX
  subst hd
  have hq : (X ++ va_pl L F)[q]? = some (a, .inr (ci, fs)) := by rw [List.getElem?_append_left (List.getElem?_eq_some_iff.mp hat).1]; exact hat
  refine fun H locs ls hP hD hS hl => va_putF C.1 C.2.1 C.2.2.2.2.1 hin ty0 hty hnm C.2.2.2.1 C.2.2.2.2.2.1 hP hD hS q hq hc j hj (C.2.2.2.2.1 _ hw) (fun x h => by rw [← hr]; exact h) hfin hini hro (hty j hj) hn hfit hl0 hdg (fun H1 locs1 hP1 hD1 hS1 => ?_)
  rw [pw_setX hat] at hP1 hD1
  exact kk H1 locs1 ls hP1 hD1 hS1 hl
theorem pk_iald (C : pw_C Z cc nL own Ts R0 ret) {a N : Nat} {f : Nat → Int32} {i : Int32} {v : Int32} (hat : pw_at X L F a (.inl ((zG Z).2.1, N, .inl f))) (hin : vp_in i N) (hv : f i.toNatClampNeg = v) (hdg : decode cc pc = .ok (.iaload, 1)) (h2 : pc + 1 = pc2) (kk : PW Z X L F k n Q pc2 lv (.int v :: st)) : PW Z X L F k n Q pc lv (.int i :: .ref a :: st) := by
  subst h2
  subst hv
  obtain ⟨q, hq⟩ := hat
  exact fun H locs ls hP hD hS hl => va_iald C.1 C.2.1 C.2.2.2.2.2.1 hP q 0 hq rfl hin hdg (kk H locs ls hP hD hS hl)
theorem pk_iastX (C : pw_C Z cc nL own Ts R0 ret) {a N : Nat} {f : Nat → Int32} {i : Int32} {x : Int32} {X' : va_W} (q : Nat) (hat : X[q]? = some (a, .inl ((zG Z).2.1, N, .inl f))) (hin : vp_in i N) (hX : X.set q (a, .inl ((zG Z).2.1, N, .inl (upd f i.toNatClampNeg x))) = X') (hdg : decode cc pc = .ok (.iastore, 1)) (h2 : pc + 1 = pc2) (kk : PW Z X' L F k n Q pc2 lv st) : PW Z X L F k n Q pc lv (.int x :: .int i :: .ref a :: st) := by
  subst h2
  subst hX
  have hq : (X ++ va_pl L F)[q]? = some (a, .inl ((zG Z).2.1, N, .inl f)) := by rw [List.getElem?_append_left (List.getElem?_eq_some_iff.mp hat).1]; exact hat
  refine fun H locs ls hP hD hS hl => va_iast C.1 C.2.1 C.2.2.2.2.2.1 hP hD hS q 0 hq rfl hin hdg (fun H1 locs1 hP1 hD1 hS1 => ?_)
  rw [pw_setX hat] at hP1 hD1
  exact kk H1 locs1 ls hP1 hD1 hS1 hl
theorem pk_iastP (C : pw_C Z cc nL own Ts R0 ret) {a N : Nat} {f : Nat → Int32} {i : Int32} {x : Int32} (hL : a ∈ L) (hat : F a = .inl ((zG Z).2.1, N, .inl f)) (hin : vp_in i N) (hdg : decode cc pc = .ok (.iastore, 1)) (h2 : pc + 1 = pc2) (kk : PW Z X L (va_up F a (.inl ((zG Z).2.1, N, .inl (upd f i.toNatClampNeg x)))) k n Q pc2 lv st) : PW Z X L F k n Q pc lv (.int x :: .int i :: .ref a :: st) := by
  subst h2
  obtain ⟨q, hq⟩ := va_pl_get (X := X) (f := F) hL
  have hq2 : (X ++ va_pl L F)[q]? = some (a, .inl ((zG Z).2.1, N, .inl f)) := by rw [hq, hat]
  refine fun H locs ls hP hD hS hl => va_iast C.1 C.2.1 C.2.2.2.2.2.1 hP hD hS q 0 hq2 rfl hin hdg (fun H1 locs1 hP1 hD1 hS1 => ?_)
  rw [va_pl_set hD hL hq] at hP1 hD1
  exact kk H1 locs1 ls hP1 hD1 hS1 hl
theorem pk_lald (C : pw_C Z cc nL own Ts R0 ret) {a N : Nat} {f : Nat → Int64} {i : Int32} {v : Int64} (hat : pw_at X L F a (.inl ((zG Z).2.2.1, N, .inr (.inl f)))) (hin : vp_in i N) (hv : f i.toNatClampNeg = v) (hdg : decode cc pc = .ok (.laload, 1)) (h2 : pc + 1 = pc2) (kk : PW Z X L F k n Q pc2 lv (.long v :: st)) : PW Z X L F k n Q pc lv (.int i :: .ref a :: st) := by
  subst h2
  subst hv
  obtain ⟨q, hq⟩ := hat
  exact fun H locs ls hP hD hS hl => va_lald C.1 C.2.1 C.2.2.2.2.2.1 hP q 1 hq rfl hin hdg (kk H locs ls hP hD hS hl)
theorem pk_lastX (C : pw_C Z cc nL own Ts R0 ret) {a N : Nat} {f : Nat → Int64} {i : Int32} {x : Int64} {X' : va_W} (q : Nat) (hat : X[q]? = some (a, .inl ((zG Z).2.2.1, N, .inr (.inl f)))) (hin : vp_in i N) (hX : X.set q (a, .inl ((zG Z).2.2.1, N, .inr (.inl (vp_updL f i.toNatClampNeg x)))) = X') (hdg : decode cc pc = .ok (.lastore, 1)) (h2 : pc + 1 = pc2) (kk : PW Z X' L F k n Q pc2 lv st) : PW Z X L F k n Q pc lv (.long x :: .int i :: .ref a :: st) := by
  subst h2
  subst hX
  have hq : (X ++ va_pl L F)[q]? = some (a, .inl ((zG Z).2.2.1, N, .inr (.inl f))) := by rw [List.getElem?_append_left (List.getElem?_eq_some_iff.mp hat).1]; exact hat
  refine fun H locs ls hP hD hS hl => va_last C.1 C.2.1 C.2.2.2.2.2.1 hP hD hS q 1 hq rfl hin hdg (fun H1 locs1 hP1 hD1 hS1 => ?_)
  rw [pw_setX hat] at hP1 hD1
  exact kk H1 locs1 ls hP1 hD1 hS1 hl
theorem pk_lastP (C : pw_C Z cc nL own Ts R0 ret) {a N : Nat} {f : Nat → Int64} {i : Int32} {x : Int64} (hL : a ∈ L) (hat : F a = .inl ((zG Z).2.2.1, N, .inr (.inl f))) (hin : vp_in i N) (hdg : decode cc pc = .ok (.lastore, 1)) (h2 : pc + 1 = pc2) (kk : PW Z X L (va_up F a (.inl ((zG Z).2.2.1, N, .inr (.inl (vp_updL f i.toNatClampNeg x))))) k n Q pc2 lv st) : PW Z X L F k n Q pc lv (.long x :: .int i :: .ref a :: st) := by
  subst h2
  obtain ⟨q, hq⟩ := va_pl_get (X := X) (f := F) hL
  have hq2 : (X ++ va_pl L F)[q]? = some (a, .inl ((zG Z).2.2.1, N, .inr (.inl f))) := by rw [hq, hat]
  refine fun H locs ls hP hD hS hl => va_last C.1 C.2.1 C.2.2.2.2.2.1 hP hD hS q 1 hq2 rfl hin hdg (fun H1 locs1 hP1 hD1 hS1 => ?_)
  rw [va_pl_set hD hL hq] at hP1 hD1
  exact kk H1 locs1 ls hP1 hD1 hS1 hl
theorem pk_aldE (C : pw_C Z cc nL own Ts R0 ret) {a N : Nat} {f : Nat → Option Nat} {i : Int32} {r : Option Nat} (hat : pw_at X L F a (.inl ((zG Z).2.2.2.1, N, .inr (.inr (.inr (.inr f)))))) (hin : vp_in i N) (hv : f i.toNatClampNeg = r) (hdg : decode cc pc = .ok (.aaload, 1)) (h2 : pc + 1 = pc2) (kk : PW Z X L F k n Q pc2 lv (va_rf r :: st)) : PW Z X L F k n Q pc lv (.int i :: .ref a :: st) := by
  subst h2
  subst hv
  obtain ⟨q, hq⟩ := hat
  exact fun H locs ls hP hD hS hl => va_aldq (C := RX1) C.1 C.2.1 C.2.2.2.2.2.1 hP q 2 hq rfl hin hdg (kk H locs ls hP hD hS hl)
theorem pk_astEX (C : pw_C Z cc nL own Ts R0 ret) {a N b : Nat} {f : Nat → Option Nat} {i : Int32} {vs : List Value} {X' : va_W} (q : Nat) (hat : X[q]? = some (a, .inl ((zG Z).2.2.2.1, N, .inr (.inr (.inr (.inr f)))))) (hb : pw_at X L F b (.inr (1, vs))) (hin : vp_in i N) (hX : X.set q (a, .inl ((zG Z).2.2.2.1, N, .inr (.inr (.inr (.inr (va_up f i.toNatClampNeg (some b))))))) = X') (hdg : decode cc pc = .ok (.aastore, 1)) (h2 : pc + 1 = pc2) (kk : PW Z X' L F k n Q pc2 lv st) : PW Z X L F k n Q pc lv (.ref b :: .int i :: .ref a :: st) := by
  subst h2
  subst hX
  have hq : (X ++ va_pl L F)[q]? = some (a, .inl ((zG Z).2.2.2.1, N, .inr (.inr (.inr (.inr f))))) := by rw [List.getElem?_append_left (List.getElem?_eq_some_iff.mp hat).1]; exact hat
  obtain ⟨qb, hqb⟩ := hb
  refine fun H locs ls hP hD hS hl => va_astq (r := vwCl[1]) C.1 C.2.1 C.2.2.2.2.2.1 hP hD hS q 2 qb 1 hq rfl hqb rfl hin hdg (fun H1 locs1 hP1 hD1 hS1 => ?_)
  rw [pw_setX hat] at hP1 hD1
  exact kk H1 locs1 ls hP1 hD1 hS1 hl
theorem pk_astEXN (C : pw_C Z cc nL own Ts R0 ret) {a N : Nat} {f : Nat → Option Nat} {i : Int32} {X' : va_W} (q : Nat) (hat : X[q]? = some (a, .inl ((zG Z).2.2.2.1, N, .inr (.inr (.inr (.inr f)))))) (hin : vp_in i N) (hX : X.set q (a, .inl ((zG Z).2.2.2.1, N, .inr (.inr (.inr (.inr (va_up f i.toNatClampNeg none)))))) = X') (hdg : decode cc pc = .ok (.aastore, 1)) (h2 : pc + 1 = pc2) (kk : PW Z X' L F k n Q pc2 lv st) : PW Z X L F k n Q pc lv (.null :: .int i :: .ref a :: st) := by
  subst h2
  subst hX
  have hq : (X ++ va_pl L F)[q]? = some (a, .inl ((zG Z).2.2.2.1, N, .inr (.inr (.inr (.inr f))))) := by rw [List.getElem?_append_left (List.getElem?_eq_some_iff.mp hat).1]; exact hat
  refine fun H locs ls hP hD hS hl => va_astqN (C := RX1) C.1 C.2.1 C.2.2.2.2.2.1 hP hD hS q 2 hq rfl hin hdg (fun H1 locs1 hP1 hD1 hS1 => ?_)
  rw [pw_setX hat] at hP1 hD1
  exact kk H1 locs1 ls hP1 hD1 hS1 hl
theorem pk_astEP (C : pw_C Z cc nL own Ts R0 ret) {a N b : Nat} {f : Nat → Option Nat} {i : Int32} {vs : List Value} (hL : a ∈ L) (hat : F a = .inl ((zG Z).2.2.2.1, N, .inr (.inr (.inr (.inr f))))) (hb : pw_at X L F b (.inr (1, vs))) (hin : vp_in i N) (hdg : decode cc pc = .ok (.aastore, 1)) (h2 : pc + 1 = pc2) (kk : PW Z X L (va_up F a (.inl ((zG Z).2.2.2.1, N, .inr (.inr (.inr (.inr (va_up f i.toNatClampNeg (some b)))))))) k n Q pc2 lv st) : PW Z X L F k n Q pc lv (.ref b :: .int i :: .ref a :: st) := by
  subst h2
  obtain ⟨q, hq⟩ := va_pl_get (X := X) (f := F) hL
  have hq2 : (X ++ va_pl L F)[q]? = some (a, .inl ((zG Z).2.2.2.1, N, .inr (.inr (.inr (.inr f))))) := by rw [hq, hat]
  obtain ⟨qb, hqb⟩ := hb
  refine fun H locs ls hP hD hS hl => va_astq (r := vwCl[1]) C.1 C.2.1 C.2.2.2.2.2.1 hP hD hS q 2 qb 1 hq2 rfl hqb rfl hin hdg (fun H1 locs1 hP1 hD1 hS1 => ?_)
  rw [va_pl_set hD hL hq] at hP1 hD1
  exact kk H1 locs1 ls hP1 hD1 hS1 hl
theorem pk_astEPN (C : pw_C Z cc nL own Ts R0 ret) {a N : Nat} {f : Nat → Option Nat} {i : Int32} (hL : a ∈ L) (hat : F a = .inl ((zG Z).2.2.2.1, N, .inr (.inr (.inr (.inr f))))) (hin : vp_in i N) (hdg : decode cc pc = .ok (.aastore, 1)) (h2 : pc + 1 = pc2) (kk : PW Z X L (va_up F a (.inl ((zG Z).2.2.2.1, N, .inr (.inr (.inr (.inr (va_up f i.toNatClampNeg none))))))) k n Q pc2 lv st) : PW Z X L F k n Q pc lv (.null :: .int i :: .ref a :: st) := by
  subst h2
  obtain ⟨q, hq⟩ := va_pl_get (X := X) (f := F) hL
  have hq2 : (X ++ va_pl L F)[q]? = some (a, .inl ((zG Z).2.2.2.1, N, .inr (.inr (.inr (.inr f))))) := by rw [hq, hat]
  refine fun H locs ls hP hD hS hl => va_astqN (C := RX1) C.1 C.2.1 C.2.2.2.2.2.1 hP hD hS q 2 hq2 rfl hin hdg (fun H1 locs1 hP1 hD1 hS1 => ?_)
  rw [va_pl_set hD hL hq] at hP1 hD1
  exact kk H1 locs1 ls hP1 hD1 hS1 hl
theorem pk_aldP (C : pw_C Z cc nL own Ts R0 ret) {a N : Nat} {f : Nat → Option Nat} {i : Int32} {r : Option Nat} (hat : pw_at X L F a (.inl ((zG Z).2.2.2.2, N, .inr (.inr (.inr (.inr f)))))) (hin : vp_in i N) (hv : f i.toNatClampNeg = r) (hdg : decode cc pc = .ok (.aaload, 1)) (h2 : pc + 1 = pc2) (kk : PW Z X L F k n Q pc2 lv (va_rf r :: st)) : PW Z X L F k n Q pc lv (.int i :: .ref a :: st) := by
  subst h2
  subst hv
  obtain ⟨q, hq⟩ := hat
  exact fun H locs ls hP hD hS hl => va_aldq (C := RX2) C.1 C.2.1 C.2.2.2.2.2.1 hP q 3 hq rfl hin hdg (kk H locs ls hP hD hS hl)
theorem pk_astPX (C : pw_C Z cc nL own Ts R0 ret) {a N b : Nat} {f : Nat → Option Nat} {i : Int32} {vs : List Value} {X' : va_W} (q : Nat) (hat : X[q]? = some (a, .inl ((zG Z).2.2.2.2, N, .inr (.inr (.inr (.inr f)))))) (hb : pw_at X L F b (.inr (2, vs))) (hin : vp_in i N) (hX : X.set q (a, .inl ((zG Z).2.2.2.2, N, .inr (.inr (.inr (.inr (va_up f i.toNatClampNeg (some b))))))) = X') (hdg : decode cc pc = .ok (.aastore, 1)) (h2 : pc + 1 = pc2) (kk : PW Z X' L F k n Q pc2 lv st) : PW Z X L F k n Q pc lv (.ref b :: .int i :: .ref a :: st) := by
  subst h2
  subst hX
  have hq : (X ++ va_pl L F)[q]? = some (a, .inl ((zG Z).2.2.2.2, N, .inr (.inr (.inr (.inr f))))) := by rw [List.getElem?_append_left (List.getElem?_eq_some_iff.mp hat).1]; exact hat
  obtain ⟨qb, hqb⟩ := hb
  refine fun H locs ls hP hD hS hl => va_astq (r := vwCl[2]) C.1 C.2.1 C.2.2.2.2.2.1 hP hD hS q 3 qb 2 hq rfl hqb rfl hin hdg (fun H1 locs1 hP1 hD1 hS1 => ?_)
  rw [pw_setX hat] at hP1 hD1
  exact kk H1 locs1 ls hP1 hD1 hS1 hl
theorem pk_astPXN (C : pw_C Z cc nL own Ts R0 ret) {a N : Nat} {f : Nat → Option Nat} {i : Int32} {X' : va_W} (q : Nat) (hat : X[q]? = some (a, .inl ((zG Z).2.2.2.2, N, .inr (.inr (.inr (.inr f)))))) (hin : vp_in i N) (hX : X.set q (a, .inl ((zG Z).2.2.2.2, N, .inr (.inr (.inr (.inr (va_up f i.toNatClampNeg none)))))) = X') (hdg : decode cc pc = .ok (.aastore, 1)) (h2 : pc + 1 = pc2) (kk : PW Z X' L F k n Q pc2 lv st) : PW Z X L F k n Q pc lv (.null :: .int i :: .ref a :: st) := by
  subst h2
  subst hX
  have hq : (X ++ va_pl L F)[q]? = some (a, .inl ((zG Z).2.2.2.2, N, .inr (.inr (.inr (.inr f))))) := by rw [List.getElem?_append_left (List.getElem?_eq_some_iff.mp hat).1]; exact hat
  refine fun H locs ls hP hD hS hl => va_astqN (C := RX2) C.1 C.2.1 C.2.2.2.2.2.1 hP hD hS q 3 hq rfl hin hdg (fun H1 locs1 hP1 hD1 hS1 => ?_)
  rw [pw_setX hat] at hP1 hD1
  exact kk H1 locs1 ls hP1 hD1 hS1 hl
theorem pk_astPP (C : pw_C Z cc nL own Ts R0 ret) {a N b : Nat} {f : Nat → Option Nat} {i : Int32} {vs : List Value} (hL : a ∈ L) (hat : F a = .inl ((zG Z).2.2.2.2, N, .inr (.inr (.inr (.inr f))))) (hb : pw_at X L F b (.inr (2, vs))) (hin : vp_in i N) (hdg : decode cc pc = .ok (.aastore, 1)) (h2 : pc + 1 = pc2) (kk : PW Z X L (va_up F a (.inl ((zG Z).2.2.2.2, N, .inr (.inr (.inr (.inr (va_up f i.toNatClampNeg (some b)))))))) k n Q pc2 lv st) : PW Z X L F k n Q pc lv (.ref b :: .int i :: .ref a :: st) := by
  subst h2
  obtain ⟨q, hq⟩ := va_pl_get (X := X) (f := F) hL
  have hq2 : (X ++ va_pl L F)[q]? = some (a, .inl ((zG Z).2.2.2.2, N, .inr (.inr (.inr (.inr f))))) := by rw [hq, hat]
  obtain ⟨qb, hqb⟩ := hb
  refine fun H locs ls hP hD hS hl => va_astq (r := vwCl[2]) C.1 C.2.1 C.2.2.2.2.2.1 hP hD hS q 3 qb 2 hq2 rfl hqb rfl hin hdg (fun H1 locs1 hP1 hD1 hS1 => ?_)
  rw [va_pl_set hD hL hq] at hP1 hD1
  exact kk H1 locs1 ls hP1 hD1 hS1 hl
theorem pk_astPPN (C : pw_C Z cc nL own Ts R0 ret) {a N : Nat} {f : Nat → Option Nat} {i : Int32} (hL : a ∈ L) (hat : F a = .inl ((zG Z).2.2.2.2, N, .inr (.inr (.inr (.inr f))))) (hin : vp_in i N) (hdg : decode cc pc = .ok (.aastore, 1)) (h2 : pc + 1 = pc2) (kk : PW Z X L (va_up F a (.inl ((zG Z).2.2.2.2, N, .inr (.inr (.inr (.inr (va_up f i.toNatClampNeg none))))))) k n Q pc2 lv st) : PW Z X L F k n Q pc lv (.null :: .int i :: .ref a :: st) := by
  subst h2
  obtain ⟨q, hq⟩ := va_pl_get (X := X) (f := F) hL
  have hq2 : (X ++ va_pl L F)[q]? = some (a, .inl ((zG Z).2.2.2.2, N, .inr (.inr (.inr (.inr f))))) := by rw [hq, hat]
  refine fun H locs ls hP hD hS hl => va_astqN (C := RX2) C.1 C.2.1 C.2.2.2.2.2.1 hP hD hS q 3 hq2 rfl hin hdg (fun H1 locs1 hP1 hD1 hS1 => ?_)
  rw [va_pl_set hD hL hq] at hP1 hD1
  exact kk H1 locs1 ls hP1 hD1 hS1 hl
theorem pk_topi {x : Int32} (kk : ∀ y : Int32, y = x → PW Z X L F k n Q pc lv (.int y :: st)) : PW Z X L F k n Q pc lv (.int x :: st) := kk x rfl
theorem pk_topl {x : Int64} (kk : ∀ y : Int64, y = x → PW Z X L F k n Q pc lv (.long y :: st)) : PW Z X L F k n Q pc lv (.long x :: st) := kk x rfl
end PWR
